theorem dX11_tallyFirsts_0 : decode cX11_tallyFirsts 0 = .ok (.aload_n 0, 1) := dw42 (n := 0) (i := 0) kc_cX11_tallyFirsts_0 (by decide +kernel)
theorem dX11_tallyFirsts_1 : decode cX11_tallyFirsts 1 = .ok (.invokevirtual 214, 3) := dw182 (n := 0) (i := 1) (a := 0) (b := 214) kc_cX11_tallyFirsts_0 (by decide +kernel) (by decide)
set_option maxRecDepth 20000 in
theorem ggX11_tallyFirsts_X11_noTallies : GoodIn wsX11_tallyFirsts wsX11_noTallies := (gk_code 9 rfl (gk_fieldLink 10 rfl (gk_fieldLink 11 rfl (gk_lays 39 rfl (gk_laysFinal 40 rfl (gk_lays 41 rfl (gk_laysFinal 42 rfl (gk_lays 43 rfl (gk_laysFinal 44 rfl (gk_laysFinal 45 rfl (gk_laysFinal 46 rfl (gk_laysFinal 47 rfl (gk_lays 48 rfl (gk_laysFinal 49 rfl (gk_laysFinal 50 rfl (gk_laysFinal 51 rfl (gk_laysFinal 52 rfl (gk_lays 53 rfl (gk_laysFinal 54 rfl (gk_laysFinal 55 rfl (gk_laysFinal 56 rfl (gk_laysFinal 57 rfl (gk_laysFinal 58 rfl (gk_laysFinal 59 rfl (gk_laysFinal 60 rfl (gk_laysFinal 61 rfl (gk_lays 62 rfl (gk_lays 63 rfl (gk_lays 64 rfl (gk_lays 65 rfl (gk_lays 66 rfl (gk_lays 67 rfl (gk_lays 68 rfl (gk_laysFinal 69 rfl (gk_lays 70 rfl (gk_laysFinal 71 rfl (gk_laysFinal 72 rfl (gk_laysFinal 73 rfl (gk_laysFinal 74 rfl (gk_laysFinal 75 rfl (gk_laysFinal 76 rfl (gk_laysFinal 77 rfl (gk_laysFinal 78 rfl (gk_laysFinal 79 rfl (gk_laysFinal 80 rfl (gk_lays 81 rfl (gk_laysFinal 82 rfl (gk_lays 83 rfl (gk_laysFinal 84 rfl (gk_laysFinal 85 rfl (gk_laysFinal 86 rfl (gk_laysFinal 87 rfl (gk_laysFinal 88 rfl (gk_laysFinal 89 rfl (gk_laysFinal 90 rfl (gk_laysFinal 91 rfl (gn)))))))))))))))))))))))))))))))))))))))))))))))))))))))))
set_option maxRecDepth 20000 in
theorem gX11_tallyFirsts_X11_noTallies : GoodIn wsX11_tallyFirsts (wsV RX11 214 RX11 yX11_noTallies wsX11_noTallies) := goodIn_app (gk_methodLink 5 rfl (gk_instanceMethod 6 rfl (gk_selects 7 rfl (gk_initialized 8 rfl (gn))))) ggX11_tallyFirsts_X11_noTallies
theorem dX11_tallyFirsts_4 : decode cX11_tallyFirsts 4 = .ok (.iconst 0, 1) := dw3 (n := 0) (i := 4) kc_cX11_tallyFirsts_0 (by decide +kernel)
theorem dX11_tallyFirsts_5 : decode cX11_tallyFirsts 5 = .ok (.istore_n 1, 1) := dw60 (n := 0) (i := 5) kc_cX11_tallyFirsts_0 (by decide +kernel)
theorem dX11_tallyFirsts_6 : decode cX11_tallyFirsts 6 = .ok (.iload_n 1, 1) := dw27 (n := 0) (i := 6) kc_cX11_tallyFirsts_0 (by decide +kernel)
theorem dX11_tallyFirsts_7 : decode cX11_tallyFirsts 7 = .ok (.aload_n 0, 1) := dw42 (n := 0) (i := 7) kc_cX11_tallyFirsts_0 (by decide +kernel)
theorem dX11_tallyFirsts_8 : decode cX11_tallyFirsts 8 = .ok (.getfield 31, 3) := dw180 (n := 0) (i := 8) (a := 0) (b := 31) kc_cX11_tallyFirsts_0 (by decide +kernel) (by decide)
theorem in_X11_tallyFirsts_11 : ∀ w ∈ u_ws RX11 TX11 53, w ∈ wsX11_tallyFirsts := fun _ h => List.mem_cons_of_mem _ (List.mem_append_right _ h)
theorem dX11_tallyFirsts_11 : decode cX11_tallyFirsts 11 = .ok (.aload_n 0, 1) := dw42 (n := 0) (i := 11) kc_cX11_tallyFirsts_0 (by decide +kernel)
theorem dX11_tallyFirsts_12 : decode cX11_tallyFirsts 12 = .ok (.getfield 201, 3) := dw180 (n := 0) (i := 12) (a := 0) (b := 201) kc_cX11_tallyFirsts_0 (by decide +kernel) (by decide)
theorem dX11_tallyFirsts_15 : decode cX11_tallyFirsts 15 = .ok (.iaload, 1) := dw46 (n := 0) (i := 15) kc_cX11_tallyFirsts_0 (by decide +kernel)
theorem dX11_tallyFirsts_16 : decode cX11_tallyFirsts 16 = .ok (.if_icmp .ge 55, 3) := dw162 (n := 0) (i := 16) (a := 0) (b := 55) kc_cX11_tallyFirsts_0 (by decide +kernel) (by decide)
theorem dX11_tallyFirsts_71 : decode cX11_tallyFirsts 71 = .ok (.return_, 1) := dw177 (n := 64) (i := 7) kc_cX11_tallyFirsts_2 (by decide +kernel)
theorem dX11_tallyFirsts_19 : decode cX11_tallyFirsts 19 = .ok (.aload_n 0, 1) := dw42 (n := 0) (i := 19) kc_cX11_tallyFirsts_0 (by decide +kernel)
theorem dX11_tallyFirsts_20 : decode cX11_tallyFirsts 20 = .ok (.iload_n 1, 1) := dw27 (n := 0) (i := 20) kc_cX11_tallyFirsts_0 (by decide +kernel)
theorem dX11_tallyFirsts_21 : decode cX11_tallyFirsts 21 = .ok (.invokevirtual 217, 3) := dw182 (n := 0) (i := 21) (a := 0) (b := 217) kc_cX11_tallyFirsts_0 (by decide +kernel) (by decide)
set_option maxRecDepth 20000 in
theorem ggX11_tallyFirsts_X11_ballotAt : GoodIn wsX11_tallyFirsts wsX11_ballotAt := (gk_code 15 rfl (gk_fieldLink 16 rfl (gk_fieldLink 2 rfl (gk_lays 39 rfl (gk_laysFinal 40 rfl (gk_lays 41 rfl (gk_laysFinal 42 rfl (gk_lays 43 rfl (gk_laysFinal 44 rfl (gk_laysFinal 45 rfl (gk_laysFinal 46 rfl (gk_laysFinal 47 rfl (gk_lays 48 rfl (gk_laysFinal 49 rfl (gk_laysFinal 50 rfl (gk_laysFinal 51 rfl (gk_laysFinal 52 rfl (gk_lays 53 rfl (gk_laysFinal 54 rfl (gk_laysFinal 55 rfl (gk_laysFinal 56 rfl (gk_laysFinal 57 rfl (gk_laysFinal 58 rfl (gk_laysFinal 59 rfl (gk_laysFinal 60 rfl (gk_laysFinal 61 rfl (gk_lays 62 rfl (gk_lays 63 rfl (gk_lays 64 rfl (gk_lays 65 rfl (gk_lays 66 rfl (gk_lays 67 rfl (gk_lays 68 rfl (gk_laysFinal 69 rfl (gk_lays 70 rfl (gk_laysFinal 71 rfl (gk_laysFinal 72 rfl (gk_laysFinal 73 rfl (gk_laysFinal 74 rfl (gk_laysFinal 75 rfl (gk_laysFinal 76 rfl (gk_laysFinal 77 rfl (gk_laysFinal 78 rfl (gk_laysFinal 79 rfl (gk_laysFinal 80 rfl (gk_lays 81 rfl (gk_laysFinal 82 rfl (gk_lays 83 rfl (gk_laysFinal 84 rfl (gk_laysFinal 85 rfl (gk_laysFinal 86 rfl (gk_laysFinal 87 rfl (gk_laysFinal 88 rfl (gk_laysFinal 89 rfl (gk_laysFinal 90 rfl (gk_laysFinal 91 rfl (gn)))))))))))))))))))))))))))))))))))))))))))))))))))))))))
set_option maxRecDepth 20000 in
theorem gX11_tallyFirsts_X11_ballotAt : GoodIn wsX11_tallyFirsts (wsV RX11 217 RX11 yX11_ballotAt wsX11_ballotAt) := goodIn_app (gk_methodLink 12 rfl (gk_instanceMethod 13 rfl (gk_selects 14 rfl (gk_initialized 8 rfl (gn))))) ggX11_tallyFirsts_X11_ballotAt
theorem dX11_tallyFirsts_24 : decode cX11_tallyFirsts 24 = .ok (.istore_n 2, 1) := dw61 (n := 0) (i := 24) kc_cX11_tallyFirsts_0 (by decide +kernel)
theorem dX11_tallyFirsts_25 : decode cX11_tallyFirsts 25 = .ok (.iload_n 2, 1) := dw28 (n := 0) (i := 25) kc_cX11_tallyFirsts_0 (by decide +kernel)
theorem dX11_tallyFirsts_26 : decode cX11_tallyFirsts 26 = .ok (.bipush (-9), 2) := dw16 (n := 0) (i := 26) (a := 247) kc_cX11_tallyFirsts_0 (by decide +kernel) (by decide)
theorem dX11_tallyFirsts_28 : decode cX11_tallyFirsts 28 = .ok (.if_icmp .ne 8, 3) := dw160 (n := 0) (i := 28) (a := 0) (b := 8) kc_cX11_tallyFirsts_0 (by decide +kernel) (by decide)
theorem dX11_tallyFirsts_36 : decode cX11_tallyFirsts 36 = .ok (.aload_n 0, 1) := dw42 (n := 32) (i := 4) kc_cX11_tallyFirsts_1 (by decide +kernel)
theorem dX11_tallyFirsts_37 : decode cX11_tallyFirsts 37 = .ok (.iload_n 2, 1) := dw28 (n := 32) (i := 5) kc_cX11_tallyFirsts_1 (by decide +kernel)
theorem dX11_tallyFirsts_38 : decode cX11_tallyFirsts 38 = .ok (.invokevirtual 220, 3) := dw182 (n := 32) (i := 6) (a := 0) (b := 220) kc_cX11_tallyFirsts_1 (by decide +kernel) (by decide)
set_option maxRecDepth 20000 in
theorem ggX11_tallyFirsts_X11_firstOn : GoodIn wsX11_tallyFirsts wsX11_firstOn := (gk_code 20 rfl (gk_fieldLink 21 rfl (gk_fieldLink 22 rfl (gk_fieldLink 23 rfl (gk_lays 39 rfl (gk_laysFinal 40 rfl (gk_lays 41 rfl (gk_laysFinal 42 rfl (gk_lays 43 rfl (gk_laysFinal 44 rfl (gk_laysFinal 45 rfl (gk_laysFinal 46 rfl (gk_laysFinal 47 rfl (gk_lays 48 rfl (gk_laysFinal 49 rfl (gk_laysFinal 50 rfl (gk_laysFinal 51 rfl (gk_laysFinal 52 rfl (gk_lays 53 rfl (gk_laysFinal 54 rfl (gk_laysFinal 55 rfl (gk_laysFinal 56 rfl (gk_laysFinal 57 rfl (gk_laysFinal 58 rfl (gk_laysFinal 59 rfl (gk_laysFinal 60 rfl (gk_laysFinal 61 rfl (gk_lays 62 rfl (gk_lays 63 rfl (gk_lays 64 rfl (gk_lays 65 rfl (gk_lays 66 rfl (gk_lays 67 rfl (gk_lays 68 rfl (gk_laysFinal 69 rfl (gk_lays 70 rfl (gk_laysFinal 71 rfl (gk_laysFinal 72 rfl (gk_laysFinal 73 rfl (gk_laysFinal 74 rfl (gk_laysFinal 75 rfl (gk_laysFinal 76 rfl (gk_laysFinal 77 rfl (gk_laysFinal 78 rfl (gk_laysFinal 79 rfl (gk_laysFinal 80 rfl (gk_lays 81 rfl (gk_laysFinal 82 rfl (gk_lays 83 rfl (gk_laysFinal 84 rfl (gk_laysFinal 85 rfl (gk_laysFinal 86 rfl (gk_laysFinal 87 rfl (gk_laysFinal 88 rfl (gk_laysFinal 89 rfl (gk_laysFinal 90 rfl (gk_laysFinal 91 rfl (gn))))))))))))))))))))))))))))))))))))))))))))))))))))))))))
set_option maxRecDepth 20000 in
theorem gX11_tallyFirsts_X11_firstOn : GoodIn wsX11_tallyFirsts (wsV RX11 220 RX11 yX11_firstOn wsX11_firstOn) := goodIn_app (gk_methodLink 17 rfl (gk_instanceMethod 18 rfl (gk_selects 19 rfl (gk_initialized 8 rfl (gn))))) ggX11_tallyFirsts_X11_firstOn
theorem dX11_tallyFirsts_41 : decode cX11_tallyFirsts 41 = .ok (.istore_n 3, 1) := dw62 (n := 32) (i := 9) kc_cX11_tallyFirsts_1 (by decide +kernel)
theorem dX11_tallyFirsts_42 : decode cX11_tallyFirsts 42 = .ok (.iload_n 3, 1) := dw29 (n := 32) (i := 10) kc_cX11_tallyFirsts_1 (by decide +kernel)
theorem dX11_tallyFirsts_43 : decode cX11_tallyFirsts 43 = .ok (.bipush (-9), 2) := dw16 (n := 32) (i := 11) (a := 247) kc_cX11_tallyFirsts_1 (by decide +kernel) (by decide)
theorem dX11_tallyFirsts_45 : decode cX11_tallyFirsts 45 = .ok (.if_icmp .eq 20, 3) := dw159 (n := 32) (i := 13) (a := 0) (b := 20) kc_cX11_tallyFirsts_1 (by decide +kernel) (by decide)
theorem dX11_tallyFirsts_65 : decode cX11_tallyFirsts 65 = .ok (.iinc 1 1, 3) := by decide +kernel
theorem dX11_tallyFirsts_68 : decode cX11_tallyFirsts 68 = .ok (.goto (-62), 3) := dw167 (n := 64) (i := 4) (a := 255) (b := 194) kc_cX11_tallyFirsts_2 (by decide +kernel) (by decide)
theorem dX11_tallyFirsts_48 : decode cX11_tallyFirsts 48 = .ok (.aload_n 0, 1) := dw42 (n := 32) (i := 16) kc_cX11_tallyFirsts_1 (by decide +kernel)
theorem dX11_tallyFirsts_49 : decode cX11_tallyFirsts 49 = .ok (.iload_n 3, 1) := dw29 (n := 32) (i := 17) kc_cX11_tallyFirsts_1 (by decide +kernel)
theorem dX11_tallyFirsts_50 : decode cX11_tallyFirsts 50 = .ok (.aload_n 0, 1) := dw42 (n := 32) (i := 18) kc_cX11_tallyFirsts_1 (by decide +kernel)
theorem dX11_tallyFirsts_51 : decode cX11_tallyFirsts 51 = .ok (.getfield 93, 3) := dw180 (n := 32) (i := 19) (a := 0) (b := 93) kc_cX11_tallyFirsts_1 (by decide +kernel) (by decide)
theorem dX11_tallyFirsts_54 : decode cX11_tallyFirsts 54 = .ok (.iload_n 1, 1) := dw27 (n := 32) (i := 22) kc_cX11_tallyFirsts_1 (by decide +kernel)
theorem dX11_tallyFirsts_55 : decode cX11_tallyFirsts 55 = .ok (.laload, 1) := dw47 (n := 32) (i := 23) kc_cX11_tallyFirsts_1 (by decide +kernel)
theorem dX11_tallyFirsts_56 : decode cX11_tallyFirsts 56 = .ok (.aload_n 0, 1) := dw42 (n := 32) (i := 24) kc_cX11_tallyFirsts_1 (by decide +kernel)
theorem dX11_tallyFirsts_57 : decode cX11_tallyFirsts 57 = .ok (.getfield 96, 3) := dw180 (n := 32) (i := 25) (a := 0) (b := 96) kc_cX11_tallyFirsts_1 (by decide +kernel) (by decide)
theorem dX11_tallyFirsts_60 : decode cX11_tallyFirsts 60 = .ok (.iload_n 1, 1) := dw27 (n := 32) (i := 28) kc_cX11_tallyFirsts_1 (by decide +kernel)
theorem dX11_tallyFirsts_61 : decode cX11_tallyFirsts 61 = .ok (.laload, 1) := dw47 (n := 32) (i := 29) kc_cX11_tallyFirsts_1 (by decide +kernel)
theorem dX11_tallyFirsts_62 : decode cX11_tallyFirsts 62 = .ok (.invokevirtual 223, 3) := dw182 (n := 32) (i := 30) (a := 0) (b := 223) kc_cX11_tallyFirsts_1 (by decide +kernel) (by decide)
set_option maxRecDepth 20000 in
theorem ggX11_tallyFirsts_X11_addTo : GoodIn wsX11_tallyFirsts wsX11_addTo := (gk_code 27 rfl (gk_fieldLink 10 rfl (gk_fieldLink 11 rfl (gk_fieldLink 28 rfl (gk_fieldLink 29 rfl (gk_methodLink 30 rfl (gk_instanceMethod 31 rfl (gk_selects 32 rfl (gk_initialized 8 rfl (gk_code 33 rfl (gk_fieldLink 34 rfl (gk_constantLong 35 rfl (gk_methodLink 36 rfl (gk_static 37 rfl (gk_code 38 rfl (gk_lays 39 rfl (gk_laysFinal 40 rfl (gk_lays 41 rfl (gk_laysFinal 42 rfl (gk_lays 43 rfl (gk_laysFinal 44 rfl (gk_laysFinal 45 rfl (gk_laysFinal 46 rfl (gk_laysFinal 47 rfl (gk_lays 48 rfl (gk_laysFinal 49 rfl (gk_laysFinal 50 rfl (gk_laysFinal 51 rfl (gk_laysFinal 52 rfl (gk_lays 53 rfl (gk_laysFinal 54 rfl (gk_laysFinal 55 rfl (gk_laysFinal 56 rfl (gk_laysFinal 57 rfl (gk_laysFinal 58 rfl (gk_laysFinal 59 rfl (gk_laysFinal 60 rfl (gk_laysFinal 61 rfl (gk_lays 62 rfl (gk_lays 63 rfl (gk_lays 64 rfl (gk_lays 65 rfl (gk_lays 66 rfl (gk_lays 67 rfl (gk_lays 68 rfl (gk_laysFinal 69 rfl (gk_lays 70 rfl (gk_laysFinal 71 rfl (gk_laysFinal 72 rfl (gk_laysFinal 73 rfl (gk_laysFinal 74 rfl (gk_laysFinal 75 rfl (gk_laysFinal 76 rfl (gk_laysFinal 77 rfl (gk_laysFinal 78 rfl (gk_laysFinal 79 rfl (gk_laysFinal 80 rfl (gk_lays 81 rfl (gk_laysFinal 82 rfl (gk_lays 83 rfl (gk_laysFinal 84 rfl (gk_laysFinal 85 rfl (gk_laysFinal 86 rfl (gk_laysFinal 87 rfl (gk_laysFinal 88 rfl (gk_laysFinal 89 rfl (gk_laysFinal 90 rfl (gk_laysFinal 91 rfl (gn)))))))))))))))))))))))))))))))))))))))))))))))))))))))))))))))))))))
set_option maxRecDepth 20000 in
theorem gX11_tallyFirsts_X11_addTo : GoodIn wsX11_tallyFirsts (wsV RX11 223 RX11 yX11_addTo wsX11_addTo) := goodIn_app (gk_methodLink 24 rfl (gk_instanceMethod 25 rfl (gk_selects 26 rfl (gk_initialized 8 rfl (gn))))) ggX11_tallyFirsts_X11_addTo
theorem dX11_tallyFirsts_31 : decode cX11_tallyFirsts 31 = .ok (.bipush (-9), 2) := dw16 (n := 0) (i := 31) (a := 247) kc_cX11_tallyFirsts_0 (by decide +kernel) (by decide)
theorem dX11_tallyFirsts_33 : decode cX11_tallyFirsts 33 = .ok (.goto 8, 3) := dw167 (n := 32) (i := 1) (a := 0) (b := 8) kc_cX11_tallyFirsts_1 (by decide +kernel) (by decide)
set_option maxHeartbeats 4000000 in
set_option maxRecDepth 100000 in
theorem s_X11_tallyFirsts (l : Launch) (D : va_G) (ad : Nat → Nat) (cs : Nat → ClassId) (M : MI) (L : ML)  (hI : IR M) (hW : WT L) : Cv l yX11_tallyFirsts wsX11_tallyFirsts ({ frames := 3, cells := 0, slots := 0, locals := 80 }) D ad cs [.ref (ad 258)] M L (fun M1 L1 => (TLo L1 ∧ TLk M1 L1 ∧ ((M1 258 25).toInt = 0 → (M 258 25).toInt = 0)) ∧ IR M1 ∧ (∀ k i, ¬ (k = 258 ∧ i = 25) → M1 k i = M k i) ∧ ∀ k i, ¬ (k = 258 ∧ i = 23) ∧ ¬ (k = 258 ∧ i = 24) ∧ k ≠ 284 ∧ k ≠ 285 → L1 k i = L k i) := by
  refine enter_v RX11 rfl [(0, .ref (ad 258))] rfl (Nat.le_of_ble_eq_true rfl) (by decide +kernel) rfl ?_
  intro p e s m below meth c C hr
  have hF : ∀ k i, ¬ (k = 258 ∧ i = 25) → M k i = M k i := fun _ _ _ => rfl
  have hG : ∀ k i, ¬ (k = 258 ∧ i = 23) ∧ ¬ (k = 258 ∧ i = 24) ∧ k ≠ 284 ∧ k ≠ 285 → L k i = L k i := fun _ _ _ => rfl
  have k25 : M 258 25 = M 258 25 := rfl
  have l23 : L 258 23 = L 258 23 := rfl
  have l24 : L 258 24 = L 258 24 := rfl
  have p284 : L 284 = L 284 := rfl
  have p285 : L 285 = L 285 := rfl
  refine g_aload_n C 0 dX11_tallyFirsts_0 rfl ?_
  refine g_callVv C (n := 0) (As := []) (st := []) (s_X11_noTallies l D ad cs _ _  hI ) gX11_tallyFirsts_X11_noTallies rfl rfl rfl (by decide +kernel) ⟨Nat.le_of_ble_eq_true rfl, Nat.le_of_ble_eq_true rfl⟩ rfl (Nat.le_of_ble_eq_true rfl) ⟨Nat.zero_le _, Nat.zero_le _⟩ (by decide) (ce_model ad cs _ _) rfl rfl dX11_tallyFirsts_1 (fun M2 L3 hr1 => ?_)
  obtain ⟨hr1, hI, hFr1, hGr1⟩ := hr1
  have hF : ∀ k i, ¬ (k = 258 ∧ i = 25) → M2 k i = M k i := fun k i hk => by (rw [hFr1 k i trivial]; try exact hF k i hk)
  have hG : ∀ k i, ¬ (k = 258 ∧ i = 23) ∧ ¬ (k = 258 ∧ i = 24) ∧ k ≠ 284 ∧ k ≠ 285 → L3 k i = L k i := fun k i hk => by (rw [hGr1 k i (by omega)]; try exact hG k i hk)
  have k25 : M2 258 25 = M 258 25 := (hFr1 258 25 trivial).trans k25
  have kt25 := congrArg Int32.toInt k25
  have l23 : L3 258 23 = L 258 23 := (hGr1 258 23 (by omega)).trans l23
  have l24 : L3 258 24 = L 258 24 := (hGr1 258 24 (by omega)).trans l24
  have p284 : L3 284 = L3 284 := rfl
  have p285 : L3 285 = L3 285 := rfl
  have hnt := hr1
  refine g_iconst C 0 dX11_tallyFirsts_4 (by decide) ?_
  refine g_istore_n C [(1, .int 0), (0, .ref (ad 258))] dX11_tallyFirsts_5 (by decide) rfl ?_
  have zy4 : (0 : Int32).toInt = 0 := by decide
  refine g_loop (α := Int32 × MI × ML) (fun a => (41 - a.1.toInt).toNat) (fun a => (0 ≤ a.1.toInt) ∧ (a.1.toInt ≤ 40) ∧ (TLo a.2.2) ∧ (TLk a.2.1 a.2.2) ∧ ((a.2.1 258 25).toInt = 0 → (M 258 25).toInt = 0) ∧ IR a.2.1 ∧ (∀ k i, ¬ (k = 258 ∧ i = 25) → a.2.1 k i = M k i) ∧ (∀ k i, ¬ (k = 258 ∧ i = 23) ∧ ¬ (k = 258 ∧ i = 24) ∧ k ≠ 284 ∧ k ≠ 285 → a.2.2 k i = L k i)) (fun a => a.2.1) (fun a => a.2.2) (fun a => [(1, .int a.1), (0, .ref (ad 258))]) ((0 : Int32), M2, L3) ⟨by show 0 ≤ (0 : Int32).toInt; omega, by show (0 : Int32).toInt ≤ 40; omega, by show TLo L3; exact TLo_of hnt, by show TLk M2 L3; exact TLk_of hnt, by show (M2 258 25).toInt = 0 → (M 258 25).toInt = 0; exact fun h => by rw [k25] at h; exact h, hI, hF, hG⟩ rfl rfl rfl ?_
  rintro ⟨x1_6, M_6, L_6⟩ ⟨j6_0, j6_1, j6_2, j6_3, j6_4, hI, hF, hG⟩ ih_6
  dsimp only at j6_0 j6_1 j6_2 j6_3 j6_4 hI hF hG ih_6 ⊢
  have k25 : M_6 258 25 = M_6 258 25 := rfl
  have l23 : L_6 258 23 = L_6 258 23 := rfl
  have l24 : L_6 258 24 = L_6 258 24 := rfl
  have p284 : L_6 284 = L_6 284 := rfl
  have p285 : L_6 285 = L_6 285 := rfl
  refine g_iload_n C 0 dX11_tallyFirsts_6 rfl ?_
  refine g_aload_n C 1 dX11_tallyFirsts_7 rfl ?_
  refine g_get C (.ref (ad 266)) 11 in_X11_tallyFirsts_11 (List.mem_of_getElem? (i := 1) rfl) (by decide) (ce_model ad cs _ _) rfl (by decide) rfl rfl dX11_tallyFirsts_8 ?_
  refine g_aload_n C 1 dX11_tallyFirsts_11 rfl ?_
  refine g_get C (.int (M_6 258 27)) 27 in_X11_tallyFirsts_11 (List.mem_of_getElem? (i := 2) rfl) (by decide) (ce_model ad cs _ _) rfl (by decide) rfl rfl dX11_tallyFirsts_12 ?_
  refine g_ni (fun v5 ev5 => ?_)
  have gv5 : v5 = M 258 27 := ev5.trans (hF 258 27 (by omega))
  have tv5 := congrArg Int32.toInt gv5
  obtain ⟨bv5, dv5⟩ := (show rg 0 7 v5 from (by rw [ev5]; exact hI 258 27))
  refine g_iald C (by decide) (ce_m_boxSize ad cs _ _) (fin' (n := 8) rfl (by omega) (by omega)) dX11_tallyFirsts_15 ?_
  refine g_ni (fun v6 ev6 => ?_)
  have gv6 : v6 = M 266 v5.toNatClampNeg := ev6.trans (hF 266 v5.toNatClampNeg (by omega))
  have tv6 := congrArg Int32.toInt gv6
  obtain ⟨bv6, dv6⟩ := (show rg 0 40 v6 from (by rw [ev6]; exact hI 266 v5.toNatClampNeg))
  refine g_icmp_ge C 71 dX11_tallyFirsts_16 (by decide) (fun c7 => ?_) (fun c7 => ?_)
  ·
    have f8 := fle rfl rfl c7
    exact g_vret C hr ⟨⟨j6_2, j6_3, j6_4⟩, hI, hF, hG⟩ dX11_tallyFirsts_71
  ·
    have f9 := fnle rfl rfl c7
    refine g_aload_n C 1 dX11_tallyFirsts_19 rfl ?_
    refine g_iload_n C 0 dX11_tallyFirsts_20 rfl ?_
    refine g_callVi C (n := 1) (As := [.int x1_6]) (st := []) (s_X11_ballotAt l D ad cs _ _ x1_6 hI ⟨by omega, by omega⟩) gX11_tallyFirsts_X11_ballotAt rfl rfl rfl (by decide +kernel) ⟨Nat.le_of_ble_eq_true rfl, Nat.le_of_ble_eq_true rfl⟩ rfl (Nat.le_of_ble_eq_true rfl) ⟨Nat.zero_le _, Nat.zero_le _⟩ (by decide) (ce_model ad cs _ _) rfl rfl dX11_tallyFirsts_21 (fun r10 M11 L12 hr10 => ?_)
    obtain ⟨hq1, hq2, hr10⟩ := hr10
    obtain rfl := hq1.symm
    obtain rfl := hq2.symm
    refine g_istore_n C [(2, .int r10), (1, .int x1_6), (0, .ref (ad 258))] dX11_tallyFirsts_24 (by decide) rfl ?_
    refine g_iload_n C 0 dX11_tallyFirsts_25 rfl ?_
    refine g_bipush C (-9) dX11_tallyFirsts_26 (by decide) ?_
    refine g_icmp_ne C 36 dX11_tallyFirsts_28 (by decide) (fun c13 => ?_) (fun c13 => ?_)
    ·
      have f14 := fne rfl (by decide : ((-9) : Int32).toInt = (-9)) c13
      refine g_aload_n C 2 dX11_tallyFirsts_36 rfl ?_
      refine g_iload_n C 0 dX11_tallyFirsts_37 rfl ?_
      refine g_callVi C (n := 1) (As := [.int r10]) (st := []) (s_X11_firstOn l D ad cs _ _ r10 hI ⟨by omega, by omega⟩) gX11_tallyFirsts_X11_firstOn rfl rfl rfl (by decide +kernel) ⟨Nat.le_of_ble_eq_true rfl, Nat.le_of_ble_eq_true rfl⟩ rfl (Nat.le_of_ble_eq_true rfl) ⟨Nat.zero_le _, Nat.zero_le _⟩ (by decide) (ce_model ad cs _ _) rfl rfl dX11_tallyFirsts_38 (fun r15 M16 L17 hr15 => ?_)
      obtain ⟨hq1, hq2, hr15⟩ := hr15
      obtain rfl := hq1.symm
      obtain rfl := hq2.symm
      refine g_istore_n C [(3, .int r15), (2, .int r10), (1, .int x1_6), (0, .ref (ad 258))] dX11_tallyFirsts_41 (by decide) rfl ?_
      refine g_iload_n C 0 dX11_tallyFirsts_42 rfl ?_
      refine g_bipush C (-9) dX11_tallyFirsts_43 (by decide) ?_
      refine g_icmp_eq C 65 dX11_tallyFirsts_45 (by decide) (fun c18 => ?_) (fun c18 => ?_)
      ·
        have f19 := feq rfl (by decide : ((-9) : Int32).toInt = (-9)) c18
        obtain ⟨v20, ev20⟩ : ∃ y : Int32, y = x1_6 + 1 := ⟨_, rfl⟩
        try have fv20 := fadd rfl (by decide : (1 : Int32).toInt = 1) ev20 (by omega) (by omega)
        refine g_iinc C 2 v20 [(1, .int v20), (3, .int r15), (2, .int r10), (0, .ref (ad 258))] dX11_tallyFirsts_65 rfl (by rw [ev20]; rfl) (by decide) rfl ?_
        refine g_goto C 6 dX11_tallyFirsts_68 (by decide) ?_
        refine g_lv [0, 3] [(1, .int v20), (0, .ref (ad 258))] rfl ?_
        exact ih_6 (v20, M_6, L_6) ⟨by show 0 ≤ v20.toInt; omega, by show v20.toInt ≤ 40; omega, by show TLo L_6; first | exact hnoneo | exact j6_2, by show TLk M_6 L_6; first | exact hnonek (by omega) j6_3 | exact j6_3, by show (M_6 258 25).toInt = 0 → (M 258 25).toInt = 0; first | exact fun h => j6_4 (hnones h) | exact j6_4, hI, hF, hG⟩ (by show (41 - v20.toInt).toNat < (41 - x1_6.toInt).toNat; omega)
      ·
        have f21 := fne rfl (by decide : ((-9) : Int32).toInt = (-9)) c18
        refine g_aload_n C 3 dX11_tallyFirsts_48 rfl ?_
        refine g_iload_n C 0 dX11_tallyFirsts_49 rfl ?_
        refine g_aload_n C 3 dX11_tallyFirsts_50 rfl ?_
        refine g_get C (.ref (ad 286)) 40 in_X11_tallyFirsts_11 (List.mem_of_getElem? (i := 3) rfl) (by decide) (ce_model ad cs _ _) rfl (by decide) rfl rfl dX11_tallyFirsts_51 ?_
        refine g_iload_n C 2 dX11_tallyFirsts_54 rfl ?_
        refine g_lald C (by decide) (ce_m_weightUp ad cs _ _) (fin' (n := 40) rfl (by omega) (by omega)) dX11_tallyFirsts_55 ?_
        refine g_nl (fun v22 ev22 => ?_)
        have gv22 : v22 = L 286 x1_6.toNatClampNeg := ev22.trans (hG 286 _ (by omega))
        have tv22 := congrArg Int64.toInt gv22
        refine g_aload_n C 3 dX11_tallyFirsts_56 rfl ?_
        refine g_get C (.ref (ad 287)) 41 in_X11_tallyFirsts_11 (List.mem_of_getElem? (i := 4) rfl) (by decide) (ce_model ad cs _ _) rfl (by decide) rfl rfl dX11_tallyFirsts_57 ?_
        refine g_iload_n C 2 dX11_tallyFirsts_60 rfl ?_
        refine g_lald C (by decide) (ce_m_weightDown ad cs _ _) (fin' (n := 40) rfl (by omega) (by omega)) dX11_tallyFirsts_61 ?_
        refine g_nl (fun v23 ev23 => ?_)
        have gv23 : v23 = L 287 x1_6.toNatClampNeg := ev23.trans (hG 287 _ (by omega))
        have tv23 := congrArg Int64.toInt gv23
        have hw9 := hW x1_6.toNatClampNeg (by have := ixn (x := x1_6) (by omega); omega)
        unfold okF at hw9
        refine g_callVv C (n := 3) (As := [.int r15, .long v22, .long v23]) (st := []) (s_X11_addTo l D ad cs _ _ r15 v22 v23 hI ⟨by omega, by omega⟩ ⟨by omega, by omega⟩ j6_2) gX11_tallyFirsts_X11_addTo rfl rfl rfl (by decide +kernel) ⟨Nat.le_of_ble_eq_true rfl, Nat.le_of_ble_eq_true rfl⟩ rfl (Nat.le_of_ble_eq_true rfl) ⟨Nat.zero_le _, Nat.zero_le _⟩ (by decide) (ce_model ad cs _ _) rfl rfl dX11_tallyFirsts_62 (fun M25 L26 hr24 => ?_)
        obtain ⟨hr24, hI, hFr24, hGr24⟩ := hr24
        have hF : ∀ k i, ¬ (k = 258 ∧ i = 25) → M25 k i = M k i := fun k i hk => by (rw [hFr24 k i (by omega)]; try exact hF k i hk)
        have hG : ∀ k i, ¬ (k = 258 ∧ i = 23) ∧ ¬ (k = 258 ∧ i = 24) ∧ k ≠ 284 ∧ k ≠ 285 → L26 k i = L k i := fun k i hk => by (rw [hGr24 k i (by omega)]; try exact hG k i hk)
        have k25 : M25 258 25 = M25 258 25 := rfl
        have kt25 := congrArg Int32.toInt k25
        have l23 : L26 258 23 = L26 258 23 := rfl
        have l24 : L26 258 24 = L26 258 24 := rfl
        have p284 : L26 284 = L26 284 := rfl
        have p285 : L26 285 = L26 285 := rfl
        obtain ⟨hr24o, hr24k, hr24s⟩ := hr24
        obtain ⟨v27, ev27⟩ : ∃ y : Int32, y = x1_6 + 1 := ⟨_, rfl⟩
        try have fv27 := fadd rfl (by decide : (1 : Int32).toInt = 1) ev27 (by omega) (by omega)
        refine g_iinc C 2 v27 [(1, .int v27), (3, .int r15), (2, .int r10), (0, .ref (ad 258))] dX11_tallyFirsts_65 rfl (by rw [ev27]; rfl) (by decide) rfl ?_
        refine g_goto C 6 dX11_tallyFirsts_68 (by decide) ?_
        refine g_lv [0, 3] [(1, .int v27), (0, .ref (ad 258))] rfl ?_
        exact ih_6 (v27, M25, L26) ⟨by show 0 ≤ v27.toInt; omega, by show v27.toInt ≤ 40; omega, by show TLo L26; first | exact hr24o | exact j6_2, by show TLk M25 L26; first | exact hr24k (by omega) j6_3 | exact j6_3, by show (M25 258 25).toInt = 0 → (M 258 25).toInt = 0; first | exact fun h => j6_4 (hr24s h) | exact j6_4, hI, hF, hG⟩ (by show (41 - v27.toInt).toNat < (41 - x1_6.toInt).toNat; omega)
    ·
      have f28 := feq rfl (by decide : ((-9) : Int32).toInt = (-9)) c13
      refine g_bipush C (-9) dX11_tallyFirsts_31 (by decide) ?_
      refine g_goto C 41 dX11_tallyFirsts_33 (by decide) ?_
      refine g_istore_n C [(3, .int ((-9))), (2, .int r10), (1, .int x1_6), (0, .ref (ad 258))] dX11_tallyFirsts_41 (by decide) rfl ?_
      refine g_iload_n C 0 dX11_tallyFirsts_42 rfl ?_
      refine g_bipush C (-9) dX11_tallyFirsts_43 (by decide) ?_
      refine g_icmp_eq C 65 dX11_tallyFirsts_45 (by decide) (fun _ => ?_) (fun c29 => absurd c29 (by decide))
      obtain ⟨v30, ev30⟩ : ∃ y : Int32, y = x1_6 + 1 := ⟨_, rfl⟩
      try have fv30 := fadd rfl (by decide : (1 : Int32).toInt = 1) ev30 (by omega) (by omega)
      refine g_iinc C 2 v30 [(1, .int v30), (3, .int ((-9))), (2, .int r10), (0, .ref (ad 258))] dX11_tallyFirsts_65 rfl (by rw [ev30]; rfl) (by decide) rfl ?_
      refine g_goto C 6 dX11_tallyFirsts_68 (by decide) ?_
      refine g_lv [0, 3] [(1, .int v30), (0, .ref (ad 258))] rfl ?_
      exact ih_6 (v30, M_6, L_6) ⟨by show 0 ≤ v30.toInt; omega, by show v30.toInt ≤ 40; omega, by show TLo L_6; first | exact hr24o | exact j6_2, by show TLk M_6 L_6; first | exact hr24k (by omega) j6_3 | exact j6_3, by show (M_6 258 25).toInt = 0 → (M 258 25).toInt = 0; first | exact fun h => j6_4 (hr24s h) | exact j6_4, hI, hF, hG⟩ (by show (41 - v30.toInt).toNat < (41 - x1_6.toInt).toNat; omega)
theorem dX11_tallyPoints_0 : decode cX11_tallyPoints 0 = .ok (.aload_n 0, 1) := dw42 (n := 0) (i := 0) kc_cX11_tallyPoints_0 (by decide +kernel)
theorem dX11_tallyPoints_1 : decode cX11_tallyPoints 1 = .ok (.invokevirtual 214, 3) := dw182 (n := 0) (i := 1) (a := 0) (b := 214) kc_cX11_tallyPoints_0 (by decide +kernel) (by decide)
set_option maxRecDepth 20000 in
theorem ggX11_tallyPoints_X11_noTallies : GoodIn wsX11_tallyPoints wsX11_noTallies := (gk_code 10 rfl (gk_fieldLink 11 rfl (gk_fieldLink 12 rfl (gk_lays 38 rfl (gk_laysFinal 39 rfl (gk_lays 40 rfl (gk_laysFinal 41 rfl (gk_lays 42 rfl (gk_laysFinal 43 rfl (gk_laysFinal 44 rfl (gk_laysFinal 45 rfl (gk_laysFinal 46 rfl (gk_lays 47 rfl (gk_laysFinal 48 rfl (gk_laysFinal 49 rfl (gk_laysFinal 50 rfl (gk_laysFinal 51 rfl (gk_lays 52 rfl (gk_laysFinal 53 rfl (gk_laysFinal 54 rfl (gk_laysFinal 55 rfl (gk_laysFinal 56 rfl (gk_laysFinal 57 rfl (gk_laysFinal 58 rfl (gk_laysFinal 59 rfl (gk_laysFinal 60 rfl (gk_lays 61 rfl (gk_lays 62 rfl (gk_lays 63 rfl (gk_lays 64 rfl (gk_lays 65 rfl (gk_lays 66 rfl (gk_lays 67 rfl (gk_laysFinal 68 rfl (gk_lays 69 rfl (gk_laysFinal 70 rfl (gk_laysFinal 71 rfl (gk_laysFinal 72 rfl (gk_laysFinal 73 rfl (gk_laysFinal 74 rfl (gk_laysFinal 75 rfl (gk_laysFinal 76 rfl (gk_laysFinal 77 rfl (gk_laysFinal 78 rfl (gk_laysFinal 79 rfl (gk_lays 80 rfl (gk_laysFinal 81 rfl (gk_lays 82 rfl (gk_laysFinal 83 rfl (gk_laysFinal 84 rfl (gk_laysFinal 85 rfl (gk_laysFinal 86 rfl (gk_laysFinal 87 rfl (gk_laysFinal 88 rfl (gk_laysFinal 89 rfl (gk_laysFinal 90 rfl (gn)))))))))))))))))))))))))))))))))))))))))))))))))))))))))
set_option maxRecDepth 20000 in
theorem gX11_tallyPoints_X11_noTallies : GoodIn wsX11_tallyPoints (wsV RX11 214 RX11 yX11_noTallies wsX11_noTallies) := goodIn_app (gk_methodLink 6 rfl (gk_instanceMethod 7 rfl (gk_selects 8 rfl (gk_initialized 9 rfl (gn))))) ggX11_tallyPoints_X11_noTallies
theorem dX11_tallyPoints_4 : decode cX11_tallyPoints 4 = .ok (.iconst 0, 1) := dw3 (n := 0) (i := 4) kc_cX11_tallyPoints_0 (by decide +kernel)
theorem dX11_tallyPoints_5 : decode cX11_tallyPoints 5 = .ok (.istore_n 2, 1) := dw61 (n := 0) (i := 5) kc_cX11_tallyPoints_0 (by decide +kernel)
theorem dX11_tallyPoints_6 : decode cX11_tallyPoints 6 = .ok (.iload_n 2, 1) := dw28 (n := 0) (i := 6) kc_cX11_tallyPoints_0 (by decide +kernel)
theorem dX11_tallyPoints_7 : decode cX11_tallyPoints 7 = .ok (.aload_n 0, 1) := dw42 (n := 0) (i := 7) kc_cX11_tallyPoints_0 (by decide +kernel)
theorem dX11_tallyPoints_8 : decode cX11_tallyPoints 8 = .ok (.getfield 31, 3) := dw180 (n := 0) (i := 8) (a := 0) (b := 31) kc_cX11_tallyPoints_0 (by decide +kernel) (by decide)
theorem in_X11_tallyPoints_11 : ∀ w ∈ u_ws RX11 TX11 53, w ∈ wsX11_tallyPoints := fun _ h => List.mem_cons_of_mem _ (List.mem_append_right _ h)
theorem dX11_tallyPoints_11 : decode cX11_tallyPoints 11 = .ok (.aload_n 0, 1) := dw42 (n := 0) (i := 11) kc_cX11_tallyPoints_0 (by decide +kernel)
theorem dX11_tallyPoints_12 : decode cX11_tallyPoints 12 = .ok (.getfield 201, 3) := dw180 (n := 0) (i := 12) (a := 0) (b := 201) kc_cX11_tallyPoints_0 (by decide +kernel) (by decide)
theorem dX11_tallyPoints_15 : decode cX11_tallyPoints 15 = .ok (.iaload, 1) := dw46 (n := 0) (i := 15) kc_cX11_tallyPoints_0 (by decide +kernel)
theorem dX11_tallyPoints_16 : decode cX11_tallyPoints 16 = .ok (.if_icmp .ge 116, 3) := dw162 (n := 0) (i := 16) (a := 0) (b := 116) kc_cX11_tallyPoints_0 (by decide +kernel) (by decide)
theorem dX11_tallyPoints_132 : decode cX11_tallyPoints 132 = .ok (.return_, 1) := dw177 (n := 128) (i := 4) kc_cX11_tallyPoints_4 (by decide +kernel)
theorem dX11_tallyPoints_19 : decode cX11_tallyPoints 19 = .ok (.aload_n 0, 1) := dw42 (n := 0) (i := 19) kc_cX11_tallyPoints_0 (by decide +kernel)
theorem dX11_tallyPoints_20 : decode cX11_tallyPoints 20 = .ok (.iload_n 2, 1) := dw28 (n := 0) (i := 20) kc_cX11_tallyPoints_0 (by decide +kernel)
theorem dX11_tallyPoints_21 : decode cX11_tallyPoints 21 = .ok (.invokevirtual 217, 3) := dw182 (n := 0) (i := 21) (a := 0) (b := 217) kc_cX11_tallyPoints_0 (by decide +kernel) (by decide)
set_option maxRecDepth 20000 in
theorem ggX11_tallyPoints_X11_ballotAt : GoodIn wsX11_tallyPoints wsX11_ballotAt := (gk_code 16 rfl (gk_fieldLink 17 rfl (gk_fieldLink 2 rfl (gk_lays 38 rfl (gk_laysFinal 39 rfl (gk_lays 40 rfl (gk_laysFinal 41 rfl (gk_lays 42 rfl (gk_laysFinal 43 rfl (gk_laysFinal 44 rfl (gk_laysFinal 45 rfl (gk_laysFinal 46 rfl (gk_lays 47 rfl (gk_laysFinal 48 rfl (gk_laysFinal 49 rfl (gk_laysFinal 50 rfl (gk_laysFinal 51 rfl (gk_lays 52 rfl (gk_laysFinal 53 rfl (gk_laysFinal 54 rfl (gk_laysFinal 55 rfl (gk_laysFinal 56 rfl (gk_laysFinal 57 rfl (gk_laysFinal 58 rfl (gk_laysFinal 59 rfl (gk_laysFinal 60 rfl (gk_lays 61 rfl (gk_lays 62 rfl (gk_lays 63 rfl (gk_lays 64 rfl (gk_lays 65 rfl (gk_lays 66 rfl (gk_lays 67 rfl (gk_laysFinal 68 rfl (gk_lays 69 rfl (gk_laysFinal 70 rfl (gk_laysFinal 71 rfl (gk_laysFinal 72 rfl (gk_laysFinal 73 rfl (gk_laysFinal 74 rfl (gk_laysFinal 75 rfl (gk_laysFinal 76 rfl (gk_laysFinal 77 rfl (gk_laysFinal 78 rfl (gk_laysFinal 79 rfl (gk_lays 80 rfl (gk_laysFinal 81 rfl (gk_lays 82 rfl (gk_laysFinal 83 rfl (gk_laysFinal 84 rfl (gk_laysFinal 85 rfl (gk_laysFinal 86 rfl (gk_laysFinal 87 rfl (gk_laysFinal 88 rfl (gk_laysFinal 89 rfl (gk_laysFinal 90 rfl (gn)))))))))))))))))))))))))))))))))))))))))))))))))))))))))
set_option maxRecDepth 20000 in
theorem gX11_tallyPoints_X11_ballotAt : GoodIn wsX11_tallyPoints (wsV RX11 217 RX11 yX11_ballotAt wsX11_ballotAt) := goodIn_app (gk_methodLink 13 rfl (gk_instanceMethod 14 rfl (gk_selects 15 rfl (gk_initialized 9 rfl (gn))))) ggX11_tallyPoints_X11_ballotAt
theorem dX11_tallyPoints_24 : decode cX11_tallyPoints 24 = .ok (.istore_n 3, 1) := dw62 (n := 0) (i := 24) kc_cX11_tallyPoints_0 (by decide +kernel)
theorem dX11_tallyPoints_25 : decode cX11_tallyPoints 25 = .ok (.iconst 0, 1) := dw3 (n := 0) (i := 25) kc_cX11_tallyPoints_0 (by decide +kernel)
theorem dX11_tallyPoints_26 : decode cX11_tallyPoints 26 = .ok (.istore 4, 2) := dw54 (n := 0) (i := 26) (a := 4) kc_cX11_tallyPoints_0 (by decide +kernel) (by decide)
theorem dX11_tallyPoints_28 : decode cX11_tallyPoints 28 = .ok (.iload 4, 2) := dw21 (n := 0) (i := 28) (a := 4) kc_cX11_tallyPoints_0 (by decide +kernel) (by decide)
theorem dX11_tallyPoints_30 : decode cX11_tallyPoints 30 = .ok (.aload_n 0, 1) := dw42 (n := 0) (i := 30) kc_cX11_tallyPoints_0 (by decide +kernel)
theorem dX11_tallyPoints_31 : decode cX11_tallyPoints 31 = .ok (.getfield 137, 3) := dw180 (n := 0) (i := 31) (a := 0) (b := 137) kc_cX11_tallyPoints_0 (by decide +kernel) (by decide)
theorem dX11_tallyPoints_34 : decode cX11_tallyPoints 34 = .ok (.if_icmp .ge 92, 3) := dw162 (n := 32) (i := 2) (a := 0) (b := 92) kc_cX11_tallyPoints_1 (by decide +kernel) (by decide)
theorem dX11_tallyPoints_126 : decode cX11_tallyPoints 126 = .ok (.iinc 2 1, 3) := by decide +kernel
theorem dX11_tallyPoints_129 : decode cX11_tallyPoints 129 = .ok (.goto (-123), 3) := dw167 (n := 128) (i := 1) (a := 255) (b := 133) kc_cX11_tallyPoints_4 (by decide +kernel) (by decide)
theorem dX11_tallyPoints_37 : decode cX11_tallyPoints 37 = .ok (.iload_n 3, 1) := dw29 (n := 32) (i := 5) kc_cX11_tallyPoints_1 (by decide +kernel)
theorem dX11_tallyPoints_38 : decode cX11_tallyPoints 38 = .ok (.bipush (-9), 2) := dw16 (n := 32) (i := 6) (a := 247) kc_cX11_tallyPoints_1 (by decide +kernel) (by decide)
theorem dX11_tallyPoints_40 : decode cX11_tallyPoints 40 = .ok (.if_icmp .eq 86, 3) := dw159 (n := 32) (i := 8) (a := 0) (b := 86) kc_cX11_tallyPoints_1 (by decide +kernel) (by decide)
theorem dX11_tallyPoints_43 : decode cX11_tallyPoints 43 = .ok (.iload_n 1, 1) := dw27 (n := 32) (i := 11) kc_cX11_tallyPoints_1 (by decide +kernel)
theorem dX11_tallyPoints_44 : decode cX11_tallyPoints 44 = .ok (.ifCond .eq 13, 3) := dw153 (n := 32) (i := 12) (a := 0) (b := 13) kc_cX11_tallyPoints_1 (by decide +kernel) (by decide)
theorem dX11_tallyPoints_57 : decode cX11_tallyPoints 57 = .ok (.aload_n 0, 1) := dw42 (n := 32) (i := 25) kc_cX11_tallyPoints_1 (by decide +kernel)
theorem dX11_tallyPoints_58 : decode cX11_tallyPoints 58 = .ok (.getfield 25, 3) := dw180 (n := 32) (i := 26) (a := 0) (b := 25) kc_cX11_tallyPoints_1 (by decide +kernel) (by decide)
theorem dX11_tallyPoints_61 : decode cX11_tallyPoints 61 = .ok (.bipush 10, 2) := dw16 (n := 32) (i := 29) (a := 10) kc_cX11_tallyPoints_1 (by decide +kernel) (by decide)
theorem dX11_tallyPoints_63 : decode cX11_tallyPoints 63 = .ok (.iload_n 3, 1) := dw29 (n := 32) (i := 31) kc_cX11_tallyPoints_1 (by decide +kernel)
theorem dX11_tallyPoints_64 : decode cX11_tallyPoints 64 = .ok (.imul, 1) := dw104 (n := 64) (i := 0) kc_cX11_tallyPoints_2 (by decide +kernel)
theorem dX11_tallyPoints_65 : decode cX11_tallyPoints 65 = .ok (.iload 4, 2) := dw21 (n := 64) (i := 1) (a := 4) kc_cX11_tallyPoints_2 (by decide +kernel) (by decide)
theorem dX11_tallyPoints_67 : decode cX11_tallyPoints 67 = .ok (.iadd, 1) := dw96 (n := 64) (i := 3) kc_cX11_tallyPoints_2 (by decide +kernel)
theorem dX11_tallyPoints_68 : decode cX11_tallyPoints 68 = .ok (.iaload, 1) := dw46 (n := 64) (i := 4) kc_cX11_tallyPoints_2 (by decide +kernel)
theorem dX11_tallyPoints_69 : decode cX11_tallyPoints 69 = .ok (.istore 5, 2) := dw54 (n := 64) (i := 5) (a := 5) kc_cX11_tallyPoints_2 (by decide +kernel) (by decide)
theorem dX11_tallyPoints_71 : decode cX11_tallyPoints 71 = .ok (.iload_n 1, 1) := dw27 (n := 64) (i := 7) kc_cX11_tallyPoints_2 (by decide +kernel)
theorem dX11_tallyPoints_72 : decode cX11_tallyPoints 72 = .ok (.ifCond .ne 8, 3) := dw154 (n := 64) (i := 8) (a := 0) (b := 8) kc_cX11_tallyPoints_2 (by decide +kernel) (by decide)
theorem dX11_tallyPoints_80 : decode cX11_tallyPoints 80 = .ok (.iload 5, 2) := dw21 (n := 64) (i := 16) (a := 5) kc_cX11_tallyPoints_2 (by decide +kernel) (by decide)
theorem dX11_tallyPoints_82 : decode cX11_tallyPoints 82 = .ok (.bipush (-9), 2) := dw16 (n := 64) (i := 18) (a := 247) kc_cX11_tallyPoints_2 (by decide +kernel) (by decide)
theorem dX11_tallyPoints_84 : decode cX11_tallyPoints 84 = .ok (.if_icmp .ne 7, 3) := dw160 (n := 64) (i := 20) (a := 0) (b := 7) kc_cX11_tallyPoints_2 (by decide +kernel) (by decide)
theorem dX11_tallyPoints_91 : decode cX11_tallyPoints 91 = .ok (.aload_n 0, 1) := dw42 (n := 64) (i := 27) kc_cX11_tallyPoints_2 (by decide +kernel)
theorem dX11_tallyPoints_92 : decode cX11_tallyPoints 92 = .ok (.getfield 137, 3) := dw180 (n := 64) (i := 28) (a := 0) (b := 137) kc_cX11_tallyPoints_2 (by decide +kernel) (by decide)
theorem dX11_tallyPoints_95 : decode cX11_tallyPoints 95 = .ok (.iconst 1, 1) := dw4 (n := 64) (i := 31) kc_cX11_tallyPoints_2 (by decide +kernel)
theorem dX11_tallyPoints_96 : decode cX11_tallyPoints 96 = .ok (.isub, 1) := dw100 (n := 96) (i := 0) kc_cX11_tallyPoints_3 (by decide +kernel)
theorem dX11_tallyPoints_97 : decode cX11_tallyPoints 97 = .ok (.iload 5, 2) := dw21 (n := 96) (i := 1) (a := 5) kc_cX11_tallyPoints_3 (by decide +kernel) (by decide)
theorem dX11_tallyPoints_99 : decode cX11_tallyPoints 99 = .ok (.isub, 1) := dw100 (n := 96) (i := 3) kc_cX11_tallyPoints_3 (by decide +kernel)
theorem dX11_tallyPoints_100 : decode cX11_tallyPoints 100 = .ok (.istore 6, 2) := dw54 (n := 96) (i := 4) (a := 6) kc_cX11_tallyPoints_3 (by decide +kernel) (by decide)
theorem dX11_tallyPoints_102 : decode cX11_tallyPoints 102 = .ok (.aload_n 0, 1) := dw42 (n := 96) (i := 6) kc_cX11_tallyPoints_3 (by decide +kernel)
theorem dX11_tallyPoints_103 : decode cX11_tallyPoints 103 = .ok (.iload 4, 2) := dw21 (n := 96) (i := 7) (a := 4) kc_cX11_tallyPoints_3 (by decide +kernel) (by decide)
theorem dX11_tallyPoints_105 : decode cX11_tallyPoints 105 = .ok (.aload_n 0, 1) := dw42 (n := 96) (i := 9) kc_cX11_tallyPoints_3 (by decide +kernel)
theorem dX11_tallyPoints_106 : decode cX11_tallyPoints 106 = .ok (.getfield 19, 3) := dw180 (n := 96) (i := 10) (a := 0) (b := 19) kc_cX11_tallyPoints_3 (by decide +kernel) (by decide)
theorem dX11_tallyPoints_109 : decode cX11_tallyPoints 109 = .ok (.iload_n 3, 1) := dw29 (n := 96) (i := 13) kc_cX11_tallyPoints_3 (by decide +kernel)
theorem dX11_tallyPoints_110 : decode cX11_tallyPoints 110 = .ok (.iaload, 1) := dw46 (n := 96) (i := 14) kc_cX11_tallyPoints_3 (by decide +kernel)
theorem dX11_tallyPoints_111 : decode cX11_tallyPoints 111 = .ok (.i2l, 1) := dw133 (n := 96) (i := 15) kc_cX11_tallyPoints_3 (by decide +kernel)
theorem dX11_tallyPoints_112 : decode cX11_tallyPoints 112 = .ok (.iload 6, 2) := dw21 (n := 96) (i := 16) (a := 6) kc_cX11_tallyPoints_3 (by decide +kernel) (by decide)
theorem dX11_tallyPoints_114 : decode cX11_tallyPoints 114 = .ok (.i2l, 1) := dw133 (n := 96) (i := 18) kc_cX11_tallyPoints_3 (by decide +kernel)
theorem dX11_tallyPoints_115 : decode cX11_tallyPoints 115 = .ok (.lmul, 1) := dw105 (n := 96) (i := 19) kc_cX11_tallyPoints_3 (by decide +kernel)
theorem dX11_tallyPoints_116 : decode cX11_tallyPoints 116 = .ok (.lconst 1, 1) := dw10 (n := 96) (i := 20) kc_cX11_tallyPoints_3 (by decide +kernel)
theorem dX11_tallyPoints_117 : decode cX11_tallyPoints 117 = .ok (.invokevirtual 223, 3) := dw182 (n := 96) (i := 21) (a := 0) (b := 223) kc_cX11_tallyPoints_3 (by decide +kernel) (by decide)
set_option maxRecDepth 20000 in
theorem ggX11_tallyPoints_X11_addTo : GoodIn wsX11_tallyPoints wsX11_addTo := (gk_code 26 rfl (gk_fieldLink 11 rfl (gk_fieldLink 12 rfl (gk_fieldLink 27 rfl (gk_fieldLink 28 rfl (gk_methodLink 29 rfl (gk_instanceMethod 30 rfl (gk_selects 31 rfl (gk_initialized 9 rfl (gk_code 32 rfl (gk_fieldLink 33 rfl (gk_constantLong 34 rfl (gk_methodLink 35 rfl (gk_static 36 rfl (gk_code 37 rfl (gk_lays 38 rfl (gk_laysFinal 39 rfl (gk_lays 40 rfl (gk_laysFinal 41 rfl (gk_lays 42 rfl (gk_laysFinal 43 rfl (gk_laysFinal 44 rfl (gk_laysFinal 45 rfl (gk_laysFinal 46 rfl (gk_lays 47 rfl (gk_laysFinal 48 rfl (gk_laysFinal 49 rfl (gk_laysFinal 50 rfl (gk_laysFinal 51 rfl (gk_lays 52 rfl (gk_laysFinal 53 rfl (gk_laysFinal 54 rfl (gk_laysFinal 55 rfl (gk_laysFinal 56 rfl (gk_laysFinal 57 rfl (gk_laysFinal 58 rfl (gk_laysFinal 59 rfl (gk_laysFinal 60 rfl (gk_lays 61 rfl (gk_lays 62 rfl (gk_lays 63 rfl (gk_lays 64 rfl (gk_lays 65 rfl (gk_lays 66 rfl (gk_lays 67 rfl (gk_laysFinal 68 rfl (gk_lays 69 rfl (gk_laysFinal 70 rfl (gk_laysFinal 71 rfl (gk_laysFinal 72 rfl (gk_laysFinal 73 rfl (gk_laysFinal 74 rfl (gk_laysFinal 75 rfl (gk_laysFinal 76 rfl (gk_laysFinal 77 rfl (gk_laysFinal 78 rfl (gk_laysFinal 79 rfl (gk_lays 80 rfl (gk_laysFinal 81 rfl (gk_lays 82 rfl (gk_laysFinal 83 rfl (gk_laysFinal 84 rfl (gk_laysFinal 85 rfl (gk_laysFinal 86 rfl (gk_laysFinal 87 rfl (gk_laysFinal 88 rfl (gk_laysFinal 89 rfl (gk_laysFinal 90 rfl (gn)))))))))))))))))))))))))))))))))))))))))))))))))))))))))))))))))))))
set_option maxRecDepth 20000 in
theorem gX11_tallyPoints_X11_addTo : GoodIn wsX11_tallyPoints (wsV RX11 223 RX11 yX11_addTo wsX11_addTo) := goodIn_app (gk_methodLink 23 rfl (gk_instanceMethod 24 rfl (gk_selects 25 rfl (gk_initialized 9 rfl (gn))))) ggX11_tallyPoints_X11_addTo
theorem dX11_tallyPoints_120 : decode cX11_tallyPoints 120 = .ok (.iinc 4 1, 3) := by decide +kernel
theorem dX11_tallyPoints_123 : decode cX11_tallyPoints 123 = .ok (.goto (-95), 3) := dw167 (n := 96) (i := 27) (a := 255) (b := 161) kc_cX11_tallyPoints_3 (by decide +kernel) (by decide)
theorem dX11_tallyPoints_87 : decode cX11_tallyPoints 87 = .ok (.iconst 0, 1) := dw3 (n := 64) (i := 23) kc_cX11_tallyPoints_2 (by decide +kernel)
theorem dX11_tallyPoints_88 : decode cX11_tallyPoints 88 = .ok (.goto 12, 3) := dw167 (n := 64) (i := 24) (a := 0) (b := 12) kc_cX11_tallyPoints_2 (by decide +kernel) (by decide)
theorem dX11_tallyPoints_75 : decode cX11_tallyPoints 75 = .ok (.iload 5, 2) := dw21 (n := 64) (i := 11) (a := 5) kc_cX11_tallyPoints_2 (by decide +kernel) (by decide)
theorem dX11_tallyPoints_77 : decode cX11_tallyPoints 77 = .ok (.goto 23, 3) := dw167 (n := 64) (i := 13) (a := 0) (b := 23) kc_cX11_tallyPoints_2 (by decide +kernel) (by decide)
theorem dX11_tallyPoints_47 : decode cX11_tallyPoints 47 = .ok (.aload_n 0, 1) := dw42 (n := 32) (i := 15) kc_cX11_tallyPoints_1 (by decide +kernel)
theorem dX11_tallyPoints_48 : decode cX11_tallyPoints 48 = .ok (.iload_n 3, 1) := dw29 (n := 32) (i := 16) kc_cX11_tallyPoints_1 (by decide +kernel)
theorem dX11_tallyPoints_49 : decode cX11_tallyPoints 49 = .ok (.iload 4, 2) := dw21 (n := 32) (i := 17) (a := 4) kc_cX11_tallyPoints_1 (by decide +kernel) (by decide)
theorem dX11_tallyPoints_51 : decode cX11_tallyPoints 51 = .ok (.invokevirtual 159, 3) := dw182 (n := 32) (i := 19) (a := 0) (b := 159) kc_cX11_tallyPoints_1 (by decide +kernel) (by decide)
set_option maxRecDepth 20000 in
theorem ggX11_tallyPoints_X11_placeOn : GoodIn wsX11_tallyPoints wsX11_placeOn := (gk_code 21 rfl (gk_fieldLink 22 rfl (gk_fieldLink 4 rfl (gk_lays 38 rfl (gk_laysFinal 39 rfl (gk_lays 40 rfl (gk_laysFinal 41 rfl (gk_lays 42 rfl (gk_laysFinal 43 rfl (gk_laysFinal 44 rfl (gk_laysFinal 45 rfl (gk_laysFinal 46 rfl (gk_lays 47 rfl (gk_laysFinal 48 rfl (gk_laysFinal 49 rfl (gk_laysFinal 50 rfl (gk_laysFinal 51 rfl (gk_lays 52 rfl (gk_laysFinal 53 rfl (gk_laysFinal 54 rfl (gk_laysFinal 55 rfl (gk_laysFinal 56 rfl (gk_laysFinal 57 rfl (gk_laysFinal 58 rfl (gk_laysFinal 59 rfl (gk_laysFinal 60 rfl (gk_lays 61 rfl (gk_lays 62 rfl (gk_lays 63 rfl (gk_lays 64 rfl (gk_lays 65 rfl (gk_lays 66 rfl (gk_lays 67 rfl (gk_laysFinal 68 rfl (gk_lays 69 rfl (gk_laysFinal 70 rfl (gk_laysFinal 71 rfl (gk_laysFinal 72 rfl (gk_laysFinal 73 rfl (gk_laysFinal 74 rfl (gk_laysFinal 75 rfl (gk_laysFinal 76 rfl (gk_laysFinal 77 rfl (gk_laysFinal 78 rfl (gk_laysFinal 79 rfl (gk_lays 80 rfl (gk_laysFinal 81 rfl (gk_lays 82 rfl (gk_laysFinal 83 rfl (gk_laysFinal 84 rfl (gk_laysFinal 85 rfl (gk_laysFinal 86 rfl (gk_laysFinal 87 rfl (gk_laysFinal 88 rfl (gk_laysFinal 89 rfl (gk_laysFinal 90 rfl (gn)))))))))))))))))))))))))))))))))))))))))))))))))))))))))
set_option maxRecDepth 20000 in
theorem gX11_tallyPoints_X11_placeOn : GoodIn wsX11_tallyPoints (wsV RX11 159 RX11 yX11_placeOn wsX11_placeOn) := goodIn_app (gk_methodLink 18 rfl (gk_instanceMethod 19 rfl (gk_selects 20 rfl (gk_initialized 9 rfl (gn))))) ggX11_tallyPoints_X11_placeOn
theorem dX11_tallyPoints_54 : decode cX11_tallyPoints 54 = .ok (.goto 15, 3) := dw167 (n := 32) (i := 22) (a := 0) (b := 15) kc_cX11_tallyPoints_1 (by decide +kernel) (by decide)
set_option maxHeartbeats 4000000 in
set_option maxRecDepth 100000 in
theorem s_X11_tallyPoints (l : Launch) (D : va_G) (ad : Nat → Nat) (cs : Nat → ClassId) (M : MI) (L : ML) (x : Int32) (hI : IR M) : Cv l yX11_tallyPoints wsX11_tallyPoints ({ frames := 3, cells := 0, slots := 0, locals := 80 }) D ad cs [.ref (ad 258), .int x] M L (fun M1 L1 => (TLo L1) ∧ IR M1 ∧ (∀ k i, ¬ (k = 258 ∧ i = 25) → M1 k i = M k i) ∧ ∀ k i, ¬ (k = 258 ∧ i = 23) ∧ ¬ (k = 258 ∧ i = 24) ∧ k ≠ 284 ∧ k ≠ 285 → L1 k i = L k i) := by
  refine enter_v RX11 rfl [(0, .ref (ad 258)), (1, .int x)] rfl (Nat.le_of_ble_eq_true rfl) (by decide +kernel) rfl ?_
  intro p e s m below meth c C hr
  have hF : ∀ k i, ¬ (k = 258 ∧ i = 25) → M k i = M k i := fun _ _ _ => rfl
  have hG : ∀ k i, ¬ (k = 258 ∧ i = 23) ∧ ¬ (k = 258 ∧ i = 24) ∧ k ≠ 284 ∧ k ≠ 285 → L k i = L k i := fun _ _ _ => rfl
  have k25 : M 258 25 = M 258 25 := rfl
  have l23 : L 258 23 = L 258 23 := rfl
  have l24 : L 258 24 = L 258 24 := rfl
  have p284 : L 284 = L 284 := rfl
  have p285 : L 285 = L 285 := rfl
  refine g_aload_n C 0 dX11_tallyPoints_0 rfl ?_
  refine g_callVv C (n := 0) (As := []) (st := []) (s_X11_noTallies l D ad cs _ _  hI ) gX11_tallyPoints_X11_noTallies rfl rfl rfl (by decide +kernel) ⟨Nat.le_of_ble_eq_true rfl, Nat.le_of_ble_eq_true rfl⟩ rfl (Nat.le_of_ble_eq_true rfl) ⟨Nat.zero_le _, Nat.zero_le _⟩ (by decide) (ce_model ad cs _ _) rfl rfl dX11_tallyPoints_1 (fun M2 L3 hr1 => ?_)
  obtain ⟨hr1, hI, hFr1, hGr1⟩ := hr1
  have hF : ∀ k i, ¬ (k = 258 ∧ i = 25) → M2 k i = M k i := fun k i hk => by (rw [hFr1 k i trivial]; try exact hF k i hk)
  have hG : ∀ k i, ¬ (k = 258 ∧ i = 23) ∧ ¬ (k = 258 ∧ i = 24) ∧ k ≠ 284 ∧ k ≠ 285 → L3 k i = L k i := fun k i hk => by (rw [hGr1 k i (by omega)]; try exact hG k i hk)
  have k25 : M2 258 25 = M 258 25 := (hFr1 258 25 trivial).trans k25
  have kt25 := congrArg Int32.toInt k25
  have l23 : L3 258 23 = L 258 23 := (hGr1 258 23 (by omega)).trans l23
  have l24 : L3 258 24 = L 258 24 := (hGr1 258 24 (by omega)).trans l24
  have p284 : L3 284 = L3 284 := rfl
  have p285 : L3 285 = L3 285 := rfl
  have hnt := hr1
  refine g_iconst C 0 dX11_tallyPoints_4 (by decide) ?_
  refine g_istore_n C [(2, .int 0), (0, .ref (ad 258)), (1, .int x)] dX11_tallyPoints_5 (by decide) rfl ?_
  have zy4 : (0 : Int32).toInt = 0 := by decide
  refine g_loop (α := Int32 × MI × ML) (fun a => (41 - a.1.toInt).toNat) (fun a => (0 ≤ a.1.toInt) ∧ (a.1.toInt ≤ 40) ∧ (TLo a.2.2) ∧ IR a.2.1 ∧ (∀ k i, ¬ (k = 258 ∧ i = 25) → a.2.1 k i = M k i) ∧ (∀ k i, ¬ (k = 258 ∧ i = 23) ∧ ¬ (k = 258 ∧ i = 24) ∧ k ≠ 284 ∧ k ≠ 285 → a.2.2 k i = L k i)) (fun a => a.2.1) (fun a => a.2.2) (fun a => [(2, .int a.1), (0, .ref (ad 258)), (1, .int x)]) ((0 : Int32), M2, L3) ⟨by show 0 ≤ (0 : Int32).toInt; omega, by show (0 : Int32).toInt ≤ 40; omega, by show TLo L3; exact TLo_of hnt, hI, hF, hG⟩ rfl rfl rfl ?_
  rintro ⟨x2_6, M_6, L_6⟩ ⟨j6_0, j6_1, j6_2, hI, hF, hG⟩ ih_6
  dsimp only at j6_0 j6_1 j6_2 hI hF hG ih_6 ⊢
  have k25 : M_6 258 25 = M_6 258 25 := rfl
  have l23 : L_6 258 23 = L_6 258 23 := rfl
  have l24 : L_6 258 24 = L_6 258 24 := rfl
  have p284 : L_6 284 = L_6 284 := rfl
  have p285 : L_6 285 = L_6 285 := rfl
  refine g_iload_n C 0 dX11_tallyPoints_6 rfl ?_
  refine g_aload_n C 1 dX11_tallyPoints_7 rfl ?_
  refine g_get C (.ref (ad 266)) 11 in_X11_tallyPoints_11 (List.mem_of_getElem? (i := 1) rfl) (by decide) (ce_model ad cs _ _) rfl (by decide) rfl rfl dX11_tallyPoints_8 ?_
  refine g_aload_n C 1 dX11_tallyPoints_11 rfl ?_
  refine g_get C (.int (M_6 258 27)) 27 in_X11_tallyPoints_11 (List.mem_of_getElem? (i := 2) rfl) (by decide) (ce_model ad cs _ _) rfl (by decide) rfl rfl dX11_tallyPoints_12 ?_
  refine g_ni (fun v5 ev5 => ?_)
  have gv5 : v5 = M 258 27 := ev5.trans (hF 258 27 (by omega))
  have tv5 := congrArg Int32.toInt gv5
  obtain ⟨bv5, dv5⟩ := (show rg 0 7 v5 from (by rw [ev5]; exact hI 258 27))
  refine g_iald C (by decide) (ce_m_boxSize ad cs _ _) (fin' (n := 8) rfl (by omega) (by omega)) dX11_tallyPoints_15 ?_
  refine g_ni (fun v6 ev6 => ?_)
  have gv6 : v6 = M 266 v5.toNatClampNeg := ev6.trans (hF 266 v5.toNatClampNeg (by omega))
  have tv6 := congrArg Int32.toInt gv6
  obtain ⟨bv6, dv6⟩ := (show rg 0 40 v6 from (by rw [ev6]; exact hI 266 v5.toNatClampNeg))
  refine g_icmp_ge C 132 dX11_tallyPoints_16 (by decide) (fun c7 => ?_) (fun c7 => ?_)
  ·
    have f8 := fle rfl rfl c7
    exact g_vret C hr ⟨j6_2, hI, hF, hG⟩ dX11_tallyPoints_132
  ·
    have f9 := fnle rfl rfl c7
    refine g_aload_n C 1 dX11_tallyPoints_19 rfl ?_
    refine g_iload_n C 0 dX11_tallyPoints_20 rfl ?_
    refine g_callVi C (n := 1) (As := [.int x2_6]) (st := []) (s_X11_ballotAt l D ad cs _ _ x2_6 hI ⟨by omega, by omega⟩) gX11_tallyPoints_X11_ballotAt rfl rfl rfl (by decide +kernel) ⟨Nat.le_of_ble_eq_true rfl, Nat.le_of_ble_eq_true rfl⟩ rfl (Nat.le_of_ble_eq_true rfl) ⟨Nat.zero_le _, Nat.zero_le _⟩ (by decide) (ce_model ad cs _ _) rfl rfl dX11_tallyPoints_21 (fun r10 M11 L12 hr10 => ?_)
    obtain ⟨hq1, hq2, hr10⟩ := hr10
    obtain rfl := hq1.symm
    obtain rfl := hq2.symm
    refine g_istore_n C [(3, .int r10), (2, .int x2_6), (0, .ref (ad 258)), (1, .int x)] dX11_tallyPoints_24 (by decide) rfl ?_
    refine g_iconst C 0 dX11_tallyPoints_25 (by decide) ?_
    refine g_istore C [(4, .int 0), (3, .int r10), (2, .int x2_6), (0, .ref (ad 258)), (1, .int x)] dX11_tallyPoints_26 (by decide) rfl ?_
    have zy13 : (0 : Int32).toInt = 0 := by decide
    refine g_loop (α := Int32 × MI × ML) (fun a => (11 - a.1.toInt).toNat) (fun a => (0 ≤ a.1.toInt) ∧ (a.1.toInt ≤ 10) ∧ (TLo a.2.2) ∧ IR a.2.1 ∧ (∀ k i, ¬ (k = 258 ∧ i = 25) → a.2.1 k i = M k i) ∧ (∀ k i, ¬ (k = 258 ∧ i = 23) ∧ ¬ (k = 258 ∧ i = 24) ∧ k ≠ 284 ∧ k ≠ 285 → a.2.2 k i = L k i)) (fun a => a.2.1) (fun a => a.2.2) (fun a => [(4, .int a.1), (3, .int r10), (2, .int x2_6), (0, .ref (ad 258)), (1, .int x)]) ((0 : Int32), M_6, L_6) ⟨by show 0 ≤ (0 : Int32).toInt; omega, by show (0 : Int32).toInt ≤ 10; omega, by show TLo L_6; exact j6_2, hI, hF, hG⟩ rfl rfl rfl ?_
    rintro ⟨x4_28, M_28, L_28⟩ ⟨j28_0, j28_1, j28_2, hI, hF, hG⟩ ih_28
    dsimp only at j28_0 j28_1 j28_2 hI hF hG ih_28 ⊢
    have k25 : M_28 258 25 = M_28 258 25 := rfl
    have l23 : L_28 258 23 = L_28 258 23 := rfl
    have l24 : L_28 258 24 = L_28 258 24 := rfl
    have p284 : L_28 284 = L_28 284 := rfl
    have p285 : L_28 285 = L_28 285 := rfl
    refine g_iload C 0 dX11_tallyPoints_28 rfl ?_
    refine g_aload_n C 3 dX11_tallyPoints_30 rfl ?_
    refine g_get C (.int (M_28 258 2)) 2 in_X11_tallyPoints_11 (List.mem_of_getElem? (i := 3) rfl) (by decide) (ce_model ad cs _ _) rfl (by decide) rfl rfl dX11_tallyPoints_31 ?_
    refine g_ni (fun v14 ev14 => ?_)
    have gv14 : v14 = M 258 2 := ev14.trans (hF 258 2 (by omega))
    have tv14 := congrArg Int32.toInt gv14
    obtain ⟨bv14, dv14⟩ := (show rg 0 10 v14 from (by rw [ev14]; exact hI 258 2))
    refine g_icmp_ge C 126 dX11_tallyPoints_34 (by decide) (fun c15 => ?_) (fun c15 => ?_)
    ·
      have f16 := fle rfl rfl c15
      obtain ⟨v17, ev17⟩ : ∃ y : Int32, y = x2_6 + 1 := ⟨_, rfl⟩
      try have fv17 := fadd rfl (by decide : (1 : Int32).toInt = 1) ev17 (by omega) (by omega)
      refine g_iinc C 2 v17 [(2, .int v17), (4, .int x4_28), (3, .int r10), (0, .ref (ad 258)), (1, .int x)] dX11_tallyPoints_126 rfl (by rw [ev17]; rfl) (by decide) rfl ?_
      refine g_goto C 6 dX11_tallyPoints_129 (by decide) ?_
      refine g_lv [0, 3, 4] [(2, .int v17), (0, .ref (ad 258)), (1, .int x)] rfl ?_
      exact ih_6 (v17, M_28, L_28) ⟨by show 0 ≤ v17.toInt; omega, by show v17.toInt ≤ 40; omega, by show TLo L_28; exact j28_2, hI, hF, hG⟩ (by show (41 - v17.toInt).toNat < (41 - x2_6.toInt).toNat; omega)
    ·
      have f18 := fnle rfl rfl c15
      refine g_iload_n C 1 dX11_tallyPoints_37 rfl ?_
      refine g_bipush C (-9) dX11_tallyPoints_38 (by decide) ?_
      refine g_icmp_eq C 126 dX11_tallyPoints_40 (by decide) (fun c19 => ?_) (fun c19 => ?_)
      ·
        have f20 := feq rfl (by decide : ((-9) : Int32).toInt = (-9)) c19
        obtain ⟨v21, ev21⟩ : ∃ y : Int32, y = x2_6 + 1 := ⟨_, rfl⟩
        try have fv21 := fadd rfl (by decide : (1 : Int32).toInt = 1) ev21 (by omega) (by omega)
        refine g_iinc C 2 v21 [(2, .int v21), (4, .int x4_28), (3, .int r10), (0, .ref (ad 258)), (1, .int x)] dX11_tallyPoints_126 rfl (by rw [ev21]; rfl) (by decide) rfl ?_
        refine g_goto C 6 dX11_tallyPoints_129 (by decide) ?_
        refine g_lv [0, 3, 4] [(2, .int v21), (0, .ref (ad 258)), (1, .int x)] rfl ?_
        exact ih_6 (v21, M_28, L_28) ⟨by show 0 ≤ v21.toInt; omega, by show v21.toInt ≤ 40; omega, by show TLo L_28; exact j28_2, hI, hF, hG⟩ (by show (41 - v21.toInt).toNat < (41 - x2_6.toInt).toNat; omega)
      ·
        have f22 := fne rfl (by decide : ((-9) : Int32).toInt = (-9)) c19
        refine g_iload_n C 4 dX11_tallyPoints_43 rfl ?_
        refine g_if_eq C 57 dX11_tallyPoints_44 (by decide) (fun c23 => ?_) (fun c23 => ?_)
        ·
          have f24 := feq rfl (by decide : (0 : Int32).toInt = 0) c23
          refine g_aload_n C 3 dX11_tallyPoints_57 rfl ?_
          refine g_get C (.ref (ad 264)) 8 in_X11_tallyPoints_11 (List.mem_of_getElem? (i := 4) rfl) (by decide) (ce_model ad cs _ _) rfl (by decide) rfl rfl dX11_tallyPoints_58 ?_
          refine g_bipush C 10 dX11_tallyPoints_61 (by decide) ?_
          refine g_iload_n C 1 dX11_tallyPoints_63 rfl ?_
          refine g_imul C dX11_tallyPoints_64 ?_
          refine g_ni (fun v25 ev25 => ?_)
          try have fv25 := fmul (by decide : (10 : Int32).toInt = 10) rfl ev25 (by omega) (by omega)
          refine g_iload C 0 dX11_tallyPoints_65 rfl ?_
          refine g_iadd C dX11_tallyPoints_67 ?_
          refine g_ni (fun v26 ev26 => ?_)
          try have fv26 := fadd rfl rfl ev26 (by omega) (by omega)
          refine g_iald C (by decide) (ce_m_marks ad cs _ _) (fin' (n := 600) rfl (by omega) (by omega)) dX11_tallyPoints_68 ?_
          have nr10 := ixn (x := r10) (by omega)
          have nx4_28 := ixn (x := x4_28) (by omega)
          have nv26 := ixn (x := v26) (by omega)
          have iv26 : v26.toNatClampNeg = 10 * r10.toNatClampNeg + x4_28.toNatClampNeg := by omega
          refine g_ni (fun v27 ev27 => ?_)
          have gv27 : v27 = M 264 v26.toNatClampNeg := ev27.trans (hF 264 v26.toNatClampNeg (by omega))
          have gv27 := cg1 (f := M 264) gv27 iv26
          have tv27 := congrArg Int32.toInt gv27
          obtain ⟨bv27, dv27⟩ := (show rg 0 9 v27 from (by rw [ev27]; exact hI 264 v26.toNatClampNeg))
          refine g_istore C [(5, .int v27), (4, .int x4_28), (3, .int r10), (2, .int x2_6), (0, .ref (ad 258)), (1, .int x)] dX11_tallyPoints_69 (by decide) rfl ?_
          refine g_iload_n C 5 dX11_tallyPoints_71 rfl ?_
          refine g_if_ne C 80 dX11_tallyPoints_72 (by decide) (fun c28 => ?_) (fun c28 => ?_)
          ·
            have f29 := fne rfl (by decide : (0 : Int32).toInt = 0) c28
            refine g_iload C 0 dX11_tallyPoints_80 rfl ?_
            refine g_bipush C (-9) dX11_tallyPoints_82 (by decide) ?_
            refine g_icmp_ne C 91 dX11_tallyPoints_84 (by decide) (fun c30 => ?_) (fun c30 => ?_)
            ·
              have f31 := fne rfl (by decide : ((-9) : Int32).toInt = (-9)) c30
              refine g_aload_n C 4 dX11_tallyPoints_91 rfl ?_
              refine g_get C (.int (M_28 258 2)) 2 in_X11_tallyPoints_11 (List.mem_of_getElem? (i := 3) rfl) (by decide) (ce_model ad cs _ _) rfl (by decide) rfl rfl dX11_tallyPoints_92 ?_
              refine g_ni (fun v32 ev32 => ?_)
              have gv32 : v32 = M 258 2 := ev32.trans (hF 258 2 (by omega))
              have tv32 := congrArg Int32.toInt gv32
              obtain ⟨bv32, dv32⟩ := (show rg 0 10 v32 from (by rw [ev32]; exact hI 258 2))
              refine g_iconst C 1 dX11_tallyPoints_95 (by decide) ?_
              refine g_isub C dX11_tallyPoints_96 ?_
              refine g_ni (fun v33 ev33 => ?_)
              try have fv33 := fsub rfl (by decide : (1 : Int32).toInt = 1) ev33 (by omega) (by omega)
              refine g_iload C 0 dX11_tallyPoints_97 rfl ?_
              refine g_isub C dX11_tallyPoints_99 ?_
              refine g_ni (fun v34 ev34 => ?_)
              try have fv34 := fsub rfl rfl ev34 (by omega) (by omega)
              refine g_istore C [(6, .int v34), (5, .int v27), (4, .int x4_28), (3, .int r10), (2, .int x2_6), (0, .ref (ad 258)), (1, .int x)] dX11_tallyPoints_100 (by decide) rfl ?_
              refine g_aload_n C 5 dX11_tallyPoints_102 rfl ?_
              refine g_iload C 2 dX11_tallyPoints_103 rfl ?_
              refine g_aload_n C 5 dX11_tallyPoints_105 rfl ?_
              refine g_get C (.ref (ad 262)) 6 in_X11_tallyPoints_11 (List.mem_of_getElem? (i := 5) rfl) (by decide) (ce_model ad cs _ _) rfl (by decide) rfl rfl dX11_tallyPoints_106 ?_
              refine g_iload_n C 3 dX11_tallyPoints_109 rfl ?_
              refine g_iald C (by decide) (ce_m_papersOf ad cs _ _) (fin' (n := 60) rfl (by omega) (by omega)) dX11_tallyPoints_110 ?_
              refine g_ni (fun v35 ev35 => ?_)
              have gv35 : v35 = M 262 r10.toNatClampNeg := ev35.trans (hF 262 r10.toNatClampNeg (by omega))
              have tv35 := congrArg Int32.toInt gv35
              obtain ⟨bv35, dv35⟩ := (show rg 0 100000 v35 from (by rw [ev35]; exact hI 262 r10.toNatClampNeg))
              refine g_i2l C dX11_tallyPoints_111 ?_
              refine g_nl (fun v36 ev36 => ?_)
              have fv36 := fi2l rfl ev36
              refine g_iload C 0 dX11_tallyPoints_112 rfl ?_
              refine g_i2l C dX11_tallyPoints_114 ?_
              refine g_nl (fun v37 ev37 => ?_)
              have fv37 := fi2l rfl ev37
              refine g_lmul C dX11_tallyPoints_115 ?_
              refine g_nl (fun v38 ev38 => ?_)
              try have fv38 := prodI ev38
              refine g_lconst C 1 dX11_tallyPoints_116 (by decide) ?_
              refine g_callVv C (n := 3) (As := [.int x4_28, .long v38, .long 1]) (st := []) (s_X11_addTo l D ad cs _ _ x4_28 v38 1 hI ⟨by omega, by omega⟩ ⟨by decide, by decide⟩ j28_2) gX11_tallyPoints_X11_addTo rfl rfl rfl (by decide +kernel) ⟨Nat.le_of_ble_eq_true rfl, Nat.le_of_ble_eq_true rfl⟩ rfl (Nat.le_of_ble_eq_true rfl) ⟨Nat.zero_le _, Nat.zero_le _⟩ (by decide) (ce_model ad cs _ _) rfl rfl dX11_tallyPoints_117 (fun M40 L41 hr39 => ?_)
              obtain ⟨hr39, hI, hFr39, hGr39⟩ := hr39
              have hF : ∀ k i, ¬ (k = 258 ∧ i = 25) → M40 k i = M k i := fun k i hk => by (rw [hFr39 k i (by omega)]; try exact hF k i hk)
              have hG : ∀ k i, ¬ (k = 258 ∧ i = 23) ∧ ¬ (k = 258 ∧ i = 24) ∧ k ≠ 284 ∧ k ≠ 285 → L41 k i = L k i := fun k i hk => by (rw [hGr39 k i (by omega)]; try exact hG k i hk)
              have k25 : M40 258 25 = M40 258 25 := rfl
              have kt25 := congrArg Int32.toInt k25
              have l23 : L41 258 23 = L41 258 23 := rfl
              have l24 : L41 258 24 = L41 258 24 := rfl
              have p284 : L41 284 = L41 284 := rfl
              have p285 : L41 285 = L41 285 := rfl
              obtain ⟨hr39o, hr39k, hr39s⟩ := hr39
              obtain ⟨v42, ev42⟩ : ∃ y : Int32, y = x4_28 + 1 := ⟨_, rfl⟩
              try have fv42 := fadd rfl (by decide : (1 : Int32).toInt = 1) ev42 (by omega) (by omega)
              refine g_iinc C 2 v42 [(4, .int v42), (6, .int v34), (5, .int v27), (3, .int r10), (2, .int x2_6), (0, .ref (ad 258)), (1, .int x)] dX11_tallyPoints_120 rfl (by rw [ev42]; rfl) (by decide) rfl ?_
              refine g_goto C 28 dX11_tallyPoints_123 (by decide) ?_
              refine g_lv [0, 3, 4, 5, 6] [(4, .int v42), (3, .int r10), (2, .int x2_6), (0, .ref (ad 258)), (1, .int x)] rfl ?_
              exact ih_28 (v42, M40, L41) ⟨by show 0 ≤ v42.toInt; omega, by show v42.toInt ≤ 10; omega, by show TLo L41; exact hr39o, hI, hF, hG⟩ (by show (11 - v42.toInt).toNat < (11 - x4_28.toInt).toNat; omega)
            ·
              have f43 := feq rfl (by decide : ((-9) : Int32).toInt = (-9)) c30
              refine g_iconst C 0 dX11_tallyPoints_87 (by decide) ?_
              refine g_goto C 100 dX11_tallyPoints_88 (by decide) ?_
              refine g_istore C [(6, .int 0), (5, .int v27), (4, .int x4_28), (3, .int r10), (2, .int x2_6), (0, .ref (ad 258)), (1, .int x)] dX11_tallyPoints_100 (by decide) rfl ?_
              refine g_aload_n C 5 dX11_tallyPoints_102 rfl ?_
              refine g_iload C 2 dX11_tallyPoints_103 rfl ?_
              refine g_aload_n C 5 dX11_tallyPoints_105 rfl ?_
              refine g_get C (.ref (ad 262)) 6 in_X11_tallyPoints_11 (List.mem_of_getElem? (i := 5) rfl) (by decide) (ce_model ad cs _ _) rfl (by decide) rfl rfl dX11_tallyPoints_106 ?_
              refine g_iload_n C 3 dX11_tallyPoints_109 rfl ?_
              refine g_iald C (by decide) (ce_m_papersOf ad cs _ _) (fin' (n := 60) rfl (by omega) (by omega)) dX11_tallyPoints_110 ?_
              refine g_ni (fun v44 ev44 => ?_)
              have gv44 : v44 = M 262 r10.toNatClampNeg := ev44.trans (hF 262 r10.toNatClampNeg (by omega))
              have tv44 := congrArg Int32.toInt gv44
              obtain ⟨bv44, dv44⟩ := (show rg 0 100000 v44 from (by rw [ev44]; exact hI 262 r10.toNatClampNeg))
              refine g_i2l C dX11_tallyPoints_111 ?_
              refine g_nl (fun v45 ev45 => ?_)
              have fv45 := fi2l rfl ev45
              refine g_iload C 0 dX11_tallyPoints_112 rfl ?_
              refine g_i2l C dX11_tallyPoints_114 ?_
              refine g_nl (fun v46 ev46 => ?_)
              have fv46 := fi2l (by decide : (0 : Int32).toInt = 0) ev46
              refine g_lmul C dX11_tallyPoints_115 ?_
              refine g_nl (fun v47 ev47 => ?_)
              try have fv47 := prodI ev47
              refine g_lconst C 1 dX11_tallyPoints_116 (by decide) ?_
              refine g_callVv C (n := 3) (As := [.int x4_28, .long v47, .long 1]) (st := []) (s_X11_addTo l D ad cs _ _ x4_28 v47 1 hI ⟨by omega, by omega⟩ ⟨by decide, by decide⟩ j28_2) gX11_tallyPoints_X11_addTo rfl rfl rfl (by decide +kernel) ⟨Nat.le_of_ble_eq_true rfl, Nat.le_of_ble_eq_true rfl⟩ rfl (Nat.le_of_ble_eq_true rfl) ⟨Nat.zero_le _, Nat.zero_le _⟩ (by decide) (ce_model ad cs _ _) rfl rfl dX11_tallyPoints_117 (fun M49 L50 hr48 => ?_)
              obtain ⟨hr48, hI, hFr48, hGr48⟩ := hr48
              have hF : ∀ k i, ¬ (k = 258 ∧ i = 25) → M49 k i = M k i := fun k i hk => by (rw [hFr48 k i (by omega)]; try exact hF k i hk)
              have hG : ∀ k i, ¬ (k = 258 ∧ i = 23) ∧ ¬ (k = 258 ∧ i = 24) ∧ k ≠ 284 ∧ k ≠ 285 → L50 k i = L k i := fun k i hk => by (rw [hGr48 k i (by omega)]; try exact hG k i hk)
              have k25 : M49 258 25 = M49 258 25 := rfl
              have kt25 := congrArg Int32.toInt k25
              have l23 : L50 258 23 = L50 258 23 := rfl
              have l24 : L50 258 24 = L50 258 24 := rfl
              have p284 : L50 284 = L50 284 := rfl
              have p285 : L50 285 = L50 285 := rfl
              obtain ⟨hr48o, hr48k, hr48s⟩ := hr48
              obtain ⟨v51, ev51⟩ : ∃ y : Int32, y = x4_28 + 1 := ⟨_, rfl⟩
              try have fv51 := fadd rfl (by decide : (1 : Int32).toInt = 1) ev51 (by omega) (by omega)
              refine g_iinc C 2 v51 [(4, .int v51), (6, .int 0), (5, .int v27), (3, .int r10), (2, .int x2_6), (0, .ref (ad 258)), (1, .int x)] dX11_tallyPoints_120 rfl (by rw [ev51]; rfl) (by decide) rfl ?_
              refine g_goto C 28 dX11_tallyPoints_123 (by decide) ?_
              refine g_lv [0, 3, 4, 5, 6] [(4, .int v51), (3, .int r10), (2, .int x2_6), (0, .ref (ad 258)), (1, .int x)] rfl ?_
              exact ih_28 (v51, M49, L50) ⟨by show 0 ≤ v51.toInt; omega, by show v51.toInt ≤ 10; omega, by show TLo L50; exact hr48o, hI, hF, hG⟩ (by show (11 - v51.toInt).toNat < (11 - x4_28.toInt).toNat; omega)
          ·
            have f52 := feq rfl (by decide : (0 : Int32).toInt = 0) c28
            refine g_iload C 0 dX11_tallyPoints_75 rfl ?_
            refine g_goto C 100 dX11_tallyPoints_77 (by decide) ?_
            refine g_istore C [(6, .int v27), (5, .int v27), (4, .int x4_28), (3, .int r10), (2, .int x2_6), (0, .ref (ad 258)), (1, .int x)] dX11_tallyPoints_100 (by decide) rfl ?_
            refine g_aload_n C 5 dX11_tallyPoints_102 rfl ?_
            refine g_iload C 2 dX11_tallyPoints_103 rfl ?_
            refine g_aload_n C 5 dX11_tallyPoints_105 rfl ?_
            refine g_get C (.ref (ad 262)) 6 in_X11_tallyPoints_11 (List.mem_of_getElem? (i := 5) rfl) (by decide) (ce_model ad cs _ _) rfl (by decide) rfl rfl dX11_tallyPoints_106 ?_
            refine g_iload_n C 3 dX11_tallyPoints_109 rfl ?_
            refine g_iald C (by decide) (ce_m_papersOf ad cs _ _) (fin' (n := 60) rfl (by omega) (by omega)) dX11_tallyPoints_110 ?_
            refine g_ni (fun v53 ev53 => ?_)
            have gv53 : v53 = M 262 r10.toNatClampNeg := ev53.trans (hF 262 r10.toNatClampNeg (by omega))
            have tv53 := congrArg Int32.toInt gv53
            obtain ⟨bv53, dv53⟩ := (show rg 0 100000 v53 from (by rw [ev53]; exact hI 262 r10.toNatClampNeg))
            refine g_i2l C dX11_tallyPoints_111 ?_
            refine g_nl (fun v54 ev54 => ?_)
            have fv54 := fi2l rfl ev54
            refine g_iload C 0 dX11_tallyPoints_112 rfl ?_
            refine g_i2l C dX11_tallyPoints_114 ?_
            refine g_nl (fun v55 ev55 => ?_)
            have fv55 := fi2l rfl ev55
            refine g_lmul C dX11_tallyPoints_115 ?_
            refine g_nl (fun v56 ev56 => ?_)
            try have fv56 := prodI ev56
            refine g_lconst C 1 dX11_tallyPoints_116 (by decide) ?_
            refine g_callVv C (n := 3) (As := [.int x4_28, .long v56, .long 1]) (st := []) (s_X11_addTo l D ad cs _ _ x4_28 v56 1 hI ⟨by omega, by omega⟩ ⟨by decide, by decide⟩ j28_2) gX11_tallyPoints_X11_addTo rfl rfl rfl (by decide +kernel) ⟨Nat.le_of_ble_eq_true rfl, Nat.le_of_ble_eq_true rfl⟩ rfl (Nat.le_of_ble_eq_true rfl) ⟨Nat.zero_le _, Nat.zero_le _⟩ (by decide) (ce_model ad cs _ _) rfl rfl dX11_tallyPoints_117 (fun M58 L59 hr57 => ?_)
            obtain ⟨hr57, hI, hFr57, hGr57⟩ := hr57
            have hF : ∀ k i, ¬ (k = 258 ∧ i = 25) → M58 k i = M k i := fun k i hk => by (rw [hFr57 k i (by omega)]; try exact hF k i hk)
            have hG : ∀ k i, ¬ (k = 258 ∧ i = 23) ∧ ¬ (k = 258 ∧ i = 24) ∧ k ≠ 284 ∧ k ≠ 285 → L59 k i = L k i := fun k i hk => by (rw [hGr57 k i (by omega)]; try exact hG k i hk)
            have k25 : M58 258 25 = M58 258 25 := rfl
            have kt25 := congrArg Int32.toInt k25
            have l23 : L59 258 23 = L59 258 23 := rfl
            have l24 : L59 258 24 = L59 258 24 := rfl
            have p284 : L59 284 = L59 284 := rfl
            have p285 : L59 285 = L59 285 := rfl
            obtain ⟨hr57o, hr57k, hr57s⟩ := hr57
            obtain ⟨v60, ev60⟩ : ∃ y : Int32, y = x4_28 + 1 := ⟨_, rfl⟩
            try have fv60 := fadd rfl (by decide : (1 : Int32).toInt = 1) ev60 (by omega) (by omega)
            refine g_iinc C 2 v60 [(4, .int v60), (6, .int v27), (5, .int v27), (3, .int r10), (2, .int x2_6), (0, .ref (ad 258)), (1, .int x)] dX11_tallyPoints_120 rfl (by rw [ev60]; rfl) (by decide) rfl ?_
            refine g_goto C 28 dX11_tallyPoints_123 (by decide) ?_
            refine g_lv [0, 3, 4, 5, 6] [(4, .int v60), (3, .int r10), (2, .int x2_6), (0, .ref (ad 258)), (1, .int x)] rfl ?_
            exact ih_28 (v60, M58, L59) ⟨by show 0 ≤ v60.toInt; omega, by show v60.toInt ≤ 10; omega, by show TLo L59; exact hr57o, hI, hF, hG⟩ (by show (11 - v60.toInt).toNat < (11 - x4_28.toInt).toNat; omega)
        ·
          have f61 := fne rfl (by decide : (0 : Int32).toInt = 0) c23
          refine g_aload_n C 3 dX11_tallyPoints_47 rfl ?_
          refine g_iload_n C 1 dX11_tallyPoints_48 rfl ?_
          refine g_iload C 0 dX11_tallyPoints_49 rfl ?_
          refine g_callVi C (n := 2) (As := [.int r10, .int x4_28]) (st := []) (s_X11_placeOn l D ad cs _ _ r10 x4_28 hI ⟨by omega, by omega⟩) gX11_tallyPoints_X11_placeOn rfl rfl rfl (by decide +kernel) ⟨Nat.le_of_ble_eq_true rfl, Nat.le_of_ble_eq_true rfl⟩ rfl (Nat.le_of_ble_eq_true rfl) ⟨Nat.zero_le _, Nat.zero_le _⟩ (by decide) (ce_model ad cs _ _) rfl rfl dX11_tallyPoints_51 (fun r62 M63 L64 hr62 => ?_)
          obtain ⟨hq1, hq2, hr62⟩ := hr62
          obtain rfl := hq1.symm
          obtain rfl := hq2.symm
          refine g_goto C 69 dX11_tallyPoints_54 (by decide) ?_
          refine g_istore C [(5, .int r62), (4, .int x4_28), (3, .int r10), (2, .int x2_6), (0, .ref (ad 258)), (1, .int x)] dX11_tallyPoints_69 (by decide) rfl ?_
          refine g_iload_n C 5 dX11_tallyPoints_71 rfl ?_
          refine g_if_ne C 80 dX11_tallyPoints_72 (by decide) (fun c65 => ?_) (fun c65 => ?_)
          ·
            have f66 := fne rfl (by decide : (0 : Int32).toInt = 0) c65
            refine g_iload C 0 dX11_tallyPoints_80 rfl ?_
            refine g_bipush C (-9) dX11_tallyPoints_82 (by decide) ?_
            refine g_icmp_ne C 91 dX11_tallyPoints_84 (by decide) (fun c67 => ?_) (fun c67 => ?_)
            ·
              have f68 := fne rfl (by decide : ((-9) : Int32).toInt = (-9)) c67
              refine g_aload_n C 4 dX11_tallyPoints_91 rfl ?_
              refine g_get C (.int (M_28 258 2)) 2 in_X11_tallyPoints_11 (List.mem_of_getElem? (i := 3) rfl) (by decide) (ce_model ad cs _ _) rfl (by decide) rfl rfl dX11_tallyPoints_92 ?_
              refine g_ni (fun v69 ev69 => ?_)
              have gv69 : v69 = M 258 2 := ev69.trans (hF 258 2 (by omega))
              have tv69 := congrArg Int32.toInt gv69
              obtain ⟨bv69, dv69⟩ := (show rg 0 10 v69 from (by rw [ev69]; exact hI 258 2))
              refine g_iconst C 1 dX11_tallyPoints_95 (by decide) ?_
              refine g_isub C dX11_tallyPoints_96 ?_
              refine g_ni (fun v70 ev70 => ?_)
              try have fv70 := fsub rfl (by decide : (1 : Int32).toInt = 1) ev70 (by omega) (by omega)
              refine g_iload C 0 dX11_tallyPoints_97 rfl ?_
              refine g_isub C dX11_tallyPoints_99 ?_
              refine g_ni (fun v71 ev71 => ?_)
              try have fv71 := fsub rfl rfl ev71 (by omega) (by omega)
              refine g_istore C [(6, .int v71), (5, .int r62), (4, .int x4_28), (3, .int r10), (2, .int x2_6), (0, .ref (ad 258)), (1, .int x)] dX11_tallyPoints_100 (by decide) rfl ?_
              refine g_aload_n C 5 dX11_tallyPoints_102 rfl ?_
              refine g_iload C 2 dX11_tallyPoints_103 rfl ?_
              refine g_aload_n C 5 dX11_tallyPoints_105 rfl ?_
              refine g_get C (.ref (ad 262)) 6 in_X11_tallyPoints_11 (List.mem_of_getElem? (i := 5) rfl) (by decide) (ce_model ad cs _ _) rfl (by decide) rfl rfl dX11_tallyPoints_106 ?_
              refine g_iload_n C 3 dX11_tallyPoints_109 rfl ?_
              refine g_iald C (by decide) (ce_m_papersOf ad cs _ _) (fin' (n := 60) rfl (by omega) (by omega)) dX11_tallyPoints_110 ?_
              refine g_ni (fun v72 ev72 => ?_)
              have gv72 : v72 = M 262 r10.toNatClampNeg := ev72.trans (hF 262 r10.toNatClampNeg (by omega))
              have tv72 := congrArg Int32.toInt gv72
              obtain ⟨bv72, dv72⟩ := (show rg 0 100000 v72 from (by rw [ev72]; exact hI 262 r10.toNatClampNeg))
              refine g_i2l C dX11_tallyPoints_111 ?_
              refine g_nl (fun v73 ev73 => ?_)
              have fv73 := fi2l rfl ev73
              refine g_iload C 0 dX11_tallyPoints_112 rfl ?_
              refine g_i2l C dX11_tallyPoints_114 ?_
              refine g_nl (fun v74 ev74 => ?_)
              have fv74 := fi2l rfl ev74
              refine g_lmul C dX11_tallyPoints_115 ?_
              refine g_nl (fun v75 ev75 => ?_)
              try have fv75 := prodI ev75
              refine g_lconst C 1 dX11_tallyPoints_116 (by decide) ?_
              refine g_callVv C (n := 3) (As := [.int x4_28, .long v75, .long 1]) (st := []) (s_X11_addTo l D ad cs _ _ x4_28 v75 1 hI ⟨by omega, by omega⟩ ⟨by decide, by decide⟩ j28_2) gX11_tallyPoints_X11_addTo rfl rfl rfl (by decide +kernel) ⟨Nat.le_of_ble_eq_true rfl, Nat.le_of_ble_eq_true rfl⟩ rfl (Nat.le_of_ble_eq_true rfl) ⟨Nat.zero_le _, Nat.zero_le _⟩ (by decide) (ce_model ad cs _ _) rfl rfl dX11_tallyPoints_117 (fun M77 L78 hr76 => ?_)
              obtain ⟨hr76, hI, hFr76, hGr76⟩ := hr76
              have hF : ∀ k i, ¬ (k = 258 ∧ i = 25) → M77 k i = M k i := fun k i hk => by (rw [hFr76 k i (by omega)]; try exact hF k i hk)
              have hG : ∀ k i, ¬ (k = 258 ∧ i = 23) ∧ ¬ (k = 258 ∧ i = 24) ∧ k ≠ 284 ∧ k ≠ 285 → L78 k i = L k i := fun k i hk => by (rw [hGr76 k i (by omega)]; try exact hG k i hk)
              have k25 : M77 258 25 = M77 258 25 := rfl
              have kt25 := congrArg Int32.toInt k25
              have l23 : L78 258 23 = L78 258 23 := rfl
              have l24 : L78 258 24 = L78 258 24 := rfl
              have p284 : L78 284 = L78 284 := rfl
              have p285 : L78 285 = L78 285 := rfl
              obtain ⟨hr76o, hr76k, hr76s⟩ := hr76
              obtain ⟨v79, ev79⟩ : ∃ y : Int32, y = x4_28 + 1 := ⟨_, rfl⟩
              try have fv79 := fadd rfl (by decide : (1 : Int32).toInt = 1) ev79 (by omega) (by omega)
              refine g_iinc C 2 v79 [(4, .int v79), (6, .int v71), (5, .int r62), (3, .int r10), (2, .int x2_6), (0, .ref (ad 258)), (1, .int x)] dX11_tallyPoints_120 rfl (by rw [ev79]; rfl) (by decide) rfl ?_
              refine g_goto C 28 dX11_tallyPoints_123 (by decide) ?_
              refine g_lv [0, 3, 4, 5, 6] [(4, .int v79), (3, .int r10), (2, .int x2_6), (0, .ref (ad 258)), (1, .int x)] rfl ?_
              exact ih_28 (v79, M77, L78) ⟨by show 0 ≤ v79.toInt; omega, by show v79.toInt ≤ 10; omega, by show TLo L78; exact hr76o, hI, hF, hG⟩ (by show (11 - v79.toInt).toNat < (11 - x4_28.toInt).toNat; omega)
            ·
              have f80 := feq rfl (by decide : ((-9) : Int32).toInt = (-9)) c67
              refine g_iconst C 0 dX11_tallyPoints_87 (by decide) ?_
              refine g_goto C 100 dX11_tallyPoints_88 (by decide) ?_
              refine g_istore C [(6, .int 0), (5, .int r62), (4, .int x4_28), (3, .int r10), (2, .int x2_6), (0, .ref (ad 258)), (1, .int x)] dX11_tallyPoints_100 (by decide) rfl ?_
              refine g_aload_n C 5 dX11_tallyPoints_102 rfl ?_
              refine g_iload C 2 dX11_tallyPoints_103 rfl ?_
              refine g_aload_n C 5 dX11_tallyPoints_105 rfl ?_
              refine g_get C (.ref (ad 262)) 6 in_X11_tallyPoints_11 (List.mem_of_getElem? (i := 5) rfl) (by decide) (ce_model ad cs _ _) rfl (by decide) rfl rfl dX11_tallyPoints_106 ?_
              refine g_iload_n C 3 dX11_tallyPoints_109 rfl ?_
              refine g_iald C (by decide) (ce_m_papersOf ad cs _ _) (fin' (n := 60) rfl (by omega) (by omega)) dX11_tallyPoints_110 ?_
              refine g_ni (fun v81 ev81 => ?_)
              have gv81 : v81 = M 262 r10.toNatClampNeg := ev81.trans (hF 262 r10.toNatClampNeg (by omega))
              have tv81 := congrArg Int32.toInt gv81
              obtain ⟨bv81, dv81⟩ := (show rg 0 100000 v81 from (by rw [ev81]; exact hI 262 r10.toNatClampNeg))
              refine g_i2l C dX11_tallyPoints_111 ?_
              refine g_nl (fun v82 ev82 => ?_)
              have fv82 := fi2l rfl ev82
              refine g_iload C 0 dX11_tallyPoints_112 rfl ?_
              refine g_i2l C dX11_tallyPoints_114 ?_
              refine g_nl (fun v83 ev83 => ?_)
              have fv83 := fi2l (by decide : (0 : Int32).toInt = 0) ev83
              refine g_lmul C dX11_tallyPoints_115 ?_
              refine g_nl (fun v84 ev84 => ?_)
              try have fv84 := prodI ev84
              refine g_lconst C 1 dX11_tallyPoints_116 (by decide) ?_
              refine g_callVv C (n := 3) (As := [.int x4_28, .long v84, .long 1]) (st := []) (s_X11_addTo l D ad cs _ _ x4_28 v84 1 hI ⟨by omega, by omega⟩ ⟨by decide, by decide⟩ j28_2) gX11_tallyPoints_X11_addTo rfl rfl rfl (by decide +kernel) ⟨Nat.le_of_ble_eq_true rfl, Nat.le_of_ble_eq_true rfl⟩ rfl (Nat.le_of_ble_eq_true rfl) ⟨Nat.zero_le _, Nat.zero_le _⟩ (by decide) (ce_model ad cs _ _) rfl rfl dX11_tallyPoints_117 (fun M86 L87 hr85 => ?_)
              obtain ⟨hr85, hI, hFr85, hGr85⟩ := hr85
              have hF : ∀ k i, ¬ (k = 258 ∧ i = 25) → M86 k i = M k i := fun k i hk => by (rw [hFr85 k i (by omega)]; try exact hF k i hk)
              have hG : ∀ k i, ¬ (k = 258 ∧ i = 23) ∧ ¬ (k = 258 ∧ i = 24) ∧ k ≠ 284 ∧ k ≠ 285 → L87 k i = L k i := fun k i hk => by (rw [hGr85 k i (by omega)]; try exact hG k i hk)
              have k25 : M86 258 25 = M86 258 25 := rfl
              have kt25 := congrArg Int32.toInt k25
              have l23 : L87 258 23 = L87 258 23 := rfl
              have l24 : L87 258 24 = L87 258 24 := rfl
              have p284 : L87 284 = L87 284 := rfl
              have p285 : L87 285 = L87 285 := rfl
              obtain ⟨hr85o, hr85k, hr85s⟩ := hr85
              obtain ⟨v88, ev88⟩ : ∃ y : Int32, y = x4_28 + 1 := ⟨_, rfl⟩
              try have fv88 := fadd rfl (by decide : (1 : Int32).toInt = 1) ev88 (by omega) (by omega)
              refine g_iinc C 2 v88 [(4, .int v88), (6, .int 0), (5, .int r62), (3, .int r10), (2, .int x2_6), (0, .ref (ad 258)), (1, .int x)] dX11_tallyPoints_120 rfl (by rw [ev88]; rfl) (by decide) rfl ?_
              refine g_goto C 28 dX11_tallyPoints_123 (by decide) ?_
              refine g_lv [0, 3, 4, 5, 6] [(4, .int v88), (3, .int r10), (2, .int x2_6), (0, .ref (ad 258)), (1, .int x)] rfl ?_
              exact ih_28 (v88, M86, L87) ⟨by show 0 ≤ v88.toInt; omega, by show v88.toInt ≤ 10; omega, by show TLo L87; exact hr85o, hI, hF, hG⟩ (by show (11 - v88.toInt).toNat < (11 - x4_28.toInt).toNat; omega)
          ·
            have f89 := feq rfl (by decide : (0 : Int32).toInt = 0) c65
            refine g_iload C 0 dX11_tallyPoints_75 rfl ?_
            refine g_goto C 100 dX11_tallyPoints_77 (by decide) ?_
            refine g_istore C [(6, .int r62), (5, .int r62), (4, .int x4_28), (3, .int r10), (2, .int x2_6), (0, .ref (ad 258)), (1, .int x)] dX11_tallyPoints_100 (by decide) rfl ?_
            refine g_aload_n C 5 dX11_tallyPoints_102 rfl ?_
            refine g_iload C 2 dX11_tallyPoints_103 rfl ?_
            refine g_aload_n C 5 dX11_tallyPoints_105 rfl ?_
            refine g_get C (.ref (ad 262)) 6 in_X11_tallyPoints_11 (List.mem_of_getElem? (i := 5) rfl) (by decide) (ce_model ad cs _ _) rfl (by decide) rfl rfl dX11_tallyPoints_106 ?_
            refine g_iload_n C 3 dX11_tallyPoints_109 rfl ?_
            refine g_iald C (by decide) (ce_m_papersOf ad cs _ _) (fin' (n := 60) rfl (by omega) (by omega)) dX11_tallyPoints_110 ?_
            refine g_ni (fun v90 ev90 => ?_)
            have gv90 : v90 = M 262 r10.toNatClampNeg := ev90.trans (hF 262 r10.toNatClampNeg (by omega))
            have tv90 := congrArg Int32.toInt gv90
            obtain ⟨bv90, dv90⟩ := (show rg 0 100000 v90 from (by rw [ev90]; exact hI 262 r10.toNatClampNeg))
            refine g_i2l C dX11_tallyPoints_111 ?_
            refine g_nl (fun v91 ev91 => ?_)
            have fv91 := fi2l rfl ev91
            refine g_iload C 0 dX11_tallyPoints_112 rfl ?_
            refine g_i2l C dX11_tallyPoints_114 ?_
            refine g_nl (fun v92 ev92 => ?_)
            have fv92 := fi2l rfl ev92
            refine g_lmul C dX11_tallyPoints_115 ?_
            refine g_nl (fun v93 ev93 => ?_)
            try have fv93 := prodI ev93
            refine g_lconst C 1 dX11_tallyPoints_116 (by decide) ?_
            refine g_callVv C (n := 3) (As := [.int x4_28, .long v93, .long 1]) (st := []) (s_X11_addTo l D ad cs _ _ x4_28 v93 1 hI ⟨by omega, by omega⟩ ⟨by decide, by decide⟩ j28_2) gX11_tallyPoints_X11_addTo rfl rfl rfl (by decide +kernel) ⟨Nat.le_of_ble_eq_true rfl, Nat.le_of_ble_eq_true rfl⟩ rfl (Nat.le_of_ble_eq_true rfl) ⟨Nat.zero_le _, Nat.zero_le _⟩ (by decide) (ce_model ad cs _ _) rfl rfl dX11_tallyPoints_117 (fun M95 L96 hr94 => ?_)
            obtain ⟨hr94, hI, hFr94, hGr94⟩ := hr94
            have hF : ∀ k i, ¬ (k = 258 ∧ i = 25) → M95 k i = M k i := fun k i hk => by (rw [hFr94 k i (by omega)]; try exact hF k i hk)
            have hG : ∀ k i, ¬ (k = 258 ∧ i = 23) ∧ ¬ (k = 258 ∧ i = 24) ∧ k ≠ 284 ∧ k ≠ 285 → L96 k i = L k i := fun k i hk => by (rw [hGr94 k i (by omega)]; try exact hG k i hk)
            have k25 : M95 258 25 = M95 258 25 := rfl
            have kt25 := congrArg Int32.toInt k25
            have l23 : L96 258 23 = L96 258 23 := rfl
            have l24 : L96 258 24 = L96 258 24 := rfl
            have p284 : L96 284 = L96 284 := rfl
            have p285 : L96 285 = L96 285 := rfl
            obtain ⟨hr94o, hr94k, hr94s⟩ := hr94
            obtain ⟨v97, ev97⟩ : ∃ y : Int32, y = x4_28 + 1 := ⟨_, rfl⟩
            try have fv97 := fadd rfl (by decide : (1 : Int32).toInt = 1) ev97 (by omega) (by omega)
            refine g_iinc C 2 v97 [(4, .int v97), (6, .int r62), (5, .int r62), (3, .int r10), (2, .int x2_6), (0, .ref (ad 258)), (1, .int x)] dX11_tallyPoints_120 rfl (by rw [ev97]; rfl) (by decide) rfl ?_
            refine g_goto C 28 dX11_tallyPoints_123 (by decide) ?_
            refine g_lv [0, 3, 4, 5, 6] [(4, .int v97), (3, .int r10), (2, .int x2_6), (0, .ref (ad 258)), (1, .int x)] rfl ?_
            exact ih_28 (v97, M95, L96) ⟨by show 0 ≤ v97.toInt; omega, by show v97.toInt ≤ 10; omega, by show TLo L96; exact hr94o, hI, hF, hG⟩ (by show (11 - v97.toInt).toNat < (11 - x4_28.toInt).toNat; omega)
theorem dX11_greatest_0 : decode cX11_greatest 0 = .ok (.bipush (-9), 2) := dw16 (n := 0) (i := 0) (a := 247) kc_cX11_greatest_0 (by decide +kernel) (by decide)
theorem dX11_greatest_2 : decode cX11_greatest 2 = .ok (.istore_n 1, 1) := dw60 (n := 0) (i := 2) kc_cX11_greatest_0 (by decide +kernel)
theorem dX11_greatest_3 : decode cX11_greatest 3 = .ok (.iconst 0, 1) := dw3 (n := 0) (i := 3) kc_cX11_greatest_0 (by decide +kernel)
theorem dX11_greatest_4 : decode cX11_greatest 4 = .ok (.istore_n 2, 1) := dw61 (n := 0) (i := 4) kc_cX11_greatest_0 (by decide +kernel)
theorem dX11_greatest_5 : decode cX11_greatest 5 = .ok (.iload_n 2, 1) := dw28 (n := 0) (i := 5) kc_cX11_greatest_0 (by decide +kernel)
theorem dX11_greatest_6 : decode cX11_greatest 6 = .ok (.aload_n 0, 1) := dw42 (n := 0) (i := 6) kc_cX11_greatest_0 (by decide +kernel)
theorem dX11_greatest_7 : decode cX11_greatest 7 = .ok (.getfield 137, 3) := dw180 (n := 0) (i := 7) (a := 0) (b := 137) kc_cX11_greatest_0 (by decide +kernel) (by decide)
theorem in_X11_greatest_11 : ∀ w ∈ u_ws RX11 TX11 53, w ∈ wsX11_greatest := fun _ h => List.mem_cons_of_mem _ (List.mem_append_right _ h)
theorem dX11_greatest_10 : decode cX11_greatest 10 = .ok (.if_icmp .ge 67, 3) := dw162 (n := 0) (i := 10) (a := 0) (b := 67) kc_cX11_greatest_0 (by decide +kernel) (by decide)
theorem dX11_greatest_77 : decode cX11_greatest 77 = .ok (.iload_n 1, 1) := dw27 (n := 64) (i := 13) kc_cX11_greatest_2 (by decide +kernel)
theorem dX11_greatest_78 : decode cX11_greatest 78 = .ok (.ireturn, 1) := dw172 (n := 64) (i := 14) kc_cX11_greatest_2 (by decide +kernel)
theorem dX11_greatest_13 : decode cX11_greatest 13 = .ok (.aload_n 0, 1) := dw42 (n := 0) (i := 13) kc_cX11_greatest_0 (by decide +kernel)
theorem dX11_greatest_14 : decode cX11_greatest 14 = .ok (.getfield 13, 3) := dw180 (n := 0) (i := 14) (a := 0) (b := 13) kc_cX11_greatest_0 (by decide +kernel) (by decide)
theorem dX11_greatest_17 : decode cX11_greatest 17 = .ok (.iload_n 2, 1) := dw28 (n := 0) (i := 17) kc_cX11_greatest_0 (by decide +kernel)
theorem dX11_greatest_18 : decode cX11_greatest 18 = .ok (.iaload, 1) := dw46 (n := 0) (i := 18) kc_cX11_greatest_0 (by decide +kernel)
theorem dX11_greatest_19 : decode cX11_greatest 19 = .ok (.istore_n 3, 1) := dw62 (n := 0) (i := 19) kc_cX11_greatest_0 (by decide +kernel)
theorem dX11_greatest_20 : decode cX11_greatest 20 = .ok (.aload_n 0, 1) := dw42 (n := 0) (i := 20) kc_cX11_greatest_0 (by decide +kernel)
theorem dX11_greatest_21 : decode cX11_greatest 21 = .ok (.getfield 81, 3) := dw180 (n := 0) (i := 21) (a := 0) (b := 81) kc_cX11_greatest_0 (by decide +kernel) (by decide)
theorem dX11_greatest_24 : decode cX11_greatest 24 = .ok (.iload_n 3, 1) := dw29 (n := 0) (i := 24) kc_cX11_greatest_0 (by decide +kernel)
theorem dX11_greatest_25 : decode cX11_greatest 25 = .ok (.baload, 1) := dw51 (n := 0) (i := 25) kc_cX11_greatest_0 (by decide +kernel)
theorem dX11_greatest_26 : decode cX11_greatest 26 = .ok (.ifCond .eq 43, 3) := dw153 (n := 0) (i := 26) (a := 0) (b := 43) kc_cX11_greatest_0 (by decide +kernel) (by decide)
theorem dX11_greatest_69 : decode cX11_greatest 69 = .ok (.iload_n 1, 1) := dw27 (n := 64) (i := 5) kc_cX11_greatest_2 (by decide +kernel)
theorem dX11_greatest_70 : decode cX11_greatest 70 = .ok (.istore_n 1, 1) := dw60 (n := 64) (i := 6) kc_cX11_greatest_2 (by decide +kernel)
theorem dX11_greatest_71 : decode cX11_greatest 71 = .ok (.iinc 2 1, 3) := by decide +kernel
theorem dX11_greatest_74 : decode cX11_greatest 74 = .ok (.goto (-69), 3) := dw167 (n := 64) (i := 10) (a := 255) (b := 187) kc_cX11_greatest_2 (by decide +kernel) (by decide)
theorem dX11_greatest_29 : decode cX11_greatest 29 = .ok (.iload_n 1, 1) := dw27 (n := 0) (i := 29) kc_cX11_greatest_0 (by decide +kernel)
theorem dX11_greatest_30 : decode cX11_greatest 30 = .ok (.bipush (-9), 2) := dw16 (n := 0) (i := 30) (a := 247) kc_cX11_greatest_0 (by decide +kernel) (by decide)
theorem dX11_greatest_32 : decode cX11_greatest 32 = .ok (.if_icmp .eq 33, 3) := dw159 (n := 32) (i := 0) (a := 0) (b := 33) kc_cX11_greatest_1 (by decide +kernel) (by decide)
theorem dX11_greatest_65 : decode cX11_greatest 65 = .ok (.iload_n 3, 1) := dw29 (n := 64) (i := 1) kc_cX11_greatest_2 (by decide +kernel)
theorem dX11_greatest_66 : decode cX11_greatest 66 = .ok (.goto 4, 3) := dw167 (n := 64) (i := 2) (a := 0) (b := 4) kc_cX11_greatest_2 (by decide +kernel) (by decide)
theorem dX11_greatest_35 : decode cX11_greatest 35 = .ok (.aload_n 0, 1) := dw42 (n := 32) (i := 3) kc_cX11_greatest_1 (by decide +kernel)
theorem dX11_greatest_36 : decode cX11_greatest 36 = .ok (.getfield 87, 3) := dw180 (n := 32) (i := 4) (a := 0) (b := 87) kc_cX11_greatest_1 (by decide +kernel) (by decide)
theorem dX11_greatest_39 : decode cX11_greatest 39 = .ok (.iload_n 3, 1) := dw29 (n := 32) (i := 7) kc_cX11_greatest_1 (by decide +kernel)
theorem dX11_greatest_40 : decode cX11_greatest 40 = .ok (.laload, 1) := dw47 (n := 32) (i := 8) kc_cX11_greatest_1 (by decide +kernel)
theorem dX11_greatest_41 : decode cX11_greatest 41 = .ok (.aload_n 0, 1) := dw42 (n := 32) (i := 9) kc_cX11_greatest_1 (by decide +kernel)
theorem dX11_greatest_42 : decode cX11_greatest 42 = .ok (.getfield 90, 3) := dw180 (n := 32) (i := 10) (a := 0) (b := 90) kc_cX11_greatest_1 (by decide +kernel) (by decide)
theorem dX11_greatest_45 : decode cX11_greatest 45 = .ok (.iload_n 3, 1) := dw29 (n := 32) (i := 13) kc_cX11_greatest_1 (by decide +kernel)
theorem dX11_greatest_46 : decode cX11_greatest 46 = .ok (.laload, 1) := dw47 (n := 32) (i := 14) kc_cX11_greatest_1 (by decide +kernel)
theorem dX11_greatest_47 : decode cX11_greatest 47 = .ok (.aload_n 0, 1) := dw42 (n := 32) (i := 15) kc_cX11_greatest_1 (by decide +kernel)
theorem dX11_greatest_48 : decode cX11_greatest 48 = .ok (.getfield 87, 3) := dw180 (n := 32) (i := 16) (a := 0) (b := 87) kc_cX11_greatest_1 (by decide +kernel) (by decide)
theorem dX11_greatest_51 : decode cX11_greatest 51 = .ok (.iload_n 1, 1) := dw27 (n := 32) (i := 19) kc_cX11_greatest_1 (by decide +kernel)
theorem dX11_greatest_52 : decode cX11_greatest 52 = .ok (.laload, 1) := dw47 (n := 32) (i := 20) kc_cX11_greatest_1 (by decide +kernel)
theorem dX11_greatest_53 : decode cX11_greatest 53 = .ok (.aload_n 0, 1) := dw42 (n := 32) (i := 21) kc_cX11_greatest_1 (by decide +kernel)
theorem dX11_greatest_54 : decode cX11_greatest 54 = .ok (.getfield 90, 3) := dw180 (n := 32) (i := 22) (a := 0) (b := 90) kc_cX11_greatest_1 (by decide +kernel) (by decide)
theorem dX11_greatest_57 : decode cX11_greatest 57 = .ok (.iload_n 1, 1) := dw27 (n := 32) (i := 25) kc_cX11_greatest_1 (by decide +kernel)
theorem dX11_greatest_58 : decode cX11_greatest 58 = .ok (.laload, 1) := dw47 (n := 32) (i := 26) kc_cX11_greatest_1 (by decide +kernel)
theorem dX11_greatest_59 : decode cX11_greatest 59 = .ok (.invokestatic 227, 3) := dw184 (n := 32) (i := 27) (a := 0) (b := 227) kc_cX11_greatest_1 (by decide +kernel) (by decide)
set_option maxRecDepth 20000 in
theorem ggX11_greatest_X11_isMore : GoodIn wsX11_greatest wsX11_isMore := (gk_code 9 rfl (gn))
set_option maxRecDepth 20000 in
theorem gX11_greatest_X11_isMore : GoodIn wsX11_greatest (va_wsS RX11 227 yX11_isMore wsX11_isMore) := goodIn_app (gk_methodLink 6 rfl (gk_static 7 rfl (gk_initialized 8 rfl (gn)))) ggX11_greatest_X11_isMore
theorem dX11_greatest_62 : decode cX11_greatest 62 = .ok (.ifCond .eq 7, 3) := dw153 (n := 32) (i := 30) (a := 0) (b := 7) kc_cX11_greatest_1 (by decide +kernel) (by decide)
set_option maxHeartbeats 4000000 in
set_option maxRecDepth 100000 in
theorem s_X11_greatest (l : Launch) (D : va_G) (ad : Nat → Nat) (cs : Nat → ClassId) (M : MI) (L : ML)  (hI : IR M) (hD : DP (vR M)) : Ci l yX11_greatest wsX11_greatest ({ frames := 1, cells := 0, slots := 0, locals := 27 }) D ad cs [.ref (ad 258)] M L (fun r M1 L1 => M1 = M ∧ L1 = L ∧ ((r.toInt = -9 ∨ (0 ≤ r.toInt ∧ r.toInt < 10)) ∧ (0 ≤ r.toInt → ¬ (M 282 r.toNatClampNeg).toInt = 0) ∧ ((∃ c : Nat, (c : Int) < (vR M 0 0).toInt ∧ ¬ (M 282 c).toInt = 0) → r.toInt ≠ -9))) := by
  refine enter_i RX11 rfl [(0, .ref (ad 258))] rfl (Nat.le_of_ble_eq_true rfl) (by decide +kernel) rfl ?_
  intro p e s m below meth c C hr
  have hF : ∀ k i, True → M k i = M k i := fun _ _ _ => rfl
  have hG : ∀ k i, True → L k i = L k i := fun _ _ _ => rfl
  have w0 : (vR M 0 0).toInt = (M 258 2).toInt := rfl
  obtain ⟨ca, cb⟩ := (show rg 0 10 (M 258 2) from hI 258 2)
  refine g_bipush C (-9) dX11_greatest_0 (by decide) ?_
  refine g_istore_n C [(1, .int ((-9))), (0, .ref (ad 258))] dX11_greatest_2 (by decide) rfl ?_
  refine g_iconst C 0 dX11_greatest_3 (by decide) ?_
  refine g_istore_n C [(2, .int 0), (1, .int ((-9))), (0, .ref (ad 258))] dX11_greatest_4 (by decide) rfl ?_
  have zy1 : (0 : Int32).toInt = 0 := by decide
  have zy2 : ((-9) : Int32).toInt = (-9) := by decide
  refine g_loop (α := Int32 × Int32 × MI × ML) (fun a => (11 - a.1.toInt).toNat) (fun a => (0 ≤ a.1.toInt) ∧ (a.1.toInt ≤ (M 258 2).toInt) ∧ (a.2.1.toInt = -9 ∨ (0 ≤ a.2.1.toInt ∧ a.2.1.toInt < 10)) ∧ (0 ≤ a.2.1.toInt → ¬ (M 282 a.2.1.toNatClampNeg).toInt = 0) ∧ (∀ j : Nat, (j : Int) < a.1.toInt → ¬ (M 282 (M 260 j).toNatClampNeg).toInt = 0 → a.2.1.toInt ≠ -9) ∧ IR a.2.2.1 ∧ (∀ k i, True → a.2.2.1 k i = M k i) ∧ (∀ k i, True → a.2.2.2 k i = L k i)) (fun a => a.2.2.1) (fun a => a.2.2.2) (fun a => [(2, .int a.1), (1, .int a.2.1), (0, .ref (ad 258))]) ((0 : Int32), (-9 : Int32), M, L) ⟨by show 0 ≤ (0 : Int32).toInt; omega, by show (0 : Int32).toInt ≤ (M 258 2).toInt; omega, by show (-9 : Int32).toInt = -9 ∨ (0 ≤ (-9 : Int32).toInt ∧ (-9 : Int32).toInt < 10); omega, by show 0 ≤ (-9 : Int32).toInt → ¬ (M 282 (-9 : Int32).toNatClampNeg).toInt = 0; exact fun h => absurd h (by decide), by show ∀ j : Nat, (j : Int) < (0 : Int32).toInt → ¬ (M 282 (M 260 j).toNatClampNeg).toInt = 0 → (-9 : Int32).toInt ≠ -9; intro j hj; exact absurd hj (by show ¬ (j : Int) < 0; omega), hI, hF, hG⟩ rfl rfl rfl ?_
  rintro ⟨x2_5, x1_5, M_5, L_5⟩ ⟨j5_0, j5_1, j5_2, j5_3, j5_4, hI, hF, hG⟩ ih_5
  dsimp only at j5_0 j5_1 j5_2 j5_3 j5_4 hI hF hG ih_5 ⊢
  refine g_iload_n C 0 dX11_greatest_5 rfl ?_
  refine g_aload_n C 2 dX11_greatest_6 rfl ?_
  refine g_get C (.int (M_5 258 2)) 2 in_X11_greatest_11 (List.mem_of_getElem? (i := 1) rfl) (by decide) (ce_model ad cs _ _) rfl (by decide) rfl rfl dX11_greatest_7 ?_
  refine g_ni (fun v3 ev3 => ?_)
  have gv3 : v3 = M 258 2 := ev3.trans (hF 258 2 trivial)
  have tv3 := congrArg Int32.toInt gv3
  obtain ⟨bv3, dv3⟩ := (show rg 0 10 v3 from (by rw [ev3]; exact hI 258 2))
  refine g_icmp_ge C 77 dX11_greatest_10 (by decide) (fun c4 => ?_) (fun c4 => ?_)
  ·
    have f5 := fle rfl rfl c4
    refine g_iload_n C 1 dX11_greatest_77 rfl ?_
    exact g_iret C hr ⟨funext (fun k => funext (fun i => hF k i trivial)), funext (fun k => funext (fun i => hG k i trivial)), ⟨j5_2, j5_3, fun ⟨c, hc1, hc2⟩ => (by
      obtain ⟨i, hi1, hi2⟩ := hD c hc1
      exact j5_4 i (by omega) (by
        have e9 : (M 260 i).toNatClampNeg = c := by (have h9 : (M 260 i).toInt = (c : Int) := hi2; have := ixn (x := M 260 i) (by omega); omega)
        rw [e9]; exact hc2))⟩⟩ dX11_greatest_78
  ·
    have f6 := fnle rfl rfl c4
    refine g_aload_n C 2 dX11_greatest_13 rfl ?_
    refine g_get C (.ref (ad 260)) 3 in_X11_greatest_11 (List.mem_of_getElem? (i := 2) rfl) (by decide) (ce_model ad cs _ _) rfl (by decide) rfl rfl dX11_greatest_14 ?_
    refine g_iload_n C 0 dX11_greatest_17 rfl ?_
    refine g_iald C (by decide) (ce_m_draw ad cs _ _) (fin' (n := 10) rfl (by omega) (by omega)) dX11_greatest_18 ?_
    refine g_ni (fun v7 ev7 => ?_)
    have gv7 : v7 = M 260 x2_5.toNatClampNeg := ev7.trans (hF 260 x2_5.toNatClampNeg trivial)
    have tv7 := congrArg Int32.toInt gv7
    obtain ⟨bv7, dv7⟩ := (show rg 0 9 v7 from (by rw [ev7]; exact hI 260 x2_5.toNatClampNeg))
    refine g_istore_n C [(3, .int v7), (2, .int x2_5), (1, .int x1_5), (0, .ref (ad 258))] dX11_greatest_19 (by decide) rfl ?_
    refine g_aload_n C 3 dX11_greatest_20 rfl ?_
    refine g_get C (.ref (ad 282)) 36 in_X11_greatest_11 (List.mem_of_getElem? (i := 3) rfl) (by decide) (ce_model ad cs _ _) rfl (by decide) rfl rfl dX11_greatest_21 ?_
    refine g_iload_n C 0 dX11_greatest_24 rfl ?_
    refine g_zald C (by decide) (ce_m_isIn ad cs _ _) (fin' (n := 10) rfl (by omega) (by omega)) dX11_greatest_25 ?_
    refine g_ni (fun v8 ev8 => ?_)
    have gv8 : v8 = M 282 v7.toNatClampNeg := ev8.trans (hF 282 v7.toNatClampNeg trivial)
    have tv8 := congrArg Int32.toInt gv8
    refine g_if_eq C 69 dX11_greatest_26 (by decide) (fun c9 => ?_) (fun c9 => ?_)
    ·
      have f10 := feq rfl (by decide : (0 : Int32).toInt = 0) c9
      refine g_iload_n C 2 dX11_greatest_69 rfl ?_
      refine g_istore_n C [(1, .int x1_5), (3, .int v7), (2, .int x2_5), (0, .ref (ad 258))] dX11_greatest_70 (by decide) rfl ?_
      obtain ⟨v11, ev11⟩ : ∃ y : Int32, y = x2_5 + 1 := ⟨_, rfl⟩
      try have fv11 := fadd rfl (by decide : (1 : Int32).toInt = 1) ev11 (by omega) (by omega)
      refine g_iinc C 2 v11 [(2, .int v11), (1, .int x1_5), (3, .int v7), (0, .ref (ad 258))] dX11_greatest_71 rfl (by rw [ev11]; rfl) (by decide) rfl ?_
      refine g_goto C 5 dX11_greatest_74 (by decide) ?_
      refine g_lv [0, 1, 3] [(2, .int v11), (1, .int x1_5), (0, .ref (ad 258))] rfl ?_
      have n2 := ixn (x := x2_5) (by omega)
      have hst : ∀ j : Nat, (j : Int) < v11.toInt → ¬ (M 282 (M 260 j).toNatClampNeg).toInt = 0 → x1_5.toInt ≠ -9 := by
        intro j hj hin
        by_cases e9 : j = x2_5.toNatClampNeg
        · rw [e9] at hin; have e8 := congrArg Int32.toNatClampNeg gv7; rw [← e8] at hin; omega
        · have h9 := j5_4 j (by omega) hin; omega
      exact ih_5 (v11, x1_5, M_5, L_5) ⟨by show 0 ≤ v11.toInt; omega, by show v11.toInt ≤ (M 258 2).toInt; omega, by show x1_5.toInt = -9 ∨ (0 ≤ x1_5.toInt ∧ x1_5.toInt < 10); omega, by show 0 ≤ x1_5.toInt → ¬ (M 282 x1_5.toNatClampNeg).toInt = 0; first | exact j5_3 | exact fun _ => (by omega), by show ∀ j : Nat, (j : Int) < v11.toInt → ¬ (M 282 (M 260 j).toNatClampNeg).toInt = 0 → x1_5.toInt ≠ -9; exact hst, hI, hF, hG⟩ (by show (11 - v11.toInt).toNat < (11 - x2_5.toInt).toNat; omega)
    ·
      have f12 := fne rfl (by decide : (0 : Int32).toInt = 0) c9
      refine g_iload_n C 2 dX11_greatest_29 rfl ?_
      refine g_bipush C (-9) dX11_greatest_30 (by decide) ?_
      refine g_icmp_eq C 65 dX11_greatest_32 (by decide) (fun c13 => ?_) (fun c13 => ?_)
      ·
        have f14 := feq rfl (by decide : ((-9) : Int32).toInt = (-9)) c13
        refine g_iload_n C 0 dX11_greatest_65 rfl ?_
        refine g_goto C 70 dX11_greatest_66 (by decide) ?_
        refine g_istore_n C [(1, .int v7), (3, .int v7), (2, .int x2_5), (0, .ref (ad 258))] dX11_greatest_70 (by decide) rfl ?_
        obtain ⟨v15, ev15⟩ : ∃ y : Int32, y = x2_5 + 1 := ⟨_, rfl⟩
        try have fv15 := fadd rfl (by decide : (1 : Int32).toInt = 1) ev15 (by omega) (by omega)
        refine g_iinc C 2 v15 [(2, .int v15), (1, .int v7), (3, .int v7), (0, .ref (ad 258))] dX11_greatest_71 rfl (by rw [ev15]; rfl) (by decide) rfl ?_
        refine g_goto C 5 dX11_greatest_74 (by decide) ?_
        refine g_lv [0, 1, 3] [(2, .int v15), (1, .int v7), (0, .ref (ad 258))] rfl ?_
        have n2 := ixn (x := x2_5) (by omega)
        have hst : ∀ j : Nat, (j : Int) < v15.toInt → ¬ (M 282 (M 260 j).toNatClampNeg).toInt = 0 → v7.toInt ≠ -9 := by
          intro j hj hin
          by_cases e9 : j = x2_5.toNatClampNeg
          · rw [e9] at hin; have e8 := congrArg Int32.toNatClampNeg gv7; rw [← e8] at hin; omega
          · have h9 := j5_4 j (by omega) hin; omega
        exact ih_5 (v15, v7, M_5, L_5) ⟨by show 0 ≤ v15.toInt; omega, by show v15.toInt ≤ (M 258 2).toInt; omega, by show v7.toInt = -9 ∨ (0 ≤ v7.toInt ∧ v7.toInt < 10); omega, by show 0 ≤ v7.toInt → ¬ (M 282 v7.toNatClampNeg).toInt = 0; first | exact j5_3 | exact fun _ => (by omega), by show ∀ j : Nat, (j : Int) < v15.toInt → ¬ (M 282 (M 260 j).toNatClampNeg).toInt = 0 → v7.toInt ≠ -9; exact hst, hI, hF, hG⟩ (by show (11 - v15.toInt).toNat < (11 - x2_5.toInt).toNat; omega)
      ·
        have f16 := fne rfl (by decide : ((-9) : Int32).toInt = (-9)) c13
        refine g_aload_n C 3 dX11_greatest_35 rfl ?_
        refine g_get C (.ref (ad 284)) 38 in_X11_greatest_11 (List.mem_of_getElem? (i := 4) rfl) (by decide) (ce_model ad cs _ _) rfl (by decide) rfl rfl dX11_greatest_36 ?_
        refine g_iload_n C 0 dX11_greatest_39 rfl ?_
        refine g_lald C (by decide) (ce_m_ups ad cs _ _) (fin' (n := 10) rfl (by omega) (by omega)) dX11_greatest_40 ?_
        refine g_nl (fun v17 ev17 => ?_)
        have gv17 : v17 = L 284 v7.toNatClampNeg := ev17.trans (hG 284 _ trivial)
        have tv17 := congrArg Int64.toInt gv17
        refine g_aload_n C 3 dX11_greatest_41 rfl ?_
        refine g_get C (.ref (ad 285)) 39 in_X11_greatest_11 (List.mem_of_getElem? (i := 5) rfl) (by decide) (ce_model ad cs _ _) rfl (by decide) rfl rfl dX11_greatest_42 ?_
        refine g_iload_n C 0 dX11_greatest_45 rfl ?_
        refine g_lald C (by decide) (ce_m_downs ad cs _ _) (fin' (n := 10) rfl (by omega) (by omega)) dX11_greatest_46 ?_
        refine g_nl (fun v18 ev18 => ?_)
        have gv18 : v18 = L 285 v7.toNatClampNeg := ev18.trans (hG 285 _ trivial)
        have tv18 := congrArg Int64.toInt gv18
        refine g_aload_n C 3 dX11_greatest_47 rfl ?_
        refine g_get C (.ref (ad 284)) 38 in_X11_greatest_11 (List.mem_of_getElem? (i := 4) rfl) (by decide) (ce_model ad cs _ _) rfl (by decide) rfl rfl dX11_greatest_48 ?_
        refine g_iload_n C 2 dX11_greatest_51 rfl ?_
        refine g_lald C (by decide) (ce_m_ups ad cs _ _) (fin' (n := 10) rfl (by omega) (by omega)) dX11_greatest_52 ?_
        refine g_nl (fun v19 ev19 => ?_)
        have gv19 : v19 = L 284 x1_5.toNatClampNeg := ev19.trans (hG 284 _ trivial)
        have tv19 := congrArg Int64.toInt gv19
        refine g_aload_n C 3 dX11_greatest_53 rfl ?_
        refine g_get C (.ref (ad 285)) 39 in_X11_greatest_11 (List.mem_of_getElem? (i := 5) rfl) (by decide) (ce_model ad cs _ _) rfl (by decide) rfl rfl dX11_greatest_54 ?_
        refine g_iload_n C 2 dX11_greatest_57 rfl ?_
        refine g_lald C (by decide) (ce_m_downs ad cs _ _) (fin' (n := 10) rfl (by omega) (by omega)) dX11_greatest_58 ?_
        refine g_nl (fun v20 ev20 => ?_)
        have gv20 : v20 = L 285 x1_5.toNatClampNeg := ev20.trans (hG 285 _ trivial)
        have tv20 := congrArg Int64.toInt gv20
        refine g_callSi C (n := 4) (As := [.long v17, .long v18, .long v19, .long v20]) (st := []) (s_X11_isMore l D ad cs _ _ v17 v18 v19 v20 hI ) gX11_greatest_X11_isMore rfl rfl rfl (by decide +kernel) ⟨Nat.le_of_ble_eq_true rfl, Nat.le_of_ble_eq_true rfl⟩ rfl (Nat.le_of_ble_eq_true rfl) ⟨Nat.zero_le _, Nat.zero_le _⟩ rfl dX11_greatest_59 (fun r21 M22 L23 hr21 => ?_)
        obtain ⟨hq1, hq2, hr21⟩ := hr21
        obtain rfl := hq1.symm
        obtain rfl := hq2.symm
        obtain ⟨bar21, bbr21⟩ := hr21
        refine g_if_eq C 69 dX11_greatest_62 (by decide) (fun c24 => ?_) (fun c24 => ?_)
        ·
          have f25 := feq rfl (by decide : (0 : Int32).toInt = 0) c24
          refine g_iload_n C 2 dX11_greatest_69 rfl ?_
          refine g_istore_n C [(1, .int x1_5), (3, .int v7), (2, .int x2_5), (0, .ref (ad 258))] dX11_greatest_70 (by decide) rfl ?_
          obtain ⟨v26, ev26⟩ : ∃ y : Int32, y = x2_5 + 1 := ⟨_, rfl⟩
          try have fv26 := fadd rfl (by decide : (1 : Int32).toInt = 1) ev26 (by omega) (by omega)
          refine g_iinc C 2 v26 [(2, .int v26), (1, .int x1_5), (3, .int v7), (0, .ref (ad 258))] dX11_greatest_71 rfl (by rw [ev26]; rfl) (by decide) rfl ?_
          refine g_goto C 5 dX11_greatest_74 (by decide) ?_
          refine g_lv [0, 1, 3] [(2, .int v26), (1, .int x1_5), (0, .ref (ad 258))] rfl ?_
          have n2 := ixn (x := x2_5) (by omega)
          have hst : ∀ j : Nat, (j : Int) < v26.toInt → ¬ (M 282 (M 260 j).toNatClampNeg).toInt = 0 → x1_5.toInt ≠ -9 := by
            intro j hj hin
            by_cases e9 : j = x2_5.toNatClampNeg
            · rw [e9] at hin; have e8 := congrArg Int32.toNatClampNeg gv7; rw [← e8] at hin; omega
            · have h9 := j5_4 j (by omega) hin; omega
          exact ih_5 (v26, x1_5, M_5, L_5) ⟨by show 0 ≤ v26.toInt; omega, by show v26.toInt ≤ (M 258 2).toInt; omega, by show x1_5.toInt = -9 ∨ (0 ≤ x1_5.toInt ∧ x1_5.toInt < 10); omega, by show 0 ≤ x1_5.toInt → ¬ (M 282 x1_5.toNatClampNeg).toInt = 0; first | exact j5_3 | exact fun _ => (by omega), by show ∀ j : Nat, (j : Int) < v26.toInt → ¬ (M 282 (M 260 j).toNatClampNeg).toInt = 0 → x1_5.toInt ≠ -9; exact hst, hI, hF, hG⟩ (by show (11 - v26.toInt).toNat < (11 - x2_5.toInt).toNat; omega)
        ·
          have f27 := fne rfl (by decide : (0 : Int32).toInt = 0) c24
          refine g_iload_n C 0 dX11_greatest_65 rfl ?_
          refine g_goto C 70 dX11_greatest_66 (by decide) ?_
          refine g_istore_n C [(1, .int v7), (3, .int v7), (2, .int x2_5), (0, .ref (ad 258))] dX11_greatest_70 (by decide) rfl ?_
          obtain ⟨v28, ev28⟩ : ∃ y : Int32, y = x2_5 + 1 := ⟨_, rfl⟩
          try have fv28 := fadd rfl (by decide : (1 : Int32).toInt = 1) ev28 (by omega) (by omega)
          refine g_iinc C 2 v28 [(2, .int v28), (1, .int v7), (3, .int v7), (0, .ref (ad 258))] dX11_greatest_71 rfl (by rw [ev28]; rfl) (by decide) rfl ?_
          refine g_goto C 5 dX11_greatest_74 (by decide) ?_
          refine g_lv [0, 1, 3] [(2, .int v28), (1, .int v7), (0, .ref (ad 258))] rfl ?_
          have n2 := ixn (x := x2_5) (by omega)
          have hst : ∀ j : Nat, (j : Int) < v28.toInt → ¬ (M 282 (M 260 j).toNatClampNeg).toInt = 0 → v7.toInt ≠ -9 := by
            intro j hj hin
            by_cases e9 : j = x2_5.toNatClampNeg
            · rw [e9] at hin; have e8 := congrArg Int32.toNatClampNeg gv7; rw [← e8] at hin; omega
            · have h9 := j5_4 j (by omega) hin; omega
          exact ih_5 (v28, v7, M_5, L_5) ⟨by show 0 ≤ v28.toInt; omega, by show v28.toInt ≤ (M 258 2).toInt; omega, by show v7.toInt = -9 ∨ (0 ≤ v7.toInt ∧ v7.toInt < 10); omega, by show 0 ≤ v7.toInt → ¬ (M 282 v7.toNatClampNeg).toInt = 0; first | exact j5_3 | exact fun _ => (by omega), by show ∀ j : Nat, (j : Int) < v28.toInt → ¬ (M 282 (M 260 j).toNatClampNeg).toInt = 0 → v7.toInt ≠ -9; exact hst, hI, hF, hG⟩ (by show (11 - v28.toInt).toNat < (11 - x2_5.toInt).toNat; omega)
theorem dX11_least_0 : decode cX11_least 0 = .ok (.bipush (-9), 2) := dw16 (n := 0) (i := 0) (a := 247) kc_cX11_least_0 (by decide +kernel) (by decide)
theorem dX11_least_2 : decode cX11_least 2 = .ok (.istore_n 1, 1) := dw60 (n := 0) (i := 2) kc_cX11_least_0 (by decide +kernel)
theorem dX11_least_3 : decode cX11_least 3 = .ok (.iconst 0, 1) := dw3 (n := 0) (i := 3) kc_cX11_least_0 (by decide +kernel)
theorem dX11_least_4 : decode cX11_least 4 = .ok (.istore_n 2, 1) := dw61 (n := 0) (i := 4) kc_cX11_least_0 (by decide +kernel)
theorem dX11_least_5 : decode cX11_least 5 = .ok (.iload_n 2, 1) := dw28 (n := 0) (i := 5) kc_cX11_least_0 (by decide +kernel)
theorem dX11_least_6 : decode cX11_least 6 = .ok (.aload_n 0, 1) := dw42 (n := 0) (i := 6) kc_cX11_least_0 (by decide +kernel)
theorem dX11_least_7 : decode cX11_least 7 = .ok (.getfield 137, 3) := dw180 (n := 0) (i := 7) (a := 0) (b := 137) kc_cX11_least_0 (by decide +kernel) (by decide)
theorem in_X11_least_11 : ∀ w ∈ u_ws RX11 TX11 53, w ∈ wsX11_least := fun _ h => List.mem_cons_of_mem _ (List.mem_append_right _ h)
theorem dX11_least_10 : decode cX11_least 10 = .ok (.if_icmp .ge 67, 3) := dw162 (n := 0) (i := 10) (a := 0) (b := 67) kc_cX11_least_0 (by decide +kernel) (by decide)
theorem dX11_least_77 : decode cX11_least 77 = .ok (.iload_n 1, 1) := dw27 (n := 64) (i := 13) kc_cX11_least_2 (by decide +kernel)
theorem dX11_least_78 : decode cX11_least 78 = .ok (.ireturn, 1) := dw172 (n := 64) (i := 14) kc_cX11_least_2 (by decide +kernel)
theorem dX11_least_13 : decode cX11_least 13 = .ok (.aload_n 0, 1) := dw42 (n := 0) (i := 13) kc_cX11_least_0 (by decide +kernel)
theorem dX11_least_14 : decode cX11_least 14 = .ok (.getfield 13, 3) := dw180 (n := 0) (i := 14) (a := 0) (b := 13) kc_cX11_least_0 (by decide +kernel) (by decide)
theorem dX11_least_17 : decode cX11_least 17 = .ok (.iload_n 2, 1) := dw28 (n := 0) (i := 17) kc_cX11_least_0 (by decide +kernel)
theorem dX11_least_18 : decode cX11_least 18 = .ok (.iaload, 1) := dw46 (n := 0) (i := 18) kc_cX11_least_0 (by decide +kernel)
theorem dX11_least_19 : decode cX11_least 19 = .ok (.istore_n 3, 1) := dw62 (n := 0) (i := 19) kc_cX11_least_0 (by decide +kernel)
theorem dX11_least_20 : decode cX11_least 20 = .ok (.aload_n 0, 1) := dw42 (n := 0) (i := 20) kc_cX11_least_0 (by decide +kernel)
theorem dX11_least_21 : decode cX11_least 21 = .ok (.getfield 81, 3) := dw180 (n := 0) (i := 21) (a := 0) (b := 81) kc_cX11_least_0 (by decide +kernel) (by decide)
theorem dX11_least_24 : decode cX11_least 24 = .ok (.iload_n 3, 1) := dw29 (n := 0) (i := 24) kc_cX11_least_0 (by decide +kernel)
theorem dX11_least_25 : decode cX11_least 25 = .ok (.baload, 1) := dw51 (n := 0) (i := 25) kc_cX11_least_0 (by decide +kernel)
theorem dX11_least_26 : decode cX11_least 26 = .ok (.ifCond .eq 43, 3) := dw153 (n := 0) (i := 26) (a := 0) (b := 43) kc_cX11_least_0 (by decide +kernel) (by decide)
theorem dX11_least_69 : decode cX11_least 69 = .ok (.iload_n 1, 1) := dw27 (n := 64) (i := 5) kc_cX11_least_2 (by decide +kernel)
theorem dX11_least_70 : decode cX11_least 70 = .ok (.istore_n 1, 1) := dw60 (n := 64) (i := 6) kc_cX11_least_2 (by decide +kernel)
theorem dX11_least_71 : decode cX11_least 71 = .ok (.iinc 2 1, 3) := by decide +kernel
theorem dX11_least_74 : decode cX11_least 74 = .ok (.goto (-69), 3) := dw167 (n := 64) (i := 10) (a := 255) (b := 187) kc_cX11_least_2 (by decide +kernel) (by decide)
theorem dX11_least_29 : decode cX11_least 29 = .ok (.iload_n 1, 1) := dw27 (n := 0) (i := 29) kc_cX11_least_0 (by decide +kernel)
theorem dX11_least_30 : decode cX11_least 30 = .ok (.bipush (-9), 2) := dw16 (n := 0) (i := 30) (a := 247) kc_cX11_least_0 (by decide +kernel) (by decide)
theorem dX11_least_32 : decode cX11_least 32 = .ok (.if_icmp .eq 33, 3) := dw159 (n := 32) (i := 0) (a := 0) (b := 33) kc_cX11_least_1 (by decide +kernel) (by decide)
theorem dX11_least_65 : decode cX11_least 65 = .ok (.iload_n 3, 1) := dw29 (n := 64) (i := 1) kc_cX11_least_2 (by decide +kernel)
theorem dX11_least_66 : decode cX11_least 66 = .ok (.goto 4, 3) := dw167 (n := 64) (i := 2) (a := 0) (b := 4) kc_cX11_least_2 (by decide +kernel) (by decide)
theorem dX11_least_35 : decode cX11_least 35 = .ok (.aload_n 0, 1) := dw42 (n := 32) (i := 3) kc_cX11_least_1 (by decide +kernel)
theorem dX11_least_36 : decode cX11_least 36 = .ok (.getfield 87, 3) := dw180 (n := 32) (i := 4) (a := 0) (b := 87) kc_cX11_least_1 (by decide +kernel) (by decide)
theorem dX11_least_39 : decode cX11_least 39 = .ok (.iload_n 3, 1) := dw29 (n := 32) (i := 7) kc_cX11_least_1 (by decide +kernel)
theorem dX11_least_40 : decode cX11_least 40 = .ok (.laload, 1) := dw47 (n := 32) (i := 8) kc_cX11_least_1 (by decide +kernel)
theorem dX11_least_41 : decode cX11_least 41 = .ok (.aload_n 0, 1) := dw42 (n := 32) (i := 9) kc_cX11_least_1 (by decide +kernel)
theorem dX11_least_42 : decode cX11_least 42 = .ok (.getfield 90, 3) := dw180 (n := 32) (i := 10) (a := 0) (b := 90) kc_cX11_least_1 (by decide +kernel) (by decide)
theorem dX11_least_45 : decode cX11_least 45 = .ok (.iload_n 3, 1) := dw29 (n := 32) (i := 13) kc_cX11_least_1 (by decide +kernel)
theorem dX11_least_46 : decode cX11_least 46 = .ok (.laload, 1) := dw47 (n := 32) (i := 14) kc_cX11_least_1 (by decide +kernel)
theorem dX11_least_47 : decode cX11_least 47 = .ok (.aload_n 0, 1) := dw42 (n := 32) (i := 15) kc_cX11_least_1 (by decide +kernel)
theorem dX11_least_48 : decode cX11_least 48 = .ok (.getfield 87, 3) := dw180 (n := 32) (i := 16) (a := 0) (b := 87) kc_cX11_least_1 (by decide +kernel) (by decide)
theorem dX11_least_51 : decode cX11_least 51 = .ok (.iload_n 1, 1) := dw27 (n := 32) (i := 19) kc_cX11_least_1 (by decide +kernel)
theorem dX11_least_52 : decode cX11_least 52 = .ok (.laload, 1) := dw47 (n := 32) (i := 20) kc_cX11_least_1 (by decide +kernel)
theorem dX11_least_53 : decode cX11_least 53 = .ok (.aload_n 0, 1) := dw42 (n := 32) (i := 21) kc_cX11_least_1 (by decide +kernel)
theorem dX11_least_54 : decode cX11_least 54 = .ok (.getfield 90, 3) := dw180 (n := 32) (i := 22) (a := 0) (b := 90) kc_cX11_least_1 (by decide +kernel) (by decide)
theorem dX11_least_57 : decode cX11_least 57 = .ok (.iload_n 1, 1) := dw27 (n := 32) (i := 25) kc_cX11_least_1 (by decide +kernel)
theorem dX11_least_58 : decode cX11_least 58 = .ok (.laload, 1) := dw47 (n := 32) (i := 26) kc_cX11_least_1 (by decide +kernel)
theorem dX11_least_59 : decode cX11_least 59 = .ok (.invokestatic 227, 3) := dw184 (n := 32) (i := 27) (a := 0) (b := 227) kc_cX11_least_1 (by decide +kernel) (by decide)
set_option maxRecDepth 20000 in
theorem ggX11_least_X11_isMore : GoodIn wsX11_least wsX11_isMore := (gk_code 9 rfl (gn))
set_option maxRecDepth 20000 in
theorem gX11_least_X11_isMore : GoodIn wsX11_least (va_wsS RX11 227 yX11_isMore wsX11_isMore) := goodIn_app (gk_methodLink 6 rfl (gk_static 7 rfl (gk_initialized 8 rfl (gn)))) ggX11_least_X11_isMore
theorem dX11_least_62 : decode cX11_least 62 = .ok (.ifCond .ne 7, 3) := dw154 (n := 32) (i := 30) (a := 0) (b := 7) kc_cX11_least_1 (by decide +kernel) (by decide)
set_option maxHeartbeats 4000000 in
set_option maxRecDepth 100000 in
theorem s_X11_least (l : Launch) (D : va_G) (ad : Nat → Nat) (cs : Nat → ClassId) (M : MI) (L : ML)  (hI : IR M) (hD : DP (vR M)) : Ci l yX11_least wsX11_least ({ frames := 1, cells := 0, slots := 0, locals := 27 }) D ad cs [.ref (ad 258)] M L (fun r M1 L1 => M1 = M ∧ L1 = L ∧ ((r.toInt = -9 ∨ (0 ≤ r.toInt ∧ r.toInt < 10)) ∧ (0 ≤ r.toInt → ¬ (M 282 r.toNatClampNeg).toInt = 0) ∧ ((∃ c : Nat, (c : Int) < (vR M 0 0).toInt ∧ ¬ (M 282 c).toInt = 0) → r.toInt ≠ -9))) := by
  refine enter_i RX11 rfl [(0, .ref (ad 258))] rfl (Nat.le_of_ble_eq_true rfl) (by decide +kernel) rfl ?_
  intro p e s m below meth c C hr
  have hF : ∀ k i, True → M k i = M k i := fun _ _ _ => rfl
  have hG : ∀ k i, True → L k i = L k i := fun _ _ _ => rfl
  have w0 : (vR M 0 0).toInt = (M 258 2).toInt := rfl
  obtain ⟨ca, cb⟩ := (show rg 0 10 (M 258 2) from hI 258 2)
  refine g_bipush C (-9) dX11_least_0 (by decide) ?_
  refine g_istore_n C [(1, .int ((-9))), (0, .ref (ad 258))] dX11_least_2 (by decide) rfl ?_
  refine g_iconst C 0 dX11_least_3 (by decide) ?_
  refine g_istore_n C [(2, .int 0), (1, .int ((-9))), (0, .ref (ad 258))] dX11_least_4 (by decide) rfl ?_
  have zy1 : (0 : Int32).toInt = 0 := by decide
  have zy2 : ((-9) : Int32).toInt = (-9) := by decide
  refine g_loop (α := Int32 × Int32 × MI × ML) (fun a => (11 - a.1.toInt).toNat) (fun a => (0 ≤ a.1.toInt) ∧ (a.1.toInt ≤ (M 258 2).toInt) ∧ (a.2.1.toInt = -9 ∨ (0 ≤ a.2.1.toInt ∧ a.2.1.toInt < 10)) ∧ (0 ≤ a.2.1.toInt → ¬ (M 282 a.2.1.toNatClampNeg).toInt = 0) ∧ (∀ j : Nat, (j : Int) < a.1.toInt → ¬ (M 282 (M 260 j).toNatClampNeg).toInt = 0 → a.2.1.toInt ≠ -9) ∧ IR a.2.2.1 ∧ (∀ k i, True → a.2.2.1 k i = M k i) ∧ (∀ k i, True → a.2.2.2 k i = L k i)) (fun a => a.2.2.1) (fun a => a.2.2.2) (fun a => [(2, .int a.1), (1, .int a.2.1), (0, .ref (ad 258))]) ((0 : Int32), (-9 : Int32), M, L) ⟨by show 0 ≤ (0 : Int32).toInt; omega, by show (0 : Int32).toInt ≤ (M 258 2).toInt; omega, by show (-9 : Int32).toInt = -9 ∨ (0 ≤ (-9 : Int32).toInt ∧ (-9 : Int32).toInt < 10); omega, by show 0 ≤ (-9 : Int32).toInt → ¬ (M 282 (-9 : Int32).toNatClampNeg).toInt = 0; exact fun h => absurd h (by decide), by show ∀ j : Nat, (j : Int) < (0 : Int32).toInt → ¬ (M 282 (M 260 j).toNatClampNeg).toInt = 0 → (-9 : Int32).toInt ≠ -9; intro j hj; exact absurd hj (by show ¬ (j : Int) < 0; omega), hI, hF, hG⟩ rfl rfl rfl ?_
  rintro ⟨x2_5, x1_5, M_5, L_5⟩ ⟨j5_0, j5_1, j5_2, j5_3, j5_4, hI, hF, hG⟩ ih_5
  dsimp only at j5_0 j5_1 j5_2 j5_3 j5_4 hI hF hG ih_5 ⊢
  refine g_iload_n C 0 dX11_least_5 rfl ?_
  refine g_aload_n C 2 dX11_least_6 rfl ?_
  refine g_get C (.int (M_5 258 2)) 2 in_X11_least_11 (List.mem_of_getElem? (i := 1) rfl) (by decide) (ce_model ad cs _ _) rfl (by decide) rfl rfl dX11_least_7 ?_
  refine g_ni (fun v3 ev3 => ?_)
  have gv3 : v3 = M 258 2 := ev3.trans (hF 258 2 trivial)
  have tv3 := congrArg Int32.toInt gv3
  obtain ⟨bv3, dv3⟩ := (show rg 0 10 v3 from (by rw [ev3]; exact hI 258 2))
  refine g_icmp_ge C 77 dX11_least_10 (by decide) (fun c4 => ?_) (fun c4 => ?_)
  ·
    have f5 := fle rfl rfl c4
    refine g_iload_n C 1 dX11_least_77 rfl ?_
    exact g_iret C hr ⟨funext (fun k => funext (fun i => hF k i trivial)), funext (fun k => funext (fun i => hG k i trivial)), ⟨j5_2, j5_3, fun ⟨c, hc1, hc2⟩ => (by
      obtain ⟨i, hi1, hi2⟩ := hD c hc1
      exact j5_4 i (by omega) (by
        have e9 : (M 260 i).toNatClampNeg = c := by (have h9 : (M 260 i).toInt = (c : Int) := hi2; have := ixn (x := M 260 i) (by omega); omega)
        rw [e9]; exact hc2))⟩⟩ dX11_least_78
  ·
    have f6 := fnle rfl rfl c4
    refine g_aload_n C 2 dX11_least_13 rfl ?_
    refine g_get C (.ref (ad 260)) 3 in_X11_least_11 (List.mem_of_getElem? (i := 2) rfl) (by decide) (ce_model ad cs _ _) rfl (by decide) rfl rfl dX11_least_14 ?_
    refine g_iload_n C 0 dX11_least_17 rfl ?_
    refine g_iald C (by decide) (ce_m_draw ad cs _ _) (fin' (n := 10) rfl (by omega) (by omega)) dX11_least_18 ?_
    refine g_ni (fun v7 ev7 => ?_)
    have gv7 : v7 = M 260 x2_5.toNatClampNeg := ev7.trans (hF 260 x2_5.toNatClampNeg trivial)
    have tv7 := congrArg Int32.toInt gv7
    obtain ⟨bv7, dv7⟩ := (show rg 0 9 v7 from (by rw [ev7]; exact hI 260 x2_5.toNatClampNeg))
    refine g_istore_n C [(3, .int v7), (2, .int x2_5), (1, .int x1_5), (0, .ref (ad 258))] dX11_least_19 (by decide) rfl ?_
    refine g_aload_n C 3 dX11_least_20 rfl ?_
    refine g_get C (.ref (ad 282)) 36 in_X11_least_11 (List.mem_of_getElem? (i := 3) rfl) (by decide) (ce_model ad cs _ _) rfl (by decide) rfl rfl dX11_least_21 ?_
    refine g_iload_n C 0 dX11_least_24 rfl ?_
    refine g_zald C (by decide) (ce_m_isIn ad cs _ _) (fin' (n := 10) rfl (by omega) (by omega)) dX11_least_25 ?_
    refine g_ni (fun v8 ev8 => ?_)
    have gv8 : v8 = M 282 v7.toNatClampNeg := ev8.trans (hF 282 v7.toNatClampNeg trivial)
    have tv8 := congrArg Int32.toInt gv8
    refine g_if_eq C 69 dX11_least_26 (by decide) (fun c9 => ?_) (fun c9 => ?_)
    ·
      have f10 := feq rfl (by decide : (0 : Int32).toInt = 0) c9
      refine g_iload_n C 2 dX11_least_69 rfl ?_
      refine g_istore_n C [(1, .int x1_5), (3, .int v7), (2, .int x2_5), (0, .ref (ad 258))] dX11_least_70 (by decide) rfl ?_
      obtain ⟨v11, ev11⟩ : ∃ y : Int32, y = x2_5 + 1 := ⟨_, rfl⟩
      try have fv11 := fadd rfl (by decide : (1 : Int32).toInt = 1) ev11 (by omega) (by omega)
      refine g_iinc C 2 v11 [(2, .int v11), (1, .int x1_5), (3, .int v7), (0, .ref (ad 258))] dX11_least_71 rfl (by rw [ev11]; rfl) (by decide) rfl ?_
      refine g_goto C 5 dX11_least_74 (by decide) ?_
      refine g_lv [0, 1, 3] [(2, .int v11), (1, .int x1_5), (0, .ref (ad 258))] rfl ?_
      have n2 := ixn (x := x2_5) (by omega)
      have hst : ∀ j : Nat, (j : Int) < v11.toInt → ¬ (M 282 (M 260 j).toNatClampNeg).toInt = 0 → x1_5.toInt ≠ -9 := by
        intro j hj hin
        by_cases e9 : j = x2_5.toNatClampNeg
        · rw [e9] at hin; have e8 := congrArg Int32.toNatClampNeg gv7; rw [← e8] at hin; omega
        · have h9 := j5_4 j (by omega) hin; omega
      exact ih_5 (v11, x1_5, M_5, L_5) ⟨by show 0 ≤ v11.toInt; omega, by show v11.toInt ≤ (M 258 2).toInt; omega, by show x1_5.toInt = -9 ∨ (0 ≤ x1_5.toInt ∧ x1_5.toInt < 10); omega, by show 0 ≤ x1_5.toInt → ¬ (M 282 x1_5.toNatClampNeg).toInt = 0; first | exact j5_3 | exact fun _ => (by omega), by show ∀ j : Nat, (j : Int) < v11.toInt → ¬ (M 282 (M 260 j).toNatClampNeg).toInt = 0 → x1_5.toInt ≠ -9; exact hst, hI, hF, hG⟩ (by show (11 - v11.toInt).toNat < (11 - x2_5.toInt).toNat; omega)
    ·
      have f12 := fne rfl (by decide : (0 : Int32).toInt = 0) c9
      refine g_iload_n C 2 dX11_least_29 rfl ?_
      refine g_bipush C (-9) dX11_least_30 (by decide) ?_
      refine g_icmp_eq C 65 dX11_least_32 (by decide) (fun c13 => ?_) (fun c13 => ?_)
      ·
        have f14 := feq rfl (by decide : ((-9) : Int32).toInt = (-9)) c13
        refine g_iload_n C 0 dX11_least_65 rfl ?_
        refine g_goto C 70 dX11_least_66 (by decide) ?_
        refine g_istore_n C [(1, .int v7), (3, .int v7), (2, .int x2_5), (0, .ref (ad 258))] dX11_least_70 (by decide) rfl ?_
        obtain ⟨v15, ev15⟩ : ∃ y : Int32, y = x2_5 + 1 := ⟨_, rfl⟩
        try have fv15 := fadd rfl (by decide : (1 : Int32).toInt = 1) ev15 (by omega) (by omega)
        refine g_iinc C 2 v15 [(2, .int v15), (1, .int v7), (3, .int v7), (0, .ref (ad 258))] dX11_least_71 rfl (by rw [ev15]; rfl) (by decide) rfl ?_
        refine g_goto C 5 dX11_least_74 (by decide) ?_
        refine g_lv [0, 1, 3] [(2, .int v15), (1, .int v7), (0, .ref (ad 258))] rfl ?_
        have n2 := ixn (x := x2_5) (by omega)
        have hst : ∀ j : Nat, (j : Int) < v15.toInt → ¬ (M 282 (M 260 j).toNatClampNeg).toInt = 0 → v7.toInt ≠ -9 := by
          intro j hj hin
          by_cases e9 : j = x2_5.toNatClampNeg
          · rw [e9] at hin; have e8 := congrArg Int32.toNatClampNeg gv7; rw [← e8] at hin; omega
          · have h9 := j5_4 j (by omega) hin; omega
        exact ih_5 (v15, v7, M_5, L_5) ⟨by show 0 ≤ v15.toInt; omega, by show v15.toInt ≤ (M 258 2).toInt; omega, by show v7.toInt = -9 ∨ (0 ≤ v7.toInt ∧ v7.toInt < 10); omega, by show 0 ≤ v7.toInt → ¬ (M 282 v7.toNatClampNeg).toInt = 0; first | exact j5_3 | exact fun _ => (by omega), by show ∀ j : Nat, (j : Int) < v15.toInt → ¬ (M 282 (M 260 j).toNatClampNeg).toInt = 0 → v7.toInt ≠ -9; exact hst, hI, hF, hG⟩ (by show (11 - v15.toInt).toNat < (11 - x2_5.toInt).toNat; omega)
      ·
        have f16 := fne rfl (by decide : ((-9) : Int32).toInt = (-9)) c13
        refine g_aload_n C 3 dX11_least_35 rfl ?_
        refine g_get C (.ref (ad 284)) 38 in_X11_least_11 (List.mem_of_getElem? (i := 4) rfl) (by decide) (ce_model ad cs _ _) rfl (by decide) rfl rfl dX11_least_36 ?_
        refine g_iload_n C 0 dX11_least_39 rfl ?_
        refine g_lald C (by decide) (ce_m_ups ad cs _ _) (fin' (n := 10) rfl (by omega) (by omega)) dX11_least_40 ?_
        refine g_nl (fun v17 ev17 => ?_)
        have gv17 : v17 = L 284 v7.toNatClampNeg := ev17.trans (hG 284 _ trivial)
        have tv17 := congrArg Int64.toInt gv17
        refine g_aload_n C 3 dX11_least_41 rfl ?_
        refine g_get C (.ref (ad 285)) 39 in_X11_least_11 (List.mem_of_getElem? (i := 5) rfl) (by decide) (ce_model ad cs _ _) rfl (by decide) rfl rfl dX11_least_42 ?_
        refine g_iload_n C 0 dX11_least_45 rfl ?_
        refine g_lald C (by decide) (ce_m_downs ad cs _ _) (fin' (n := 10) rfl (by omega) (by omega)) dX11_least_46 ?_
        refine g_nl (fun v18 ev18 => ?_)
        have gv18 : v18 = L 285 v7.toNatClampNeg := ev18.trans (hG 285 _ trivial)
        have tv18 := congrArg Int64.toInt gv18
        refine g_aload_n C 3 dX11_least_47 rfl ?_
        refine g_get C (.ref (ad 284)) 38 in_X11_least_11 (List.mem_of_getElem? (i := 4) rfl) (by decide) (ce_model ad cs _ _) rfl (by decide) rfl rfl dX11_least_48 ?_
        refine g_iload_n C 2 dX11_least_51 rfl ?_
        refine g_lald C (by decide) (ce_m_ups ad cs _ _) (fin' (n := 10) rfl (by omega) (by omega)) dX11_least_52 ?_
        refine g_nl (fun v19 ev19 => ?_)
        have gv19 : v19 = L 284 x1_5.toNatClampNeg := ev19.trans (hG 284 _ trivial)
        have tv19 := congrArg Int64.toInt gv19
        refine g_aload_n C 3 dX11_least_53 rfl ?_
        refine g_get C (.ref (ad 285)) 39 in_X11_least_11 (List.mem_of_getElem? (i := 5) rfl) (by decide) (ce_model ad cs _ _) rfl (by decide) rfl rfl dX11_least_54 ?_
        refine g_iload_n C 2 dX11_least_57 rfl ?_
        refine g_lald C (by decide) (ce_m_downs ad cs _ _) (fin' (n := 10) rfl (by omega) (by omega)) dX11_least_58 ?_
        refine g_nl (fun v20 ev20 => ?_)
        have gv20 : v20 = L 285 x1_5.toNatClampNeg := ev20.trans (hG 285 _ trivial)
        have tv20 := congrArg Int64.toInt gv20
        refine g_callSi C (n := 4) (As := [.long v17, .long v18, .long v19, .long v20]) (st := []) (s_X11_isMore l D ad cs _ _ v17 v18 v19 v20 hI ) gX11_least_X11_isMore rfl rfl rfl (by decide +kernel) ⟨Nat.le_of_ble_eq_true rfl, Nat.le_of_ble_eq_true rfl⟩ rfl (Nat.le_of_ble_eq_true rfl) ⟨Nat.zero_le _, Nat.zero_le _⟩ rfl dX11_least_59 (fun r21 M22 L23 hr21 => ?_)
        obtain ⟨hq1, hq2, hr21⟩ := hr21
        obtain rfl := hq1.symm
        obtain rfl := hq2.symm
        obtain ⟨bar21, bbr21⟩ := hr21
        refine g_if_ne C 69 dX11_least_62 (by decide) (fun c24 => ?_) (fun c24 => ?_)
        ·
          have f25 := fne rfl (by decide : (0 : Int32).toInt = 0) c24
          refine g_iload_n C 2 dX11_least_69 rfl ?_
          refine g_istore_n C [(1, .int x1_5), (3, .int v7), (2, .int x2_5), (0, .ref (ad 258))] dX11_least_70 (by decide) rfl ?_
          obtain ⟨v26, ev26⟩ : ∃ y : Int32, y = x2_5 + 1 := ⟨_, rfl⟩
          try have fv26 := fadd rfl (by decide : (1 : Int32).toInt = 1) ev26 (by omega) (by omega)
          refine g_iinc C 2 v26 [(2, .int v26), (1, .int x1_5), (3, .int v7), (0, .ref (ad 258))] dX11_least_71 rfl (by rw [ev26]; rfl) (by decide) rfl ?_
          refine g_goto C 5 dX11_least_74 (by decide) ?_
          refine g_lv [0, 1, 3] [(2, .int v26), (1, .int x1_5), (0, .ref (ad 258))] rfl ?_
          have n2 := ixn (x := x2_5) (by omega)
          have hst : ∀ j : Nat, (j : Int) < v26.toInt → ¬ (M 282 (M 260 j).toNatClampNeg).toInt = 0 → x1_5.toInt ≠ -9 := by
            intro j hj hin
            by_cases e9 : j = x2_5.toNatClampNeg
            · rw [e9] at hin; have e8 := congrArg Int32.toNatClampNeg gv7; rw [← e8] at hin; omega
            · have h9 := j5_4 j (by omega) hin; omega
          exact ih_5 (v26, x1_5, M_5, L_5) ⟨by show 0 ≤ v26.toInt; omega, by show v26.toInt ≤ (M 258 2).toInt; omega, by show x1_5.toInt = -9 ∨ (0 ≤ x1_5.toInt ∧ x1_5.toInt < 10); omega, by show 0 ≤ x1_5.toInt → ¬ (M 282 x1_5.toNatClampNeg).toInt = 0; first | exact j5_3 | exact fun _ => (by omega), by show ∀ j : Nat, (j : Int) < v26.toInt → ¬ (M 282 (M 260 j).toNatClampNeg).toInt = 0 → x1_5.toInt ≠ -9; exact hst, hI, hF, hG⟩ (by show (11 - v26.toInt).toNat < (11 - x2_5.toInt).toNat; omega)
        ·
          have f27 := feq rfl (by decide : (0 : Int32).toInt = 0) c24
          refine g_iload_n C 0 dX11_least_65 rfl ?_
          refine g_goto C 70 dX11_least_66 (by decide) ?_
          refine g_istore_n C [(1, .int v7), (3, .int v7), (2, .int x2_5), (0, .ref (ad 258))] dX11_least_70 (by decide) rfl ?_
          obtain ⟨v28, ev28⟩ : ∃ y : Int32, y = x2_5 + 1 := ⟨_, rfl⟩
          try have fv28 := fadd rfl (by decide : (1 : Int32).toInt = 1) ev28 (by omega) (by omega)
          refine g_iinc C 2 v28 [(2, .int v28), (1, .int v7), (3, .int v7), (0, .ref (ad 258))] dX11_least_71 rfl (by rw [ev28]; rfl) (by decide) rfl ?_
          refine g_goto C 5 dX11_least_74 (by decide) ?_
          refine g_lv [0, 1, 3] [(2, .int v28), (1, .int v7), (0, .ref (ad 258))] rfl ?_
          have n2 := ixn (x := x2_5) (by omega)
          have hst : ∀ j : Nat, (j : Int) < v28.toInt → ¬ (M 282 (M 260 j).toNatClampNeg).toInt = 0 → v7.toInt ≠ -9 := by
            intro j hj hin
            by_cases e9 : j = x2_5.toNatClampNeg
            · rw [e9] at hin; have e8 := congrArg Int32.toNatClampNeg gv7; rw [← e8] at hin; omega
            · have h9 := j5_4 j (by omega) hin; omega
          exact ih_5 (v28, v7, M_5, L_5) ⟨by show 0 ≤ v28.toInt; omega, by show v28.toInt ≤ (M 258 2).toInt; omega, by show v7.toInt = -9 ∨ (0 ≤ v7.toInt ∧ v7.toInt < 10); omega, by show 0 ≤ v7.toInt → ¬ (M 282 v7.toNatClampNeg).toInt = 0; first | exact j5_3 | exact fun _ => (by omega), by show ∀ j : Nat, (j : Int) < v28.toInt → ¬ (M 282 (M 260 j).toNatClampNeg).toInt = 0 → v7.toInt ≠ -9; exact hst, hI, hF, hG⟩ (by show (11 - v28.toInt).toNat < (11 - x2_5.toInt).toNat; omega)
theorem dX11_inMany_0 : decode cX11_inMany 0 = .ok (.iconst 0, 1) := dw3 (n := 0) (i := 0) kc_cX11_inMany_0 (by decide +kernel)
theorem dX11_inMany_1 : decode cX11_inMany 1 = .ok (.istore_n 1, 1) := dw60 (n := 0) (i := 1) kc_cX11_inMany_0 (by decide +kernel)
theorem dX11_inMany_2 : decode cX11_inMany 2 = .ok (.iconst 0, 1) := dw3 (n := 0) (i := 2) kc_cX11_inMany_0 (by decide +kernel)
theorem dX11_inMany_3 : decode cX11_inMany 3 = .ok (.istore_n 2, 1) := dw61 (n := 0) (i := 3) kc_cX11_inMany_0 (by decide +kernel)
theorem dX11_inMany_4 : decode cX11_inMany 4 = .ok (.iload_n 2, 1) := dw28 (n := 0) (i := 4) kc_cX11_inMany_0 (by decide +kernel)
theorem dX11_inMany_5 : decode cX11_inMany 5 = .ok (.aload_n 0, 1) := dw42 (n := 0) (i := 5) kc_cX11_inMany_0 (by decide +kernel)
theorem dX11_inMany_6 : decode cX11_inMany 6 = .ok (.getfield 137, 3) := dw180 (n := 0) (i := 6) (a := 0) (b := 137) kc_cX11_inMany_0 (by decide +kernel) (by decide)
theorem in_X11_inMany_11 : ∀ w ∈ u_ws RX11 TX11 53, w ∈ wsX11_inMany := fun _ h => List.mem_cons_of_mem _ (List.mem_append_right _ h)
theorem dX11_inMany_9 : decode cX11_inMany 9 = .ok (.if_icmp .ge 26, 3) := dw162 (n := 0) (i := 9) (a := 0) (b := 26) kc_cX11_inMany_0 (by decide +kernel) (by decide)
theorem dX11_inMany_35 : decode cX11_inMany 35 = .ok (.iload_n 1, 1) := dw27 (n := 32) (i := 3) kc_cX11_inMany_1 (by decide +kernel)
theorem dX11_inMany_36 : decode cX11_inMany 36 = .ok (.ireturn, 1) := dw172 (n := 32) (i := 4) kc_cX11_inMany_1 (by decide +kernel)
theorem dX11_inMany_12 : decode cX11_inMany 12 = .ok (.iload_n 1, 1) := dw27 (n := 0) (i := 12) kc_cX11_inMany_0 (by decide +kernel)
theorem dX11_inMany_13 : decode cX11_inMany 13 = .ok (.aload_n 0, 1) := dw42 (n := 0) (i := 13) kc_cX11_inMany_0 (by decide +kernel)
theorem dX11_inMany_14 : decode cX11_inMany 14 = .ok (.getfield 81, 3) := dw180 (n := 0) (i := 14) (a := 0) (b := 81) kc_cX11_inMany_0 (by decide +kernel) (by decide)
theorem dX11_inMany_17 : decode cX11_inMany 17 = .ok (.iload_n 2, 1) := dw28 (n := 0) (i := 17) kc_cX11_inMany_0 (by decide +kernel)
theorem dX11_inMany_18 : decode cX11_inMany 18 = .ok (.baload, 1) := dw51 (n := 0) (i := 18) kc_cX11_inMany_0 (by decide +kernel)
theorem dX11_inMany_19 : decode cX11_inMany 19 = .ok (.ifCond .eq 7, 3) := dw153 (n := 0) (i := 19) (a := 0) (b := 7) kc_cX11_inMany_0 (by decide +kernel) (by decide)
theorem dX11_inMany_26 : decode cX11_inMany 26 = .ok (.iconst 0, 1) := dw3 (n := 0) (i := 26) kc_cX11_inMany_0 (by decide +kernel)
theorem dX11_inMany_27 : decode cX11_inMany 27 = .ok (.iadd, 1) := dw96 (n := 0) (i := 27) kc_cX11_inMany_0 (by decide +kernel)
theorem dX11_inMany_28 : decode cX11_inMany 28 = .ok (.istore_n 1, 1) := dw60 (n := 0) (i := 28) kc_cX11_inMany_0 (by decide +kernel)
theorem dX11_inMany_29 : decode cX11_inMany 29 = .ok (.iinc 2 1, 3) := by decide +kernel
theorem dX11_inMany_32 : decode cX11_inMany 32 = .ok (.goto (-28), 3) := dw167 (n := 32) (i := 0) (a := 255) (b := 228) kc_cX11_inMany_1 (by decide +kernel) (by decide)
theorem dX11_inMany_22 : decode cX11_inMany 22 = .ok (.iconst 1, 1) := dw4 (n := 0) (i := 22) kc_cX11_inMany_0 (by decide +kernel)
theorem dX11_inMany_23 : decode cX11_inMany 23 = .ok (.goto 4, 3) := dw167 (n := 0) (i := 23) (a := 0) (b := 4) kc_cX11_inMany_0 (by decide +kernel) (by decide)
set_option maxHeartbeats 4000000 in
set_option maxRecDepth 100000 in
theorem s_X11_inMany (l : Launch) (D : va_G) (ad : Nat → Nat) (cs : Nat → ClassId) (M : MI) (L : ML)  (hI : IR M) : Ci l yX11_inMany wsX11_inMany ({ frames := 0, cells := 0, slots := 0, locals := 0 }) D ad cs [.ref (ad 258)] M L (fun r M1 L1 => M1 = M ∧ L1 = L ∧ (r.toInt = (cI (M 282) (M 258 2).toNatClampNeg : Int))) := by
  refine enter_i RX11 rfl [(0, .ref (ad 258))] rfl (Nat.le_of_ble_eq_true rfl) (by decide +kernel) rfl ?_
  intro p e s m below meth c C hr
  have hF : ∀ k i, True → M k i = M k i := fun _ _ _ => rfl
  have hG : ∀ k i, True → L k i = L k i := fun _ _ _ => rfl
  obtain ⟨ca, cb⟩ := (show rg 0 10 (M 258 2) from hI 258 2)
  have n02 := ixn ca
  refine g_iconst C 0 dX11_inMany_0 (by decide) ?_
  refine g_istore_n C [(1, .int 0), (0, .ref (ad 258))] dX11_inMany_1 (by decide) rfl ?_
  refine g_iconst C 0 dX11_inMany_2 (by decide) ?_
  refine g_istore_n C [(2, .int 0), (1, .int 0), (0, .ref (ad 258))] dX11_inMany_3 (by decide) rfl ?_
  have zy1 : (0 : Int32).toInt = 0 := by decide
  have zy2 : (0 : Int32).toInt = 0 := by decide
  refine g_loop (α := Int32 × Int32 × MI × ML) (fun a => (11 - a.1.toInt).toNat) (fun a => (0 ≤ a.1.toInt) ∧ (a.1.toInt ≤ (M 258 2).toInt) ∧ (a.2.1.toInt = (cI (M 282) a.1.toNatClampNeg : Int)) ∧ IR a.2.2.1 ∧ (∀ k i, True → a.2.2.1 k i = M k i) ∧ (∀ k i, True → a.2.2.2 k i = L k i)) (fun a => a.2.2.1) (fun a => a.2.2.2) (fun a => [(2, .int a.1), (1, .int a.2.1), (0, .ref (ad 258))]) ((0 : Int32), (0 : Int32), M, L) ⟨by show 0 ≤ (0 : Int32).toInt; omega, by show (0 : Int32).toInt ≤ (M 258 2).toInt; omega, by show (0 : Int32).toInt = (cI (M 282) (0 : Int32).toNatClampNeg : Int); rfl, hI, hF, hG⟩ rfl rfl rfl ?_
  rintro ⟨x2_4, x1_4, M_4, L_4⟩ ⟨j4_0, j4_1, j4_2, hI, hF, hG⟩ ih_4
  dsimp only at j4_0 j4_1 j4_2 hI hF hG ih_4 ⊢
  have hle := cI_le (M 282) x2_4.toNatClampNeg
  have n2 := ixn (x := x2_4) (by omega)
  refine g_iload_n C 0 dX11_inMany_4 rfl ?_
  refine g_aload_n C 2 dX11_inMany_5 rfl ?_
  refine g_get C (.int (M_4 258 2)) 2 in_X11_inMany_11 (List.mem_of_getElem? (i := 1) rfl) (by decide) (ce_model ad cs _ _) rfl (by decide) rfl rfl dX11_inMany_6 ?_
  refine g_ni (fun v3 ev3 => ?_)
  have gv3 : v3 = M 258 2 := ev3.trans (hF 258 2 trivial)
  have tv3 := congrArg Int32.toInt gv3
  obtain ⟨bv3, dv3⟩ := (show rg 0 10 v3 from (by rw [ev3]; exact hI 258 2))
  refine g_icmp_ge C 35 dX11_inMany_9 (by decide) (fun c4 => ?_) (fun c4 => ?_)
  ·
    have f5 := fle rfl rfl c4
    refine g_iload_n C 1 dX11_inMany_35 rfl ?_
    exact g_iret C hr ⟨funext (fun k => funext (fun i => hF k i trivial)), funext (fun k => funext (fun i => hG k i trivial)), (by rw [j4_2, show x2_4.toNatClampNeg = (M 258 2).toNatClampNeg by omega])⟩ dX11_inMany_36
  ·
    have f6 := fnle rfl rfl c4
    refine g_iload_n C 1 dX11_inMany_12 rfl ?_
    refine g_aload_n C 2 dX11_inMany_13 rfl ?_
    refine g_get C (.ref (ad 282)) 36 in_X11_inMany_11 (List.mem_of_getElem? (i := 2) rfl) (by decide) (ce_model ad cs _ _) rfl (by decide) rfl rfl dX11_inMany_14 ?_
    refine g_iload_n C 0 dX11_inMany_17 rfl ?_
    refine g_zald C (by decide) (ce_m_isIn ad cs _ _) (fin' (n := 10) rfl (by omega) (by omega)) dX11_inMany_18 ?_
    refine g_ni (fun v7 ev7 => ?_)
    have gv7 : v7 = M 282 x2_4.toNatClampNeg := ev7.trans (hF 282 x2_4.toNatClampNeg trivial)
    have tv7 := congrArg Int32.toInt gv7
    refine g_if_eq C 26 dX11_inMany_19 (by decide) (fun c8 => ?_) (fun c8 => ?_)
    ·
      have f9 := feq rfl (by decide : (0 : Int32).toInt = 0) c8
      refine g_iconst C 0 dX11_inMany_26 (by decide) ?_
      refine g_iadd C dX11_inMany_27 ?_
      refine g_ni (fun v10 ev10 => ?_)
      try have fv10 := fadd rfl (by decide : (0 : Int32).toInt = 0) ev10 (by omega) (by omega)
      refine g_istore_n C [(1, .int v10), (2, .int x2_4), (0, .ref (ad 258))] dX11_inMany_28 (by decide) rfl ?_
      obtain ⟨v11, ev11⟩ : ∃ y : Int32, y = x2_4 + 1 := ⟨_, rfl⟩
      try have fv11 := fadd rfl (by decide : (1 : Int32).toInt = 1) ev11 (by omega) (by omega)
      refine g_iinc C 1 v11 [(2, .int v11), (1, .int v10), (0, .ref (ad 258))] dX11_inMany_29 rfl (by rw [ev11]; rfl) (by decide) rfl ?_
      refine g_goto C 4 dX11_inMany_32 (by decide) ?_
      have n2 := ixn (x := x2_4) (by omega)
      have nv := ixn (x := v11) (by omega)
      have iv : v11.toNatClampNeg = x2_4.toNatClampNeg + 1 := by omega
      exact ih_4 (v11, v10, M_4, L_4) ⟨by show 0 ≤ v11.toInt; omega, by show v11.toInt ≤ (M 258 2).toInt; omega, by show v10.toInt = (cI (M 282) v11.toNatClampNeg : Int); rw [iv]; show _ = ((cI (M 282) x2_4.toNatClampNeg + (if (M 282 x2_4.toNatClampNeg).toInt = 0 then 0 else 1) : Nat) : Int); first | (rw [if_pos (by omega)]; omega) | (rw [if_neg (by omega)]; omega), hI, hF, hG⟩ (by show (11 - v11.toInt).toNat < (11 - x2_4.toInt).toNat; omega)
    ·
      have f12 := fne rfl (by decide : (0 : Int32).toInt = 0) c8
      refine g_iconst C 1 dX11_inMany_22 (by decide) ?_
      refine g_goto C 27 dX11_inMany_23 (by decide) ?_
      refine g_iadd C dX11_inMany_27 ?_
      refine g_ni (fun v13 ev13 => ?_)
      try have fv13 := fadd rfl (by decide : (1 : Int32).toInt = 1) ev13 (by omega) (by omega)
      refine g_istore_n C [(1, .int v13), (2, .int x2_4), (0, .ref (ad 258))] dX11_inMany_28 (by decide) rfl ?_
      obtain ⟨v14, ev14⟩ : ∃ y : Int32, y = x2_4 + 1 := ⟨_, rfl⟩
      try have fv14 := fadd rfl (by decide : (1 : Int32).toInt = 1) ev14 (by omega) (by omega)
      refine g_iinc C 1 v14 [(2, .int v14), (1, .int v13), (0, .ref (ad 258))] dX11_inMany_29 rfl (by rw [ev14]; rfl) (by decide) rfl ?_
      refine g_goto C 4 dX11_inMany_32 (by decide) ?_
      have n2 := ixn (x := x2_4) (by omega)
      have nv := ixn (x := v14) (by omega)
      have iv : v14.toNatClampNeg = x2_4.toNatClampNeg + 1 := by omega
      exact ih_4 (v14, v13, M_4, L_4) ⟨by show 0 ≤ v14.toInt; omega, by show v14.toInt ≤ (M 258 2).toInt; omega, by show v13.toInt = (cI (M 282) v14.toNatClampNeg : Int); rw [iv]; show _ = ((cI (M 282) x2_4.toNatClampNeg + (if (M 282 x2_4.toNatClampNeg).toInt = 0 then 0 else 1) : Nat) : Int); first | (rw [if_pos (by omega)]; omega) | (rw [if_neg (by omega)]; omega), hI, hF, hG⟩ (by show (11 - v14.toInt).toNat < (11 - x2_4.toInt).toNat; omega)
