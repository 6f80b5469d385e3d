theorem dX11_isCandidate_0 : decode cX11_isCandidate 0 = .ok (.iload_n 1, 1) := dw27 (n := 0) (i := 0) kc_cX11_isCandidate_0 (by decide +kernel)
theorem dX11_isCandidate_1 : decode cX11_isCandidate 1 = .ok (.iconst 0, 1) := dw3 (n := 0) (i := 1) kc_cX11_isCandidate_0 (by decide +kernel)
theorem dX11_isCandidate_2 : decode cX11_isCandidate 2 = .ok (.aload_n 0, 1) := dw42 (n := 0) (i := 2) kc_cX11_isCandidate_0 (by decide +kernel)
theorem dX11_isCandidate_3 : decode cX11_isCandidate 3 = .ok (.getfield 137, 3) := dw180 (n := 0) (i := 3) (a := 0) (b := 137) kc_cX11_isCandidate_0 (by decide +kernel) (by decide)
theorem in_X11_isCandidate_11 : ∀ w ∈ u_ws RX11 TX11 53, w ∈ wsX11_isCandidate := fun _ h => List.mem_cons_of_mem _ (List.mem_append_right _ h)
theorem dX11_isCandidate_6 : decode cX11_isCandidate 6 = .ok (.iconst 1, 1) := dw4 (n := 0) (i := 6) kc_cX11_isCandidate_0 (by decide +kernel)
theorem dX11_isCandidate_7 : decode cX11_isCandidate 7 = .ok (.isub, 1) := dw100 (n := 0) (i := 7) kc_cX11_isCandidate_0 (by decide +kernel)
theorem dX11_isCandidate_8 : decode cX11_isCandidate 8 = .ok (.invokestatic 133, 3) := dw184 (n := 0) (i := 8) (a := 0) (b := 133) kc_cX11_isCandidate_0 (by decide +kernel) (by decide)
set_option maxRecDepth 20000 in
theorem ggX11_isCandidate_X11_in : GoodIn wsX11_isCandidate wsX11_in := (gk_code 5 rfl (gn))
set_option maxRecDepth 20000 in
theorem gX11_isCandidate_X11_in : GoodIn wsX11_isCandidate (va_wsS RX11 133 yX11_in wsX11_in) := goodIn_app (gk_methodLink 2 rfl (gk_static 3 rfl (gk_initialized 4 rfl (gn)))) ggX11_isCandidate_X11_in
theorem dX11_isCandidate_11 : decode cX11_isCandidate 11 = .ok (.ireturn, 1) := dw172 (n := 0) (i := 11) kc_cX11_isCandidate_0 (by decide +kernel)
set_option maxHeartbeats 4000000 in
set_option maxRecDepth 100000 in
theorem s_X11_isCandidate (l : Launch) (D : va_G) (ad : Nat → Nat) (cs : Nat → ClassId) (M : MI) (L : ML) (x : Int32) (hI : IR M) : Ci l yX11_isCandidate wsX11_isCandidate ({ frames := 1, cells := 0, slots := 0, locals := 22 }) D ad cs [.ref (ad 258), .int x] M L (fun r M1 L1 => M1 = M ∧ L1 = L ∧ (zo r (hasC (vR M) x))) := by
  refine enter_i RX11 rfl [(0, .ref (ad 258)), (1, .int x)] rfl (Nat.le_of_ble_eq_true rfl) (by decide +kernel) rfl ?_
  intro p e s m below meth c C hr
  have hF : ∀ k i, True → M k i = M k i := fun _ _ _ => rfl
  have hG : ∀ k i, True → L k i = L k i := fun _ _ _ => rfl
  have w0 : (vR M 0 0).toInt = (M 258 2).toInt := rfl
  have w1 : (vR M 0 1).toInt = (M 258 4).toInt := rfl
  have w2 : (vR M 0 2).toInt = (M 258 9).toInt := rfl
  have w3 : (vR M 0 3).toInt = (M 258 14).toInt := rfl
  obtain ⟨y0a, y0b⟩ := (show rg 0 10 (M 258 2) from hI 258 2)
  obtain ⟨y1a, y1b⟩ := (show rg 0 60 (M 258 4) from hI 258 4)
  obtain ⟨y2a, y2b⟩ := (show rg 0 8 (M 258 9) from hI 258 9)
  obtain ⟨y3a, y3b⟩ := (show rg 0 20 (M 258 14) from hI 258 14)
  refine g_iload_n C 1 dX11_isCandidate_0 rfl ?_
  refine g_iconst C 0 dX11_isCandidate_1 (by decide) ?_
  refine g_aload_n C 0 dX11_isCandidate_2 rfl ?_
  refine g_get C (.int (M 258 2)) 2 in_X11_isCandidate_11 (List.mem_of_getElem? (i := 1) rfl) (by decide) (ce_model ad cs _ _) rfl (by decide) rfl rfl dX11_isCandidate_3 ?_
  refine g_ni (fun v1 ev1 => ?_)
  have gv1 : v1 = vR M 0 0 := ev1
  have tv1 := congrArg Int32.toInt gv1
  obtain ⟨bv1, dv1⟩ := (show rg 0 10 v1 from (by rw [ev1]; exact hI 258 2))
  refine g_iconst C 1 dX11_isCandidate_6 (by decide) ?_
  refine g_isub C dX11_isCandidate_7 ?_
  refine g_ni (fun v2 ev2 => ?_)
  try have fv2 := fsub rfl (by decide : (1 : Int32).toInt = 1) ev2 (by omega) (by omega)
  refine g_callSi C (n := 3) (As := [.int x, .int 0, .int v2]) (st := []) (c_X11_in l D ad cs _ _ x 0 v2 ) gX11_isCandidate_X11_in rfl rfl rfl (by decide +kernel) ⟨Nat.le_of_ble_eq_true rfl, Nat.le_of_ble_eq_true rfl⟩ rfl (Nat.le_of_ble_eq_true rfl) ⟨Nat.zero_le _, Nat.zero_le _⟩ rfl dX11_isCandidate_8 (fun r3 M4 L5 hr3 => ?_)
  obtain ⟨hq1, hq2, hr3⟩ := hr3
  obtain rfl := hq1.symm
  obtain rfl := hq2.symm
  have hr3 := zo_in hr3 (by decide : (0 : Int32).toInt = 0) rfl
  obtain ⟨bar3, bbr3⟩ := zo_b hr3
  have hz9 := z_of (r := r3) (by omega) (by omega)
  exact g_zret C hr (by rcases hz9 with h9 | h9 <;> rw [h9] <;> rfl) ⟨rfl, rfl, zo_i hr3 (by omega)⟩ dX11_isCandidate_11
theorem dX11_isBallot_0 : decode cX11_isBallot 0 = .ok (.iload_n 1, 1) := dw27 (n := 0) (i := 0) kc_cX11_isBallot_0 (by decide +kernel)
theorem dX11_isBallot_1 : decode cX11_isBallot 1 = .ok (.iconst 0, 1) := dw3 (n := 0) (i := 1) kc_cX11_isBallot_0 (by decide +kernel)
theorem dX11_isBallot_2 : decode cX11_isBallot 2 = .ok (.aload_n 0, 1) := dw42 (n := 0) (i := 2) kc_cX11_isBallot_0 (by decide +kernel)
theorem dX11_isBallot_3 : decode cX11_isBallot 3 = .ok (.getfield 144, 3) := dw180 (n := 0) (i := 3) (a := 0) (b := 144) kc_cX11_isBallot_0 (by decide +kernel) (by decide)
theorem in_X11_isBallot_11 : ∀ w ∈ u_ws RX11 TX11 53, w ∈ wsX11_isBallot := fun _ h => List.mem_cons_of_mem _ (List.mem_append_right _ h)
theorem dX11_isBallot_6 : decode cX11_isBallot 6 = .ok (.iconst 1, 1) := dw4 (n := 0) (i := 6) kc_cX11_isBallot_0 (by decide +kernel)
theorem dX11_isBallot_7 : decode cX11_isBallot 7 = .ok (.isub, 1) := dw100 (n := 0) (i := 7) kc_cX11_isBallot_0 (by decide +kernel)
theorem dX11_isBallot_8 : decode cX11_isBallot 8 = .ok (.invokestatic 133, 3) := dw184 (n := 0) (i := 8) (a := 0) (b := 133) kc_cX11_isBallot_0 (by decide +kernel) (by decide)
set_option maxRecDepth 20000 in
theorem ggX11_isBallot_X11_in : GoodIn wsX11_isBallot wsX11_in := (gk_code 5 rfl (gn))
set_option maxRecDepth 20000 in
theorem gX11_isBallot_X11_in : GoodIn wsX11_isBallot (va_wsS RX11 133 yX11_in wsX11_in) := goodIn_app (gk_methodLink 2 rfl (gk_static 3 rfl (gk_initialized 4 rfl (gn)))) ggX11_isBallot_X11_in
theorem dX11_isBallot_11 : decode cX11_isBallot 11 = .ok (.ireturn, 1) := dw172 (n := 0) (i := 11) kc_cX11_isBallot_0 (by decide +kernel)
set_option maxHeartbeats 4000000 in
set_option maxRecDepth 100000 in
theorem s_X11_isBallot (l : Launch) (D : va_G) (ad : Nat → Nat) (cs : Nat → ClassId) (M : MI) (L : ML) (x : Int32) (hI : IR M) : Ci l yX11_isBallot wsX11_isBallot ({ frames := 1, cells := 0, slots := 0, locals := 22 }) D ad cs [.ref (ad 258), .int x] M L (fun r M1 L1 => M1 = M ∧ L1 = L ∧ (zo r (hasB (vR M) x))) := by
  refine enter_i RX11 rfl [(0, .ref (ad 258)), (1, .int x)] rfl (Nat.le_of_ble_eq_true rfl) (by decide +kernel) rfl ?_
  intro p e s m below meth c C hr
  have hF : ∀ k i, True → M k i = M k i := fun _ _ _ => rfl
  have hG : ∀ k i, True → L k i = L k i := fun _ _ _ => rfl
  have w0 : (vR M 0 0).toInt = (M 258 2).toInt := rfl
  have w1 : (vR M 0 1).toInt = (M 258 4).toInt := rfl
  have w2 : (vR M 0 2).toInt = (M 258 9).toInt := rfl
  have w3 : (vR M 0 3).toInt = (M 258 14).toInt := rfl
  obtain ⟨y0a, y0b⟩ := (show rg 0 10 (M 258 2) from hI 258 2)
  obtain ⟨y1a, y1b⟩ := (show rg 0 60 (M 258 4) from hI 258 4)
  obtain ⟨y2a, y2b⟩ := (show rg 0 8 (M 258 9) from hI 258 9)
  obtain ⟨y3a, y3b⟩ := (show rg 0 20 (M 258 14) from hI 258 14)
  refine g_iload_n C 1 dX11_isBallot_0 rfl ?_
  refine g_iconst C 0 dX11_isBallot_1 (by decide) ?_
  refine g_aload_n C 0 dX11_isBallot_2 rfl ?_
  refine g_get C (.int (M 258 4)) 4 in_X11_isBallot_11 (List.mem_of_getElem? (i := 1) rfl) (by decide) (ce_model ad cs _ _) rfl (by decide) rfl rfl dX11_isBallot_3 ?_
  refine g_ni (fun v1 ev1 => ?_)
  have gv1 : v1 = vR M 0 1 := ev1
  have tv1 := congrArg Int32.toInt gv1
  obtain ⟨bv1, dv1⟩ := (show rg 0 60 v1 from (by rw [ev1]; exact hI 258 4))
  refine g_iconst C 1 dX11_isBallot_6 (by decide) ?_
  refine g_isub C dX11_isBallot_7 ?_
  refine g_ni (fun v2 ev2 => ?_)
  try have fv2 := fsub rfl (by decide : (1 : Int32).toInt = 1) ev2 (by omega) (by omega)
  refine g_callSi C (n := 3) (As := [.int x, .int 0, .int v2]) (st := []) (c_X11_in l D ad cs _ _ x 0 v2 ) gX11_isBallot_X11_in rfl rfl rfl (by decide +kernel) ⟨Nat.le_of_ble_eq_true rfl, Nat.le_of_ble_eq_true rfl⟩ rfl (Nat.le_of_ble_eq_true rfl) ⟨Nat.zero_le _, Nat.zero_le _⟩ rfl dX11_isBallot_8 (fun r3 M4 L5 hr3 => ?_)
  obtain ⟨hq1, hq2, hr3⟩ := hr3
  obtain rfl := hq1.symm
  obtain rfl := hq2.symm
  have hr3 := zo_in hr3 (by decide : (0 : Int32).toInt = 0) rfl
  obtain ⟨bar3, bbr3⟩ := zo_b hr3
  have hz9 := z_of (r := r3) (by omega) (by omega)
  exact g_zret C hr (by rcases hz9 with h9 | h9 <;> rw [h9] <;> rfl) ⟨rfl, rfl, zo_i hr3 (by omega)⟩ dX11_isBallot_11
theorem dX11_isBox_0 : decode cX11_isBox 0 = .ok (.iload_n 1, 1) := dw27 (n := 0) (i := 0) kc_cX11_isBox_0 (by decide +kernel)
theorem dX11_isBox_1 : decode cX11_isBox 1 = .ok (.iconst 0, 1) := dw3 (n := 0) (i := 1) kc_cX11_isBox_0 (by decide +kernel)
theorem dX11_isBox_2 : decode cX11_isBox 2 = .ok (.aload_n 0, 1) := dw42 (n := 0) (i := 2) kc_cX11_isBox_0 (by decide +kernel)
theorem dX11_isBox_3 : decode cX11_isBox 3 = .ok (.getfield 163, 3) := dw180 (n := 0) (i := 3) (a := 0) (b := 163) kc_cX11_isBox_0 (by decide +kernel) (by decide)
theorem in_X11_isBox_11 : ∀ w ∈ u_ws RX11 TX11 53, w ∈ wsX11_isBox := fun _ h => List.mem_cons_of_mem _ (List.mem_append_right _ h)
theorem dX11_isBox_6 : decode cX11_isBox 6 = .ok (.iconst 1, 1) := dw4 (n := 0) (i := 6) kc_cX11_isBox_0 (by decide +kernel)
theorem dX11_isBox_7 : decode cX11_isBox 7 = .ok (.isub, 1) := dw100 (n := 0) (i := 7) kc_cX11_isBox_0 (by decide +kernel)
theorem dX11_isBox_8 : decode cX11_isBox 8 = .ok (.invokestatic 133, 3) := dw184 (n := 0) (i := 8) (a := 0) (b := 133) kc_cX11_isBox_0 (by decide +kernel) (by decide)
set_option maxRecDepth 20000 in
theorem ggX11_isBox_X11_in : GoodIn wsX11_isBox wsX11_in := (gk_code 5 rfl (gn))
set_option maxRecDepth 20000 in
theorem gX11_isBox_X11_in : GoodIn wsX11_isBox (va_wsS RX11 133 yX11_in wsX11_in) := goodIn_app (gk_methodLink 2 rfl (gk_static 3 rfl (gk_initialized 4 rfl (gn)))) ggX11_isBox_X11_in
theorem dX11_isBox_11 : decode cX11_isBox 11 = .ok (.ireturn, 1) := dw172 (n := 0) (i := 11) kc_cX11_isBox_0 (by decide +kernel)
set_option maxHeartbeats 4000000 in
set_option maxRecDepth 100000 in
theorem s_X11_isBox (l : Launch) (D : va_G) (ad : Nat → Nat) (cs : Nat → ClassId) (M : MI) (L : ML) (x : Int32) (hI : IR M) : Ci l yX11_isBox wsX11_isBox ({ frames := 1, cells := 0, slots := 0, locals := 22 }) D ad cs [.ref (ad 258), .int x] M L (fun r M1 L1 => M1 = M ∧ L1 = L ∧ (zo r (hasX (vR M) x))) := by
  refine enter_i RX11 rfl [(0, .ref (ad 258)), (1, .int x)] rfl (Nat.le_of_ble_eq_true rfl) (by decide +kernel) rfl ?_
  intro p e s m below meth c C hr
  have hF : ∀ k i, True → M k i = M k i := fun _ _ _ => rfl
  have hG : ∀ k i, True → L k i = L k i := fun _ _ _ => rfl
  have w0 : (vR M 0 0).toInt = (M 258 2).toInt := rfl
  have w1 : (vR M 0 1).toInt = (M 258 4).toInt := rfl
  have w2 : (vR M 0 2).toInt = (M 258 9).toInt := rfl
  have w3 : (vR M 0 3).toInt = (M 258 14).toInt := rfl
  obtain ⟨y0a, y0b⟩ := (show rg 0 10 (M 258 2) from hI 258 2)
  obtain ⟨y1a, y1b⟩ := (show rg 0 60 (M 258 4) from hI 258 4)
  obtain ⟨y2a, y2b⟩ := (show rg 0 8 (M 258 9) from hI 258 9)
  obtain ⟨y3a, y3b⟩ := (show rg 0 20 (M 258 14) from hI 258 14)
  refine g_iload_n C 1 dX11_isBox_0 rfl ?_
  refine g_iconst C 0 dX11_isBox_1 (by decide) ?_
  refine g_aload_n C 0 dX11_isBox_2 rfl ?_
  refine g_get C (.int (M 258 9)) 9 in_X11_isBox_11 (List.mem_of_getElem? (i := 1) rfl) (by decide) (ce_model ad cs _ _) rfl (by decide) rfl rfl dX11_isBox_3 ?_
  refine g_ni (fun v1 ev1 => ?_)
  have gv1 : v1 = vR M 0 2 := ev1
  have tv1 := congrArg Int32.toInt gv1
  obtain ⟨bv1, dv1⟩ := (show rg 0 8 v1 from (by rw [ev1]; exact hI 258 9))
  refine g_iconst C 1 dX11_isBox_6 (by decide) ?_
  refine g_isub C dX11_isBox_7 ?_
  refine g_ni (fun v2 ev2 => ?_)
  try have fv2 := fsub rfl (by decide : (1 : Int32).toInt = 1) ev2 (by omega) (by omega)
  refine g_callSi C (n := 3) (As := [.int x, .int 0, .int v2]) (st := []) (c_X11_in l D ad cs _ _ x 0 v2 ) gX11_isBox_X11_in rfl rfl rfl (by decide +kernel) ⟨Nat.le_of_ble_eq_true rfl, Nat.le_of_ble_eq_true rfl⟩ rfl (Nat.le_of_ble_eq_true rfl) ⟨Nat.zero_le _, Nat.zero_le _⟩ rfl dX11_isBox_8 (fun r3 M4 L5 hr3 => ?_)
  obtain ⟨hq1, hq2, hr3⟩ := hr3
  obtain rfl := hq1.symm
  obtain rfl := hq2.symm
  have hr3 := zo_in hr3 (by decide : (0 : Int32).toInt = 0) rfl
  obtain ⟨bar3, bbr3⟩ := zo_b hr3
  have hz9 := z_of (r := r3) (by omega) (by omega)
  exact g_zret C hr (by rcases hz9 with h9 | h9 <;> rw [h9] <;> rfl) ⟨rfl, rfl, zo_i hr3 (by omega)⟩ dX11_isBox_11
theorem dX11_isMethod_0 : decode cX11_isMethod 0 = .ok (.iload_n 1, 1) := dw27 (n := 0) (i := 0) kc_cX11_isMethod_0 (by decide +kernel)
theorem dX11_isMethod_1 : decode cX11_isMethod 1 = .ok (.iconst 0, 1) := dw3 (n := 0) (i := 1) kc_cX11_isMethod_0 (by decide +kernel)
theorem dX11_isMethod_2 : decode cX11_isMethod 2 = .ok (.aload_n 0, 1) := dw42 (n := 0) (i := 2) kc_cX11_isMethod_0 (by decide +kernel)
theorem dX11_isMethod_3 : decode cX11_isMethod 3 = .ok (.getfield 175, 3) := dw180 (n := 0) (i := 3) (a := 0) (b := 175) kc_cX11_isMethod_0 (by decide +kernel) (by decide)
theorem in_X11_isMethod_11 : ∀ w ∈ u_ws RX11 TX11 53, w ∈ wsX11_isMethod := fun _ h => List.mem_cons_of_mem _ (List.mem_append_right _ h)
theorem dX11_isMethod_6 : decode cX11_isMethod 6 = .ok (.iconst 1, 1) := dw4 (n := 0) (i := 6) kc_cX11_isMethod_0 (by decide +kernel)
theorem dX11_isMethod_7 : decode cX11_isMethod 7 = .ok (.isub, 1) := dw100 (n := 0) (i := 7) kc_cX11_isMethod_0 (by decide +kernel)
theorem dX11_isMethod_8 : decode cX11_isMethod 8 = .ok (.invokestatic 133, 3) := dw184 (n := 0) (i := 8) (a := 0) (b := 133) kc_cX11_isMethod_0 (by decide +kernel) (by decide)
set_option maxRecDepth 20000 in
theorem ggX11_isMethod_X11_in : GoodIn wsX11_isMethod wsX11_in := (gk_code 5 rfl (gn))
set_option maxRecDepth 20000 in
theorem gX11_isMethod_X11_in : GoodIn wsX11_isMethod (va_wsS RX11 133 yX11_in wsX11_in) := goodIn_app (gk_methodLink 2 rfl (gk_static 3 rfl (gk_initialized 4 rfl (gn)))) ggX11_isMethod_X11_in
theorem dX11_isMethod_11 : decode cX11_isMethod 11 = .ok (.ireturn, 1) := dw172 (n := 0) (i := 11) kc_cX11_isMethod_0 (by decide +kernel)
set_option maxHeartbeats 4000000 in
set_option maxRecDepth 100000 in
theorem s_X11_isMethod (l : Launch) (D : va_G) (ad : Nat → Nat) (cs : Nat → ClassId) (M : MI) (L : ML) (x : Int32) (hI : IR M) : Ci l yX11_isMethod wsX11_isMethod ({ frames := 1, cells := 0, slots := 0, locals := 22 }) D ad cs [.ref (ad 258), .int x] M L (fun r M1 L1 => M1 = M ∧ L1 = L ∧ (zo r (hasM (vR M) x))) := by
  refine enter_i RX11 rfl [(0, .ref (ad 258)), (1, .int x)] rfl (Nat.le_of_ble_eq_true rfl) (by decide +kernel) rfl ?_
  intro p e s m below meth c C hr
  have hF : ∀ k i, True → M k i = M k i := fun _ _ _ => rfl
  have hG : ∀ k i, True → L k i = L k i := fun _ _ _ => rfl
  have w0 : (vR M 0 0).toInt = (M 258 2).toInt := rfl
  have w1 : (vR M 0 1).toInt = (M 258 4).toInt := rfl
  have w2 : (vR M 0 2).toInt = (M 258 9).toInt := rfl
  have w3 : (vR M 0 3).toInt = (M 258 14).toInt := rfl
  obtain ⟨y0a, y0b⟩ := (show rg 0 10 (M 258 2) from hI 258 2)
  obtain ⟨y1a, y1b⟩ := (show rg 0 60 (M 258 4) from hI 258 4)
  obtain ⟨y2a, y2b⟩ := (show rg 0 8 (M 258 9) from hI 258 9)
  obtain ⟨y3a, y3b⟩ := (show rg 0 20 (M 258 14) from hI 258 14)
  refine g_iload_n C 1 dX11_isMethod_0 rfl ?_
  refine g_iconst C 0 dX11_isMethod_1 (by decide) ?_
  refine g_aload_n C 0 dX11_isMethod_2 rfl ?_
  refine g_get C (.int (M 258 14)) 14 in_X11_isMethod_11 (List.mem_of_getElem? (i := 1) rfl) (by decide) (ce_model ad cs _ _) rfl (by decide) rfl rfl dX11_isMethod_3 ?_
  refine g_ni (fun v1 ev1 => ?_)
  have gv1 : v1 = vR M 0 3 := ev1
  have tv1 := congrArg Int32.toInt gv1
  obtain ⟨bv1, dv1⟩ := (show rg 0 20 v1 from (by rw [ev1]; exact hI 258 14))
  refine g_iconst C 1 dX11_isMethod_6 (by decide) ?_
  refine g_isub C dX11_isMethod_7 ?_
  refine g_ni (fun v2 ev2 => ?_)
  try have fv2 := fsub rfl (by decide : (1 : Int32).toInt = 1) ev2 (by omega) (by omega)
  refine g_callSi C (n := 3) (As := [.int x, .int 0, .int v2]) (st := []) (c_X11_in l D ad cs _ _ x 0 v2 ) gX11_isMethod_X11_in rfl rfl rfl (by decide +kernel) ⟨Nat.le_of_ble_eq_true rfl, Nat.le_of_ble_eq_true rfl⟩ rfl (Nat.le_of_ble_eq_true rfl) ⟨Nat.zero_le _, Nat.zero_le _⟩ rfl dX11_isMethod_8 (fun r3 M4 L5 hr3 => ?_)
  obtain ⟨hq1, hq2, hr3⟩ := hr3
  obtain rfl := hq1.symm
  obtain rfl := hq2.symm
  have hr3 := zo_in hr3 (by decide : (0 : Int32).toInt = 0) rfl
  obtain ⟨bar3, bbr3⟩ := zo_b hr3
  have hz9 := z_of (r := r3) (by omega) (by omega)
  exact g_zret C hr (by rcases hz9 with h9 | h9 <;> rw [h9] <;> rfl) ⟨rfl, rfl, zo_i hr3 (by omega)⟩ dX11_isMethod_11
theorem dX11_isOf_0 : decode cX11_isOf 0 = .ok (.iload_n 0, 1) := dw26 (n := 0) (i := 0) kc_cX11_isOf_0 (by decide +kernel)
theorem dX11_isOf_1 : decode cX11_isOf 1 = .ok (.iload_n 1, 1) := dw27 (n := 0) (i := 1) kc_cX11_isOf_0 (by decide +kernel)
theorem dX11_isOf_2 : decode cX11_isOf 2 = .ok (.if_icmp .eq 17, 3) := dw159 (n := 0) (i := 2) (a := 0) (b := 17) kc_cX11_isOf_0 (by decide +kernel) (by decide)
theorem dX11_isOf_19 : decode cX11_isOf 19 = .ok (.iconst 1, 1) := dw4 (n := 0) (i := 19) kc_cX11_isOf_0 (by decide +kernel)
theorem dX11_isOf_20 : decode cX11_isOf 20 = .ok (.goto 4, 3) := dw167 (n := 0) (i := 20) (a := 0) (b := 4) kc_cX11_isOf_0 (by decide +kernel) (by decide)
theorem dX11_isOf_24 : decode cX11_isOf 24 = .ok (.ireturn, 1) := dw172 (n := 0) (i := 24) kc_cX11_isOf_0 (by decide +kernel)
theorem dX11_isOf_5 : decode cX11_isOf 5 = .ok (.iload_n 1, 1) := dw27 (n := 0) (i := 5) kc_cX11_isOf_0 (by decide +kernel)
theorem dX11_isOf_6 : decode cX11_isOf 6 = .ok (.ifCond .eq 13, 3) := dw153 (n := 0) (i := 6) (a := 0) (b := 13) kc_cX11_isOf_0 (by decide +kernel) (by decide)
theorem dX11_isOf_9 : decode cX11_isOf 9 = .ok (.iload_n 1, 1) := dw27 (n := 0) (i := 9) kc_cX11_isOf_0 (by decide +kernel)
theorem dX11_isOf_10 : decode cX11_isOf 10 = .ok (.iconst 1, 1) := dw4 (n := 0) (i := 10) kc_cX11_isOf_0 (by decide +kernel)
theorem dX11_isOf_11 : decode cX11_isOf 11 = .ok (.if_icmp .ne 12, 3) := dw160 (n := 0) (i := 11) (a := 0) (b := 12) kc_cX11_isOf_0 (by decide +kernel) (by decide)
theorem dX11_isOf_23 : decode cX11_isOf 23 = .ok (.iconst 0, 1) := dw3 (n := 0) (i := 23) kc_cX11_isOf_0 (by decide +kernel)
theorem dX11_isOf_14 : decode cX11_isOf 14 = .ok (.iload_n 0, 1) := dw26 (n := 0) (i := 14) kc_cX11_isOf_0 (by decide +kernel)
theorem dX11_isOf_15 : decode cX11_isOf 15 = .ok (.iconst 2, 1) := dw5 (n := 0) (i := 15) kc_cX11_isOf_0 (by decide +kernel)
theorem dX11_isOf_16 : decode cX11_isOf 16 = .ok (.if_icmp .ne 7, 3) := dw160 (n := 0) (i := 16) (a := 0) (b := 7) kc_cX11_isOf_0 (by decide +kernel) (by decide)
set_option maxHeartbeats 4000000 in
set_option maxRecDepth 100000 in
theorem s_X11_isOf (l : Launch) (D : va_G) (ad : Nat → Nat) (cs : Nat → ClassId) (M : MI) (L : ML) (x : Int32) (y : Int32) (hI : IR M) : Ci l yX11_isOf wsX11_isOf ({ frames := 0, cells := 0, slots := 0, locals := 0 }) D ad cs [.int x, .int y] M L (fun r M1 L1 => M1 = M ∧ L1 = L ∧ (zo r (ofS x y))) := by
  refine enter_i RX11 rfl [(0, .int x), (1, .int y)] rfl (Nat.le_of_ble_eq_true rfl) (by decide +kernel) rfl ?_
  intro p e s m below meth c C hr
  have hF : ∀ k i, True → M k i = M k i := fun _ _ _ => rfl
  have hG : ∀ k i, True → L k i = L k i := fun _ _ _ => rfl
  have w0 : (vR M 0 0).toInt = (M 258 2).toInt := rfl
  have w1 : (vR M 0 1).toInt = (M 258 4).toInt := rfl
  have w2 : (vR M 0 2).toInt = (M 258 9).toInt := rfl
  have w3 : (vR M 0 3).toInt = (M 258 14).toInt := rfl
  obtain ⟨y0a, y0b⟩ := (show rg 0 10 (M 258 2) from hI 258 2)
  obtain ⟨y1a, y1b⟩ := (show rg 0 60 (M 258 4) from hI 258 4)
  obtain ⟨y2a, y2b⟩ := (show rg 0 8 (M 258 9) from hI 258 9)
  obtain ⟨y3a, y3b⟩ := (show rg 0 20 (M 258 14) from hI 258 14)
  refine g_iload_n C 0 dX11_isOf_0 rfl ?_
  refine g_iload_n C 1 dX11_isOf_1 rfl ?_
  refine g_icmp_eq C 19 dX11_isOf_2 (by decide) (fun c1 => ?_) (fun c1 => ?_)
  ·
    have f2 := feq rfl rfl c1
    refine g_iconst C 1 dX11_isOf_19 (by decide) ?_
    refine g_goto C 24 dX11_isOf_20 (by decide) ?_
    have zr9 : (1 : Int32).toInt = 1 := by decide
    exact g_zret C hr rfl ⟨rfl, rfl, (by first | exact Or.inl ⟨rfl, by omega⟩ | exact Or.inr ⟨rfl, by omega⟩)⟩ dX11_isOf_24
  ·
    have f3 := fne rfl rfl c1
    refine g_iload_n C 1 dX11_isOf_5 rfl ?_
    refine g_if_eq C 19 dX11_isOf_6 (by decide) (fun c4 => ?_) (fun c4 => ?_)
    ·
      have f5 := feq rfl (by decide : (0 : Int32).toInt = 0) c4
      refine g_iconst C 1 dX11_isOf_19 (by decide) ?_
      refine g_goto C 24 dX11_isOf_20 (by decide) ?_
      have zr9 : (1 : Int32).toInt = 1 := by decide
      exact g_zret C hr rfl ⟨rfl, rfl, (by first | exact Or.inl ⟨rfl, by omega⟩ | exact Or.inr ⟨rfl, by omega⟩)⟩ dX11_isOf_24
    ·
      have f6 := fne rfl (by decide : (0 : Int32).toInt = 0) c4
      refine g_iload_n C 1 dX11_isOf_9 rfl ?_
      refine g_iconst C 1 dX11_isOf_10 (by decide) ?_
      refine g_icmp_ne C 23 dX11_isOf_11 (by decide) (fun c7 => ?_) (fun c7 => ?_)
      ·
        have f8 := fne rfl (by decide : (1 : Int32).toInt = 1) c7
        refine g_iconst C 0 dX11_isOf_23 (by decide) ?_
        have zr9 : (0 : Int32).toInt = 0 := by decide
        exact g_zret C hr rfl ⟨rfl, rfl, (by first | exact Or.inl ⟨rfl, by omega⟩ | exact Or.inr ⟨rfl, by omega⟩)⟩ dX11_isOf_24
      ·
        have f9 := feq rfl (by decide : (1 : Int32).toInt = 1) c7
        refine g_iload_n C 0 dX11_isOf_14 rfl ?_
        refine g_iconst C 2 dX11_isOf_15 (by decide) ?_
        refine g_icmp_ne C 23 dX11_isOf_16 (by decide) (fun c10 => ?_) (fun c10 => ?_)
        ·
          have f11 := fne rfl (by decide : (2 : Int32).toInt = 2) c10
          refine g_iconst C 0 dX11_isOf_23 (by decide) ?_
          have zr9 : (0 : Int32).toInt = 0 := by decide
          exact g_zret C hr rfl ⟨rfl, rfl, (by first | exact Or.inl ⟨rfl, by omega⟩ | exact Or.inr ⟨rfl, by omega⟩)⟩ dX11_isOf_24
        ·
          have f12 := feq rfl (by decide : (2 : Int32).toInt = 2) c10
          refine g_iconst C 1 dX11_isOf_19 (by decide) ?_
          refine g_goto C 24 dX11_isOf_20 (by decide) ?_
          have zr9 : (1 : Int32).toInt = 1 := by decide
          exact g_zret C hr rfl ⟨rfl, rfl, (by first | exact Or.inl ⟨rfl, by omega⟩ | exact Or.inr ⟨rfl, by omega⟩)⟩ dX11_isOf_24
theorem dX11_meets_0 : decode cX11_meets 0 = .ok (.aload_n 0, 1) := dw42 (n := 0) (i := 0) kc_cX11_meets_0 (by decide +kernel)
theorem dX11_meets_1 : decode cX11_meets 1 = .ok (.iload_n 1, 1) := dw27 (n := 0) (i := 1) kc_cX11_meets_0 (by decide +kernel)
theorem dX11_meets_2 : decode cX11_meets 2 = .ok (.putfield 130, 3) := dw181 (n := 0) (i := 2) (a := 0) (b := 130) kc_cX11_meets_0 (by decide +kernel) (by decide)
theorem in_X11_meets_11 : ∀ w ∈ u_ws RX11 TX11 53, w ∈ wsX11_meets := fun _ h => List.mem_cons_of_mem _ (List.mem_append_right _ h)
theorem dX11_meets_5 : decode cX11_meets 5 = .ok (.aload_n 0, 1) := dw42 (n := 0) (i := 5) kc_cX11_meets_0 (by decide +kernel)
theorem dX11_meets_6 : decode cX11_meets 6 = .ok (.getfield 7, 3) := dw180 (n := 0) (i := 6) (a := 0) (b := 7) kc_cX11_meets_0 (by decide +kernel) (by decide)
theorem dX11_meets_9 : decode cX11_meets 9 = .ok (.iload_n 1, 1) := dw27 (n := 0) (i := 9) kc_cX11_meets_0 (by decide +kernel)
theorem dX11_meets_10 : decode cX11_meets 10 = .ok (.dup2, 1) := dw92 (n := 0) (i := 10) kc_cX11_meets_0 (by decide +kernel)
theorem dX11_meets_11 : decode cX11_meets 11 = .ok (.iaload, 1) := dw46 (n := 0) (i := 11) kc_cX11_meets_0 (by decide +kernel)
theorem dX11_meets_12 : decode cX11_meets 12 = .ok (.iconst 1, 1) := dw4 (n := 0) (i := 12) kc_cX11_meets_0 (by decide +kernel)
theorem dX11_meets_13 : decode cX11_meets 13 = .ok (.iadd, 1) := dw96 (n := 0) (i := 13) kc_cX11_meets_0 (by decide +kernel)
theorem dX11_meets_14 : decode cX11_meets 14 = .ok (.iastore, 1) := dw79 (n := 0) (i := 14) kc_cX11_meets_0 (by decide +kernel)
theorem dX11_meets_15 : decode cX11_meets 15 = .ok (.bipush (-3), 2) := dw16 (n := 0) (i := 15) (a := 253) kc_cX11_meets_0 (by decide +kernel) (by decide)
theorem dX11_meets_17 : decode cX11_meets 17 = .ok (.ireturn, 1) := dw172 (n := 0) (i := 17) kc_cX11_meets_0 (by decide +kernel)
set_option maxHeartbeats 4000000 in
set_option maxRecDepth 100000 in
theorem s_X11_meets (l : Launch) (D : va_G) (ad : Nat → Nat) (cs : Nat → ClassId) (M : MI) (L : ML) (f : Int32) (hI : IR M) (hf : 0 ≤ f.toInt ∧ f.toInt < 7) : Ci l yX11_meets wsX11_meets ({ frames := 0, cells := 0, slots := 0, locals := 0 }) D ad cs [.ref (ad 258), .int f] M L (fun r M1 L1 => (r = -3 ∧ vR M1 = meetsV (vR M) f) ∧ IR M1 ∧ (∀ k i, ¬ (k = 258 ∧ i = 0) ∧ k ≠ 259 → M1 k i = M k i) ∧ ∀ k i, True → L1 k i = L k i) := by
  refine enter_i RX11 rfl [(0, .ref (ad 258)), (1, .int f)] rfl (Nat.le_of_ble_eq_true rfl) (by decide +kernel) rfl ?_
  intro p e s m below meth c C hr
  have hF : ∀ k i, ¬ (k = 258 ∧ i = 0) ∧ k ≠ 259 → M k i = M k i := fun _ _ _ => rfl
  have hG : ∀ k i, True → L k i = L k i := fun _ _ _ => rfl
  have w0 : (vR M 0 0).toInt = (M 258 2).toInt := rfl
  have w1 : (vR M 0 1).toInt = (M 258 4).toInt := rfl
  have w2 : (vR M 0 2).toInt = (M 258 9).toInt := rfl
  have w3 : (vR M 0 3).toInt = (M 258 14).toInt := rfl
  obtain ⟨y0a, y0b⟩ := (show rg 0 10 (M 258 2) from hI 258 2)
  obtain ⟨y1a, y1b⟩ := (show rg 0 60 (M 258 4) from hI 258 4)
  obtain ⟨y2a, y2b⟩ := (show rg 0 8 (M 258 9) from hI 258 9)
  obtain ⟨y3a, y3b⟩ := (show rg 0 20 (M 258 14) from hI 258 14)
  obtain ⟨hf1, hf2⟩ := hf
  have k0 : M 258 0 = vR M 0 4 := rfl
  have q259 : M 259 = M 259 := rfl
  have hV : vR M = vR M := rfl
  refine g_aload_n C 0 dX11_meets_0 rfl ?_
  refine g_iload_n C 1 dX11_meets_1 rfl ?_
  refine g_putI C 0 in_X11_meets_11 (List.mem_of_getElem? (i := 1) rfl) (by decide) (ce_model ad cs _ _) rfl (by decide) rfl tyX11 tyX11_ok nmX11 rfl rfl rfl rfl (Nat.le_of_ble_eq_true rfl) (by rw [sI_k]; rfl) dX11_meets_2 ?_
  refine g_nm (fun M1 hM1 => ?_)
  have hI : IR M1 := by rw [hM1]; exact hI.st (show bR 258 0 _ from trivial)
  have hF : ∀ k i, ¬ (k = 258 ∧ i = 0) ∧ k ≠ 259 → M1 k i = M k i := fun k i hk => by (rw [hM1, sI_at, if_neg (by omega)]; try exact hF k i hk)
  have k0 : M1 258 0 = f := by rw [hM1, sI_at, if_pos (by decide)]
  have q259 : M1 259 = M 259 := by rw [hM1, sI_n _ _ _ (by decide)]; try exact q259
  have hV : vR M1 = sI (vR M) 0 4 f := by rw [hM1, vR_s (c := 4) (by decide), hV]
  refine g_aload_n C 0 dX11_meets_5 rfl ?_
  refine g_get C (.ref (ad 259)) 1 in_X11_meets_11 (List.mem_of_getElem? (i := 2) rfl) (by decide) (ce_model ad cs _ _) rfl (by decide) rfl rfl dX11_meets_6 ?_
  refine g_iload_n C 1 dX11_meets_9 rfl ?_
  refine g_dup2 C dX11_meets_10 rfl rfl ?_
  refine g_iald C (by decide) (ce_m_came ad cs _ _) (fin' (n := 7) rfl (by omega) (by omega)) dX11_meets_11 ?_
  refine g_ni (fun v2 ev2 => ?_)
  have gv2 : v2 = vR M 14 f.toNatClampNeg := ev2.trans (congrFun q259 _)
  have tv2 := congrArg Int32.toInt gv2
  refine g_iconst C 1 dX11_meets_12 (by decide) ?_
  refine g_iadd C dX11_meets_13 ?_
  refine g_ni (fun v3 ev3 => ?_)
  try have fv3 := fadd rfl (by decide : (1 : Int32).toInt = 1) ev3 (by omega) (by omega)
  refine g_iast C (by decide) (ce_m_came ad cs _ _) (by rw [sI_k]; rfl) (fin' (n := 7) rfl (by omega) (by omega)) dX11_meets_14 ?_
  refine g_nm (fun M4 hM4 => ?_)
  have hI : IR M4 := by rw [hM4]; exact hI.st (show bR 259 _ _ from trivial)
  have hF : ∀ k i, ¬ (k = 258 ∧ i = 0) ∧ k ≠ 259 → M4 k i = M k i := fun k i hk => by (rw [hM4, sI_at, if_neg (by omega)]; try exact hF k i hk)
  have k0 : M4 258 0 = f := by rw [hM4, sI_n _ _ _ (by decide)]; try exact k0
  have hV : vR M4 = sI (sI (vR M) 0 4 f) 14 f.toNatClampNeg v3 := by rw [hM4, vR_a (c := 14) (by decide), hV]
  refine g_bipush C (-3) dX11_meets_15 (by decide) ?_
  have zr9 : ((-3) : Int32).toInt = (-3) := by decide
  exact g_iret C hr ⟨⟨rfl, by rw [hV]; unfold meetsV; subst ev3; rw [gv2]⟩, hI, hF, hG⟩ dX11_meets_17
theorem dX11_stand_0 : decode cX11_stand 0 = .ok (.aload_n 0, 1) := dw42 (n := 0) (i := 0) kc_cX11_stand_0 (by decide +kernel)
theorem dX11_stand_1 : decode cX11_stand 1 = .ok (.getfield 137, 3) := dw180 (n := 0) (i := 1) (a := 0) (b := 137) kc_cX11_stand_0 (by decide +kernel) (by decide)
theorem in_X11_stand_11 : ∀ w ∈ u_ws RX11 TX11 53, w ∈ wsX11_stand := fun _ h => List.mem_cons_of_mem _ (List.mem_append_right _ h)
theorem dX11_stand_4 : decode cX11_stand 4 = .ok (.bipush 10, 2) := dw16 (n := 0) (i := 4) (a := 10) kc_cX11_stand_0 (by decide +kernel) (by decide)
theorem dX11_stand_6 : decode cX11_stand 6 = .ok (.if_icmp .ne 6, 3) := dw160 (n := 0) (i := 6) (a := 0) (b := 6) kc_cX11_stand_0 (by decide +kernel) (by decide)
theorem dX11_stand_12 : decode cX11_stand 12 = .ok (.aload_n 0, 1) := dw42 (n := 0) (i := 12) kc_cX11_stand_0 (by decide +kernel)
theorem dX11_stand_13 : decode cX11_stand 13 = .ok (.getfield 13, 3) := dw180 (n := 0) (i := 13) (a := 0) (b := 13) kc_cX11_stand_0 (by decide +kernel) (by decide)
theorem dX11_stand_16 : decode cX11_stand 16 = .ok (.aload_n 0, 1) := dw42 (n := 0) (i := 16) kc_cX11_stand_0 (by decide +kernel)
theorem dX11_stand_17 : decode cX11_stand 17 = .ok (.getfield 137, 3) := dw180 (n := 0) (i := 17) (a := 0) (b := 137) kc_cX11_stand_0 (by decide +kernel) (by decide)
theorem dX11_stand_20 : decode cX11_stand 20 = .ok (.aload_n 0, 1) := dw42 (n := 0) (i := 20) kc_cX11_stand_0 (by decide +kernel)
theorem dX11_stand_21 : decode cX11_stand 21 = .ok (.getfield 137, 3) := dw180 (n := 0) (i := 21) (a := 0) (b := 137) kc_cX11_stand_0 (by decide +kernel) (by decide)
theorem dX11_stand_24 : decode cX11_stand 24 = .ok (.iastore, 1) := dw79 (n := 0) (i := 24) kc_cX11_stand_0 (by decide +kernel)
theorem dX11_stand_25 : decode cX11_stand 25 = .ok (.aload_n 0, 1) := dw42 (n := 0) (i := 25) kc_cX11_stand_0 (by decide +kernel)
theorem dX11_stand_26 : decode cX11_stand 26 = .ok (.dup, 1) := dw89 (n := 0) (i := 26) kc_cX11_stand_0 (by decide +kernel)
theorem dX11_stand_27 : decode cX11_stand 27 = .ok (.getfield 137, 3) := dw180 (n := 0) (i := 27) (a := 0) (b := 137) kc_cX11_stand_0 (by decide +kernel) (by decide)
theorem dX11_stand_30 : decode cX11_stand 30 = .ok (.iconst 1, 1) := dw4 (n := 0) (i := 30) kc_cX11_stand_0 (by decide +kernel)
theorem dX11_stand_31 : decode cX11_stand 31 = .ok (.iadd, 1) := dw96 (n := 0) (i := 31) kc_cX11_stand_0 (by decide +kernel)
theorem dX11_stand_32 : decode cX11_stand 32 = .ok (.putfield 137, 3) := dw181 (n := 32) (i := 0) (a := 0) (b := 137) kc_cX11_stand_1 (by decide +kernel) (by decide)
theorem dX11_stand_35 : decode cX11_stand 35 = .ok (.aload_n 0, 1) := dw42 (n := 32) (i := 3) kc_cX11_stand_1 (by decide +kernel)
theorem dX11_stand_36 : decode cX11_stand 36 = .ok (.getfield 137, 3) := dw180 (n := 32) (i := 4) (a := 0) (b := 137) kc_cX11_stand_1 (by decide +kernel) (by decide)
theorem dX11_stand_39 : decode cX11_stand 39 = .ok (.iconst 1, 1) := dw4 (n := 32) (i := 7) kc_cX11_stand_1 (by decide +kernel)
theorem dX11_stand_40 : decode cX11_stand 40 = .ok (.isub, 1) := dw100 (n := 32) (i := 8) kc_cX11_stand_1 (by decide +kernel)
theorem dX11_stand_41 : decode cX11_stand 41 = .ok (.ireturn, 1) := dw172 (n := 32) (i := 9) kc_cX11_stand_1 (by decide +kernel)
theorem dX11_stand_9 : decode cX11_stand 9 = .ok (.bipush (-2), 2) := dw16 (n := 0) (i := 9) (a := 254) kc_cX11_stand_0 (by decide +kernel) (by decide)
theorem dX11_stand_11 : decode cX11_stand 11 = .ok (.ireturn, 1) := dw172 (n := 0) (i := 11) kc_cX11_stand_0 (by decide +kernel)
set_option maxHeartbeats 4000000 in
set_option maxRecDepth 100000 in
theorem s_X11_stand (l : Launch) (D : va_G) (ad : Nat → Nat) (cs : Nat → ClassId) (M : MI) (L : ML)  (hI : IR M) : Ci l yX11_stand wsX11_stand ({ frames := 0, cells := 0, slots := 0, locals := 0 }) D ad cs [.ref (ad 258)] M L (fun r M1 L1 => (A_stand (vR M) = (r, vR M1)) ∧ IR M1 ∧ (∀ k i, ¬ (k = 258 ∧ i = 2) ∧ k ≠ 260 → M1 k i = M k i) ∧ ∀ k i, True → L1 k i = L k i) := by
  refine enter_i RX11 rfl [(0, .ref (ad 258))] rfl (Nat.le_of_ble_eq_true rfl) (by decide +kernel) rfl ?_
  intro p e s m below meth c C hr
  have hF : ∀ k i, ¬ (k = 258 ∧ i = 2) ∧ k ≠ 260 → M k i = M k i := fun _ _ _ => rfl
  have hG : ∀ k i, True → L k i = L k i := fun _ _ _ => rfl
  have w0 : (vR M 0 0).toInt = (M 258 2).toInt := rfl
  have w1 : (vR M 0 1).toInt = (M 258 4).toInt := rfl
  have w2 : (vR M 0 2).toInt = (M 258 9).toInt := rfl
  have w3 : (vR M 0 3).toInt = (M 258 14).toInt := rfl
  obtain ⟨y0a, y0b⟩ := (show rg 0 10 (M 258 2) from hI 258 2)
  obtain ⟨y1a, y1b⟩ := (show rg 0 60 (M 258 4) from hI 258 4)
  obtain ⟨y2a, y2b⟩ := (show rg 0 8 (M 258 9) from hI 258 9)
  obtain ⟨y3a, y3b⟩ := (show rg 0 20 (M 258 14) from hI 258 14)
  have k2 : M 258 2 = vR M 0 0 := rfl
  have q260 : M 260 = M 260 := rfl
  have hV : vR M = vR M := rfl
  refine g_aload_n C 0 dX11_stand_0 rfl ?_
  refine g_get C (.int (M 258 2)) 2 in_X11_stand_11 (List.mem_of_getElem? (i := 1) rfl) (by decide) (ce_model ad cs _ _) rfl (by decide) rfl rfl dX11_stand_1 ?_
  refine g_ni (fun v1 ev1 => ?_)
  have gv1 : v1 = vR M 0 0 := ev1.trans k2
  have tv1 := congrArg Int32.toInt gv1
  obtain ⟨bv1, dv1⟩ := (show rg 0 10 v1 from (by rw [ev1]; exact hI 258 2))
  refine g_bipush C 10 dX11_stand_4 (by decide) ?_
  refine g_icmp_ne C 12 dX11_stand_6 (by decide) (fun c2 => ?_) (fun c2 => ?_)
  ·
    have f3 := fne rfl (by decide : (10 : Int32).toInt = 10) c2
    refine g_aload_n C 0 dX11_stand_12 rfl ?_
    refine g_get C (.ref (ad 260)) 3 in_X11_stand_11 (List.mem_of_getElem? (i := 2) rfl) (by decide) (ce_model ad cs _ _) rfl (by decide) rfl rfl dX11_stand_13 ?_
    refine g_aload_n C 0 dX11_stand_16 rfl ?_
    refine g_get C (.int (M 258 2)) 2 in_X11_stand_11 (List.mem_of_getElem? (i := 1) rfl) (by decide) (ce_model ad cs _ _) rfl (by decide) rfl rfl dX11_stand_17 ?_
    refine g_ni (fun v4 ev4 => ?_)
    have gv4 : v4 = vR M 0 0 := ev4.trans k2
    have tv4 := congrArg Int32.toInt gv4
    obtain ⟨bv4, dv4⟩ := (show rg 0 10 v4 from (by rw [ev4]; exact hI 258 2))
    refine g_aload_n C 0 dX11_stand_20 rfl ?_
    refine g_get C (.int (M 258 2)) 2 in_X11_stand_11 (List.mem_of_getElem? (i := 1) rfl) (by decide) (ce_model ad cs _ _) rfl (by decide) rfl rfl dX11_stand_21 ?_
    refine g_ni (fun v5 ev5 => ?_)
    have gv5 : v5 = vR M 0 0 := ev5.trans k2
    have tv5 := congrArg Int32.toInt gv5
    obtain ⟨bv5, dv5⟩ := (show rg 0 10 v5 from (by rw [ev5]; exact hI 258 2))
    refine g_iast C (by decide) (ce_m_draw ad cs _ _) (by rw [sI_k]; rfl) (fin' (n := 10) rfl (by omega) (by omega)) dX11_stand_24 ?_
    refine g_nm (fun M6 hM6 => ?_)
    have hI : IR M6 := by rw [hM6]; exact hI.st (show bR 260 _ _ from ⟨by first | omega | decide, by first | omega | decide⟩)
    have hF : ∀ k i, ¬ (k = 258 ∧ i = 2) ∧ k ≠ 260 → M6 k i = M k i := fun k i hk => by (rw [hM6, sI_at, if_neg (by omega)]; try exact hF k i hk)
    have k2 : M6 258 2 = vR M 0 0 := by rw [hM6, sI_n _ _ _ (by decide)]; try exact k2
    have hV : vR M6 = sI (vR M) 1 v4.toNatClampNeg v5 := by rw [hM6, vR_a (c := 1) (by decide), hV]
    refine g_aload_n C 0 dX11_stand_25 rfl ?_
    refine g_dup C dX11_stand_26 rfl ?_
    refine g_get C (.int (M6 258 2)) 2 in_X11_stand_11 (List.mem_of_getElem? (i := 1) rfl) (by decide) (ce_model ad cs _ _) rfl (by decide) rfl rfl dX11_stand_27 ?_
    refine g_ni (fun v7 ev7 => ?_)
    have gv7 : v7 = vR M 0 0 := ev7.trans k2
    have tv7 := congrArg Int32.toInt gv7
    obtain ⟨bv7, dv7⟩ := (show rg 0 10 v7 from (by rw [ev7]; exact hI 258 2))
    refine g_iconst C 1 dX11_stand_30 (by decide) ?_
    refine g_iadd C dX11_stand_31 ?_
    refine g_ni (fun v8 ev8 => ?_)
    try have fv8 := fadd rfl (by decide : (1 : Int32).toInt = 1) ev8 (by omega) (by omega)
    refine g_putI C 2 in_X11_stand_11 (List.mem_of_getElem? (i := 1) rfl) (by decide) (ce_model ad cs _ _) rfl (by decide) rfl tyX11 tyX11_ok nmX11 rfl rfl rfl rfl (Nat.le_of_ble_eq_true rfl) (by rw [sI_k]; rfl) dX11_stand_32 ?_
    refine g_nm (fun M9 hM9 => ?_)
    have hI : IR M9 := by rw [hM9]; exact hI.st (show bR 258 2 _ from ⟨by first | omega | decide, by first | omega | decide⟩)
    have hF : ∀ k i, ¬ (k = 258 ∧ i = 2) ∧ k ≠ 260 → M9 k i = M k i := fun k i hk => by (rw [hM9, sI_at, if_neg (by omega)]; try exact hF k i hk)
    have k2 : M9 258 2 = v8 := by rw [hM9, sI_at, if_pos (by decide)]
    have hV : vR M9 = sI (sI (vR M) 1 v4.toNatClampNeg v5) 0 0 v8 := by rw [hM9, vR_s (c := 0) (by decide), hV]
    refine g_aload_n C 0 dX11_stand_35 rfl ?_
    refine g_get C (.int (M9 258 2)) 2 in_X11_stand_11 (List.mem_of_getElem? (i := 1) rfl) (by decide) (ce_model ad cs _ _) rfl (by decide) rfl rfl dX11_stand_36 ?_
    refine g_ni (fun v10 ev10 => ?_)
    have gv10 : v10 = v8 := ev10.trans k2
    have tv10 := congrArg Int32.toInt gv10
    obtain ⟨bv10, dv10⟩ := (show rg 0 10 v10 from (by rw [ev10]; exact hI 258 2))
    refine g_iconst C 1 dX11_stand_39 (by decide) ?_
    refine g_isub C dX11_stand_40 ?_
    refine g_ni (fun v11 ev11 => ?_)
    try have fv11 := fsub rfl (by decide : (1 : Int32).toInt = 1) ev11 (by omega) (by omega)
    exact g_iret C hr ⟨(by dsimp only [A_stand, hasC, hasB, hasX, hasM, ofS, ofK, bt, ix]; (repeat (first | rw [if_pos (by omega)] | rw [if_neg (by omega)])); rw [hV]; first | done | rfl | (simp only [ev11, gv10, ev8, gv7, gv5, gv4, gv1]; done) | (simp only [ev11, gv10, ev8, gv7, gv5, gv4, gv1]; rfl) | (subst_vars; first | rfl | grind)), hI, hF, hG⟩ dX11_stand_41
  ·
    have f12 := feq rfl (by decide : (10 : Int32).toInt = 10) c2
    refine g_bipush C (-2) dX11_stand_9 (by decide) ?_
    have zr9 : ((-2) : Int32).toInt = (-2) := by decide
    exact g_iret C hr ⟨(by dsimp only [A_stand, hasC, hasB, hasX, hasM, ofS, ofK, bt, ix]; (repeat (first | rw [if_pos (by omega)] | rw [if_neg (by omega)])); first | done | rfl | (simp only [gv1]; done) | (simp only [gv1]; rfl) | (subst_vars; first | rfl | grind)), hI, hF, hG⟩ dX11_stand_11
theorem dX11_draw_0 : decode cX11_draw 0 = .ok (.aload_n 0, 1) := dw42 (n := 0) (i := 0) kc_cX11_draw_0 (by decide +kernel)
theorem dX11_draw_1 : decode cX11_draw 1 = .ok (.iload_n 1, 1) := dw27 (n := 0) (i := 1) kc_cX11_draw_0 (by decide +kernel)
theorem dX11_draw_2 : decode cX11_draw 2 = .ok (.invokevirtual 140, 3) := dw182 (n := 0) (i := 2) (a := 0) (b := 140) kc_cX11_draw_0 (by decide +kernel) (by decide)
set_option maxRecDepth 20000 in
theorem ggX11_draw_X11_isCandidate : GoodIn wsX11_draw wsX11_isCandidate := (gk_code 6 rfl (gk_fieldLink 7 rfl (gk_methodLink 8 rfl (gk_static 9 rfl (gk_initialized 5 rfl (gk_code 10 rfl (gk_lays 11 rfl (gk_laysFinal 12 rfl (gk_lays 13 rfl (gk_laysFinal 14 rfl (gk_lays 15 rfl (gk_laysFinal 16 rfl (gk_laysFinal 17 rfl (gk_laysFinal 18 rfl (gk_laysFinal 19 rfl (gk_lays 20 rfl (gk_laysFinal 21 rfl (gk_laysFinal 22 rfl (gk_laysFinal 23 rfl (gk_laysFinal 24 rfl (gk_lays 25 rfl (gk_laysFinal 26 rfl (gk_laysFinal 27 rfl (gk_laysFinal 28 rfl (gk_laysFinal 29 rfl (gk_laysFinal 30 rfl (gk_laysFinal 31 rfl (gk_laysFinal 32 rfl (gk_laysFinal 33 rfl (gk_lays 34 rfl (gk_lays 35 rfl (gk_lays 36 rfl (gk_lays 37 rfl (gk_lays 38 rfl (gk_lays 39 rfl (gk_lays 40 rfl (gk_laysFinal 41 rfl (gk_lays 42 rfl (gk_laysFinal 43 rfl (gk_laysFinal 44 rfl (gk_laysFinal 45 rfl (gk_laysFinal 46 rfl (gk_laysFinal 47 rfl (gk_laysFinal 48 rfl (gk_laysFinal 49 rfl (gk_laysFinal 50 rfl (gk_laysFinal 51 rfl (gk_laysFinal 52 rfl (gk_lays 53 rfl (gk_laysFinal 54 rfl (gk_lays 55 rfl (gk_laysFinal 56 rfl (gk_laysFinal 57 rfl (gk_laysFinal 58 rfl (gk_laysFinal 59 rfl (gk_laysFinal 60 rfl (gk_laysFinal 61 rfl (gk_laysFinal 62 rfl (gk_laysFinal 63 rfl (gn))))))))))))))))))))))))))))))))))))))))))))))))))))))))))))
set_option maxRecDepth 20000 in
theorem gX11_draw_X11_isCandidate : GoodIn wsX11_draw (wsV RX11 140 RX11 yX11_isCandidate wsX11_isCandidate) := goodIn_app (gk_methodLink 2 rfl (gk_instanceMethod 3 rfl (gk_selects 4 rfl (gk_initialized 5 rfl (gn))))) ggX11_draw_X11_isCandidate
theorem dX11_draw_5 : decode cX11_draw 5 = .ok (.ifCond .eq 11, 3) := dw153 (n := 0) (i := 5) (a := 0) (b := 11) kc_cX11_draw_0 (by decide +kernel) (by decide)
theorem dX11_draw_16 : decode cX11_draw 16 = .ok (.iconst (-1), 1) := dw2 (n := 0) (i := 16) kc_cX11_draw_0 (by decide +kernel)
theorem dX11_draw_17 : decode cX11_draw 17 = .ok (.ireturn, 1) := dw172 (n := 0) (i := 17) kc_cX11_draw_0 (by decide +kernel)
theorem dX11_draw_8 : decode cX11_draw 8 = .ok (.aload_n 0, 1) := dw42 (n := 0) (i := 8) kc_cX11_draw_0 (by decide +kernel)
theorem dX11_draw_9 : decode cX11_draw 9 = .ok (.iload_n 2, 1) := dw28 (n := 0) (i := 9) kc_cX11_draw_0 (by decide +kernel)
theorem dX11_draw_10 : decode cX11_draw 10 = .ok (.invokevirtual 140, 3) := dw182 (n := 0) (i := 10) (a := 0) (b := 140) kc_cX11_draw_0 (by decide +kernel) (by decide)
theorem dX11_draw_13 : decode cX11_draw 13 = .ok (.ifCond .ne 5, 3) := dw154 (n := 0) (i := 13) (a := 0) (b := 5) kc_cX11_draw_0 (by decide +kernel) (by decide)
theorem dX11_draw_18 : decode cX11_draw 18 = .ok (.aload_n 0, 1) := dw42 (n := 0) (i := 18) kc_cX11_draw_0 (by decide +kernel)
theorem dX11_draw_19 : decode cX11_draw 19 = .ok (.getfield 13, 3) := dw180 (n := 0) (i := 19) (a := 0) (b := 13) kc_cX11_draw_0 (by decide +kernel) (by decide)
theorem in_X11_draw_11 : ∀ w ∈ u_ws RX11 TX11 53, w ∈ wsX11_draw := fun _ h => List.mem_cons_of_mem _ (List.mem_append_right _ h)
theorem dX11_draw_22 : decode cX11_draw 22 = .ok (.iload_n 1, 1) := dw27 (n := 0) (i := 22) kc_cX11_draw_0 (by decide +kernel)
theorem dX11_draw_23 : decode cX11_draw 23 = .ok (.iaload, 1) := dw46 (n := 0) (i := 23) kc_cX11_draw_0 (by decide +kernel)
theorem dX11_draw_24 : decode cX11_draw 24 = .ok (.istore_n 3, 1) := dw62 (n := 0) (i := 24) kc_cX11_draw_0 (by decide +kernel)
theorem dX11_draw_25 : decode cX11_draw 25 = .ok (.aload_n 0, 1) := dw42 (n := 0) (i := 25) kc_cX11_draw_0 (by decide +kernel)
theorem dX11_draw_26 : decode cX11_draw 26 = .ok (.getfield 13, 3) := dw180 (n := 0) (i := 26) (a := 0) (b := 13) kc_cX11_draw_0 (by decide +kernel) (by decide)
theorem dX11_draw_29 : decode cX11_draw 29 = .ok (.iload_n 1, 1) := dw27 (n := 0) (i := 29) kc_cX11_draw_0 (by decide +kernel)
theorem dX11_draw_30 : decode cX11_draw 30 = .ok (.aload_n 0, 1) := dw42 (n := 0) (i := 30) kc_cX11_draw_0 (by decide +kernel)
theorem dX11_draw_31 : decode cX11_draw 31 = .ok (.getfield 13, 3) := dw180 (n := 0) (i := 31) (a := 0) (b := 13) kc_cX11_draw_0 (by decide +kernel) (by decide)
theorem dX11_draw_34 : decode cX11_draw 34 = .ok (.iload_n 2, 1) := dw28 (n := 32) (i := 2) kc_cX11_draw_1 (by decide +kernel)
theorem dX11_draw_35 : decode cX11_draw 35 = .ok (.iaload, 1) := dw46 (n := 32) (i := 3) kc_cX11_draw_1 (by decide +kernel)
theorem dX11_draw_36 : decode cX11_draw 36 = .ok (.iastore, 1) := dw79 (n := 32) (i := 4) kc_cX11_draw_1 (by decide +kernel)
theorem dX11_draw_37 : decode cX11_draw 37 = .ok (.aload_n 0, 1) := dw42 (n := 32) (i := 5) kc_cX11_draw_1 (by decide +kernel)
theorem dX11_draw_38 : decode cX11_draw 38 = .ok (.getfield 13, 3) := dw180 (n := 32) (i := 6) (a := 0) (b := 13) kc_cX11_draw_1 (by decide +kernel) (by decide)
theorem dX11_draw_41 : decode cX11_draw 41 = .ok (.iload_n 2, 1) := dw28 (n := 32) (i := 9) kc_cX11_draw_1 (by decide +kernel)
theorem dX11_draw_42 : decode cX11_draw 42 = .ok (.iload_n 3, 1) := dw29 (n := 32) (i := 10) kc_cX11_draw_1 (by decide +kernel)
theorem dX11_draw_43 : decode cX11_draw 43 = .ok (.iastore, 1) := dw79 (n := 32) (i := 11) kc_cX11_draw_1 (by decide +kernel)
theorem dX11_draw_44 : decode cX11_draw 44 = .ok (.iconst 1, 1) := dw4 (n := 32) (i := 12) kc_cX11_draw_1 (by decide +kernel)
theorem dX11_draw_45 : decode cX11_draw 45 = .ok (.ireturn, 1) := dw172 (n := 32) (i := 13) kc_cX11_draw_1 (by decide +kernel)
set_option maxHeartbeats 4000000 in
set_option maxRecDepth 100000 in
theorem s_X11_draw (l : Launch) (D : va_G) (ad : Nat → Nat) (cs : Nat → ClassId) (M : MI) (L : ML) (x : Int32) (y : Int32) (hI : IR M) : Ci l yX11_draw wsX11_draw ({ frames := 2, cells := 0, slots := 0, locals := 43 }) D ad cs [.ref (ad 258), .int x, .int y] M L (fun r M1 L1 => (A_draw (vR M) x y = (r, vR M1)) ∧ IR M1 ∧ (∀ k i, k ≠ 260 → M1 k i = M k i) ∧ ∀ k i, True → L1 k i = L k i) := by
  refine enter_i RX11 rfl [(0, .ref (ad 258)), (1, .int x), (2, .int y)] rfl (Nat.le_of_ble_eq_true rfl) (by decide +kernel) rfl ?_
  intro p e s m below meth c C hr
  have hF : ∀ k i, k ≠ 260 → M k i = M k i := fun _ _ _ => rfl
  have hG : ∀ k i, True → L k i = L k i := fun _ _ _ => rfl
  have w0 : (vR M 0 0).toInt = (M 258 2).toInt := rfl
  have w1 : (vR M 0 1).toInt = (M 258 4).toInt := rfl
  have w2 : (vR M 0 2).toInt = (M 258 9).toInt := rfl
  have w3 : (vR M 0 3).toInt = (M 258 14).toInt := rfl
  obtain ⟨y0a, y0b⟩ := (show rg 0 10 (M 258 2) from hI 258 2)
  obtain ⟨y1a, y1b⟩ := (show rg 0 60 (M 258 4) from hI 258 4)
  obtain ⟨y2a, y2b⟩ := (show rg 0 8 (M 258 9) from hI 258 9)
  obtain ⟨y3a, y3b⟩ := (show rg 0 20 (M 258 14) from hI 258 14)
  have q260 : M 260 = M 260 := rfl
  have hV : vR M = vR M := rfl
  refine g_aload_n C 0 dX11_draw_0 rfl ?_
  refine g_iload_n C 1 dX11_draw_1 rfl ?_
  refine g_callVi C (n := 1) (As := [.int x]) (st := []) (s_X11_isCandidate l D ad cs _ _ x hI ) gX11_draw_X11_isCandidate rfl rfl rfl (by decide +kernel) ⟨Nat.le_of_ble_eq_true rfl, Nat.le_of_ble_eq_true rfl⟩ rfl (Nat.le_of_ble_eq_true rfl) ⟨Nat.zero_le _, Nat.zero_le _⟩ (by decide) (ce_model ad cs _ _) rfl rfl dX11_draw_2 (fun r1 M2 L3 hr1 => ?_)
  obtain ⟨hq1, hq2, hr1⟩ := hr1
  obtain rfl := hq1.symm
  obtain rfl := hq2.symm
  obtain ⟨bar1, bbr1⟩ := zo_b hr1
  refine g_if_eq C 16 dX11_draw_5 (by decide) (fun c4 => ?_) (fun c4 => ?_)
  ·
    have f5 := feq rfl (by decide : (0 : Int32).toInt = 0) c4
    have pr1 := zo_f hr1 c4
    try dsimp only [hasC, hasB, hasX, hasM, ofS, ofK, bt] at pr1
    refine g_iconst C (-1) dX11_draw_16 (by decide) ?_
    have zr9 : ((-1) : Int32).toInt = (-1) := by decide
    exact g_iret C hr ⟨(by dsimp only [A_draw, hasC, hasB, hasX, hasM, ofS, ofK, bt, ix]; (repeat (first | rw [if_pos (by omega)] | rw [if_neg (by omega)])); first | done | rfl | (simp only [ix]; done) | (simp only [ix]; rfl) | (subst_vars; first | rfl | grind)), hI, hF, hG⟩ dX11_draw_17
  ·
    have f6 := fne rfl (by decide : (0 : Int32).toInt = 0) c4
    have pr1 := zo_t hr1 c4
    try dsimp only [hasC, hasB, hasX, hasM, ofS, ofK, bt] at pr1
    refine g_aload_n C 0 dX11_draw_8 rfl ?_
    refine g_iload_n C 2 dX11_draw_9 rfl ?_
    refine g_callVi C (n := 1) (As := [.int y]) (st := []) (s_X11_isCandidate l D ad cs _ _ y hI ) gX11_draw_X11_isCandidate rfl rfl rfl (by decide +kernel) ⟨Nat.le_of_ble_eq_true rfl, Nat.le_of_ble_eq_true rfl⟩ rfl (Nat.le_of_ble_eq_true rfl) ⟨Nat.zero_le _, Nat.zero_le _⟩ (by decide) (ce_model ad cs _ _) rfl rfl dX11_draw_10 (fun r7 M8 L9 hr7 => ?_)
    obtain ⟨hq1, hq2, hr7⟩ := hr7
    obtain rfl := hq1.symm
    obtain rfl := hq2.symm
    obtain ⟨bar7, bbr7⟩ := zo_b hr7
    refine g_if_ne C 18 dX11_draw_13 (by decide) (fun c10 => ?_) (fun c10 => ?_)
    ·
      have f11 := fne rfl (by decide : (0 : Int32).toInt = 0) c10
      have pr7 := zo_t hr7 c10
      try dsimp only [hasC, hasB, hasX, hasM, ofS, ofK, bt] at pr7
      refine g_aload_n C 0 dX11_draw_18 rfl ?_
      refine g_get C (.ref (ad 260)) 3 in_X11_draw_11 (List.mem_of_getElem? (i := 1) rfl) (by decide) (ce_model ad cs _ _) rfl (by decide) rfl rfl dX11_draw_19 ?_
      refine g_iload_n C 1 dX11_draw_22 rfl ?_
      refine g_iald C (by decide) (ce_m_draw ad cs _ _) (fin' (n := 10) rfl (by omega) (by omega)) dX11_draw_23 ?_
      refine g_ni (fun v12 ev12 => ?_)
      have gv12 : v12 = vR M 1 x.toNatClampNeg := ev12.trans (congrFun q260 _)
      have tv12 := congrArg Int32.toInt gv12
      obtain ⟨bv12, dv12⟩ := (show rg 0 9 v12 from (by rw [ev12]; exact hI 260 x.toNatClampNeg))
      refine g_istore_n C [(3, .int v12), (0, .ref (ad 258)), (1, .int x), (2, .int y)] dX11_draw_24 (by decide) rfl ?_
      refine g_aload_n C 1 dX11_draw_25 rfl ?_
      refine g_get C (.ref (ad 260)) 3 in_X11_draw_11 (List.mem_of_getElem? (i := 1) rfl) (by decide) (ce_model ad cs _ _) rfl (by decide) rfl rfl dX11_draw_26 ?_
      refine g_iload_n C 2 dX11_draw_29 rfl ?_
      refine g_aload_n C 1 dX11_draw_30 rfl ?_
      refine g_get C (.ref (ad 260)) 3 in_X11_draw_11 (List.mem_of_getElem? (i := 1) rfl) (by decide) (ce_model ad cs _ _) rfl (by decide) rfl rfl dX11_draw_31 ?_
      refine g_iload_n C 3 dX11_draw_34 rfl ?_
      refine g_iald C (by decide) (ce_m_draw ad cs _ _) (fin' (n := 10) rfl (by omega) (by omega)) dX11_draw_35 ?_
      refine g_ni (fun v13 ev13 => ?_)
      have gv13 : v13 = vR M 1 y.toNatClampNeg := ev13.trans (congrFun q260 _)
      have tv13 := congrArg Int32.toInt gv13
      obtain ⟨bv13, dv13⟩ := (show rg 0 9 v13 from (by rw [ev13]; exact hI 260 y.toNatClampNeg))
      refine g_iast C (by decide) (ce_m_draw ad cs _ _) (by rw [sI_k]; rfl) (fin' (n := 10) rfl (by omega) (by omega)) dX11_draw_36 ?_
      refine g_nm (fun M14 hM14 => ?_)
      have hI : IR M14 := by rw [hM14]; exact hI.st (show bR 260 _ _ from ⟨by first | omega | decide, by first | omega | decide⟩)
      have hF : ∀ k i, k ≠ 260 → M14 k i = M k i := fun k i hk => by (rw [hM14, sI_at, if_neg (by omega)]; try exact hF k i hk)
      have hV : vR M14 = sI (vR M) 1 x.toNatClampNeg v13 := by rw [hM14, vR_a (c := 1) (by decide), hV]
      refine g_aload_n C 1 dX11_draw_37 rfl ?_
      refine g_get C (.ref (ad 260)) 3 in_X11_draw_11 (List.mem_of_getElem? (i := 1) rfl) (by decide) (ce_model ad cs _ _) rfl (by decide) rfl rfl dX11_draw_38 ?_
      refine g_iload_n C 3 dX11_draw_41 rfl ?_
      refine g_iload_n C 0 dX11_draw_42 rfl ?_
      refine g_iast C (by decide) (ce_m_draw ad cs _ _) (by rw [sI_k]; rfl) (fin' (n := 10) rfl (by omega) (by omega)) dX11_draw_43 ?_
      refine g_nm (fun M15 hM15 => ?_)
      have hI : IR M15 := by rw [hM15]; exact hI.st (show bR 260 _ _ from ⟨by first | omega | decide, by first | omega | decide⟩)
      have hF : ∀ k i, k ≠ 260 → M15 k i = M k i := fun k i hk => by (rw [hM15, sI_at, if_neg (by omega)]; try exact hF k i hk)
      have hV : vR M15 = sI (sI (vR M) 1 x.toNatClampNeg v13) 1 y.toNatClampNeg v12 := by rw [hM15, vR_a (c := 1) (by decide), hV]
      refine g_iconst C 1 dX11_draw_44 (by decide) ?_
      have zr9 : (1 : Int32).toInt = 1 := by decide
      exact g_iret C hr ⟨(by dsimp only [A_draw, hasC, hasB, hasX, hasM, ofS, ofK, bt, ix]; (repeat (first | rw [if_pos (by omega)] | rw [if_neg (by omega)])); rw [hV]; first | done | rfl | (simp only [gv13, gv12]; done) | (simp only [gv13, gv12]; rfl) | (subst_vars; first | rfl | grind)), hI, hF, hG⟩ dX11_draw_45
    ·
      have f16 := feq rfl (by decide : (0 : Int32).toInt = 0) c10
      have pr7 := zo_f hr7 c10
      try dsimp only [hasC, hasB, hasX, hasM, ofS, ofK, bt] at pr7
      refine g_iconst C (-1) dX11_draw_16 (by decide) ?_
      have zr9 : ((-1) : Int32).toInt = (-1) := by decide
      exact g_iret C hr ⟨(by dsimp only [A_draw, hasC, hasB, hasX, hasM, ofS, ofK, bt, ix]; (repeat (first | rw [if_pos (by omega)] | rw [if_neg (by omega)])); first | done | rfl | (simp only [ix]; done) | (simp only [ix]; rfl) | (subst_vars; first | rfl | grind)), hI, hF, hG⟩ dX11_draw_17
theorem dX11_drawn_0 : decode cX11_drawn 0 = .ok (.aload_n 0, 1) := dw42 (n := 0) (i := 0) kc_cX11_drawn_0 (by decide +kernel)
theorem dX11_drawn_1 : decode cX11_drawn 1 = .ok (.iload_n 1, 1) := dw27 (n := 0) (i := 1) kc_cX11_drawn_0 (by decide +kernel)
theorem dX11_drawn_2 : decode cX11_drawn 2 = .ok (.invokevirtual 140, 3) := dw182 (n := 0) (i := 2) (a := 0) (b := 140) kc_cX11_drawn_0 (by decide +kernel) (by decide)
set_option maxRecDepth 20000 in
theorem ggX11_drawn_X11_isCandidate : GoodIn wsX11_drawn wsX11_isCandidate := (gk_code 6 rfl (gk_fieldLink 7 rfl (gk_methodLink 8 rfl (gk_static 9 rfl (gk_initialized 5 rfl (gk_code 10 rfl (gk_lays 11 rfl (gk_laysFinal 12 rfl (gk_lays 13 rfl (gk_laysFinal 14 rfl (gk_lays 15 rfl (gk_laysFinal 16 rfl (gk_laysFinal 17 rfl (gk_laysFinal 18 rfl (gk_laysFinal 19 rfl (gk_lays 20 rfl (gk_laysFinal 21 rfl (gk_laysFinal 22 rfl (gk_laysFinal 23 rfl (gk_laysFinal 24 rfl (gk_lays 25 rfl (gk_laysFinal 26 rfl (gk_laysFinal 27 rfl (gk_laysFinal 28 rfl (gk_laysFinal 29 rfl (gk_laysFinal 30 rfl (gk_laysFinal 31 rfl (gk_laysFinal 32 rfl (gk_laysFinal 33 rfl (gk_lays 34 rfl (gk_lays 35 rfl (gk_lays 36 rfl (gk_lays 37 rfl (gk_lays 38 rfl (gk_lays 39 rfl (gk_lays 40 rfl (gk_laysFinal 41 rfl (gk_lays 42 rfl (gk_laysFinal 43 rfl (gk_laysFinal 44 rfl (gk_laysFinal 45 rfl (gk_laysFinal 46 rfl (gk_laysFinal 47 rfl (gk_laysFinal 48 rfl (gk_laysFinal 49 rfl (gk_laysFinal 50 rfl (gk_laysFinal 51 rfl (gk_laysFinal 52 rfl (gk_lays 53 rfl (gk_laysFinal 54 rfl (gk_lays 55 rfl (gk_laysFinal 56 rfl (gk_laysFinal 57 rfl (gk_laysFinal 58 rfl (gk_laysFinal 59 rfl (gk_laysFinal 60 rfl (gk_laysFinal 61 rfl (gk_laysFinal 62 rfl (gk_laysFinal 63 rfl (gn))))))))))))))))))))))))))))))))))))))))))))))))))))))))))))
set_option maxRecDepth 20000 in
theorem gX11_drawn_X11_isCandidate : GoodIn wsX11_drawn (wsV RX11 140 RX11 yX11_isCandidate wsX11_isCandidate) := goodIn_app (gk_methodLink 2 rfl (gk_instanceMethod 3 rfl (gk_selects 4 rfl (gk_initialized 5 rfl (gn))))) ggX11_drawn_X11_isCandidate
theorem dX11_drawn_5 : decode cX11_drawn 5 = .ok (.ifCond .eq 12, 3) := dw153 (n := 0) (i := 5) (a := 0) (b := 12) kc_cX11_drawn_0 (by decide +kernel) (by decide)
theorem dX11_drawn_17 : decode cX11_drawn 17 = .ok (.iconst (-1), 1) := dw2 (n := 0) (i := 17) kc_cX11_drawn_0 (by decide +kernel)
theorem dX11_drawn_18 : decode cX11_drawn 18 = .ok (.ireturn, 1) := dw172 (n := 0) (i := 18) kc_cX11_drawn_0 (by decide +kernel)
theorem dX11_drawn_8 : decode cX11_drawn 8 = .ok (.aload_n 0, 1) := dw42 (n := 0) (i := 8) kc_cX11_drawn_0 (by decide +kernel)
theorem dX11_drawn_9 : decode cX11_drawn 9 = .ok (.getfield 13, 3) := dw180 (n := 0) (i := 9) (a := 0) (b := 13) kc_cX11_drawn_0 (by decide +kernel) (by decide)
theorem in_X11_drawn_11 : ∀ w ∈ u_ws RX11 TX11 53, w ∈ wsX11_drawn := fun _ h => List.mem_cons_of_mem _ (List.mem_append_right _ h)
theorem dX11_drawn_12 : decode cX11_drawn 12 = .ok (.iload_n 1, 1) := dw27 (n := 0) (i := 12) kc_cX11_drawn_0 (by decide +kernel)
theorem dX11_drawn_13 : decode cX11_drawn 13 = .ok (.iaload, 1) := dw46 (n := 0) (i := 13) kc_cX11_drawn_0 (by decide +kernel)
theorem dX11_drawn_14 : decode cX11_drawn 14 = .ok (.goto 4, 3) := dw167 (n := 0) (i := 14) (a := 0) (b := 4) kc_cX11_drawn_0 (by decide +kernel) (by decide)
set_option maxHeartbeats 4000000 in
set_option maxRecDepth 100000 in
theorem s_X11_drawn (l : Launch) (D : va_G) (ad : Nat → Nat) (cs : Nat → ClassId) (M : MI) (L : ML) (x : Int32) (hI : IR M) : Ci l yX11_drawn wsX11_drawn ({ frames := 2, cells := 0, slots := 0, locals := 43 }) D ad cs [.ref (ad 258), .int x] M L (fun r M1 L1 => M1 = M ∧ L1 = L ∧ (r = A_drawn (vR M) x)) := by
  refine enter_i RX11 rfl [(0, .ref (ad 258)), (1, .int x)] rfl (Nat.le_of_ble_eq_true rfl) (by decide +kernel) rfl ?_
  intro p e s m below meth c C hr
  have hF : ∀ k i, True → M k i = M k i := fun _ _ _ => rfl
  have hG : ∀ k i, True → L k i = L k i := fun _ _ _ => rfl
  have w0 : (vR M 0 0).toInt = (M 258 2).toInt := rfl
  have w1 : (vR M 0 1).toInt = (M 258 4).toInt := rfl
  have w2 : (vR M 0 2).toInt = (M 258 9).toInt := rfl
  have w3 : (vR M 0 3).toInt = (M 258 14).toInt := rfl
  obtain ⟨y0a, y0b⟩ := (show rg 0 10 (M 258 2) from hI 258 2)
  obtain ⟨y1a, y1b⟩ := (show rg 0 60 (M 258 4) from hI 258 4)
  obtain ⟨y2a, y2b⟩ := (show rg 0 8 (M 258 9) from hI 258 9)
  obtain ⟨y3a, y3b⟩ := (show rg 0 20 (M 258 14) from hI 258 14)
  refine g_aload_n C 0 dX11_drawn_0 rfl ?_
  refine g_iload_n C 1 dX11_drawn_1 rfl ?_
  refine g_callVi C (n := 1) (As := [.int x]) (st := []) (s_X11_isCandidate l D ad cs _ _ x hI ) gX11_drawn_X11_isCandidate rfl rfl rfl (by decide +kernel) ⟨Nat.le_of_ble_eq_true rfl, Nat.le_of_ble_eq_true rfl⟩ rfl (Nat.le_of_ble_eq_true rfl) ⟨Nat.zero_le _, Nat.zero_le _⟩ (by decide) (ce_model ad cs _ _) rfl rfl dX11_drawn_2 (fun r1 M2 L3 hr1 => ?_)
  obtain ⟨hq1, hq2, hr1⟩ := hr1
  obtain rfl := hq1.symm
  obtain rfl := hq2.symm
  obtain ⟨bar1, bbr1⟩ := zo_b hr1
  refine g_if_eq C 17 dX11_drawn_5 (by decide) (fun c4 => ?_) (fun c4 => ?_)
  ·
    have f5 := feq rfl (by decide : (0 : Int32).toInt = 0) c4
    have pr1 := zo_f hr1 c4
    try dsimp only [hasC, hasB, hasX, hasM, ofS, ofK, bt] at pr1
    refine g_iconst C (-1) dX11_drawn_17 (by decide) ?_
    have zr9 : ((-1) : Int32).toInt = (-1) := by decide
    exact g_iret C hr ⟨rfl, rfl, (by dsimp only [A_drawn, hasC, hasB, hasX, hasM, ofS, ofK, bt, ix]; (repeat (first | rw [if_pos (by omega)] | rw [if_neg (by omega)])); first | done | rfl | (simp only [ix]; done) | (simp only [ix]; rfl) | (subst_vars; first | rfl | grind))⟩ dX11_drawn_18
  ·
    have f6 := fne rfl (by decide : (0 : Int32).toInt = 0) c4
    have pr1 := zo_t hr1 c4
    try dsimp only [hasC, hasB, hasX, hasM, ofS, ofK, bt] at pr1
    refine g_aload_n C 0 dX11_drawn_8 rfl ?_
    refine g_get C (.ref (ad 260)) 3 in_X11_drawn_11 (List.mem_of_getElem? (i := 1) rfl) (by decide) (ce_model ad cs _ _) rfl (by decide) rfl rfl dX11_drawn_9 ?_
    refine g_iload_n C 1 dX11_drawn_12 rfl ?_
    refine g_iald C (by decide) (ce_m_draw ad cs _ _) (fin' (n := 10) rfl (by omega) (by omega)) dX11_drawn_13 ?_
    refine g_ni (fun v7 ev7 => ?_)
    have gv7 : v7 = vR M 1 x.toNatClampNeg := ev7
    have tv7 := congrArg Int32.toInt gv7
    obtain ⟨bv7, dv7⟩ := (show rg 0 9 v7 from (by rw [ev7]; exact hI 260 x.toNatClampNeg))
    refine g_goto C 18 dX11_drawn_14 (by decide) ?_
    exact g_iret C hr ⟨rfl, rfl, (by dsimp only [A_drawn, hasC, hasB, hasX, hasM, ofS, ofK, bt, ix]; (repeat (first | rw [if_pos (by omega)] | rw [if_neg (by omega)])); first | done | rfl | (simp only [gv7]; done) | (simp only [gv7]; rfl) | (subst_vars; first | rfl | grind))⟩ dX11_drawn_18
theorem dX11_ballot_0 : decode cX11_ballot 0 = .ok (.iload_n 1, 1) := dw27 (n := 0) (i := 0) kc_cX11_ballot_0 (by decide +kernel)
theorem dX11_ballot_1 : decode cX11_ballot 1 = .ok (.iconst 0, 1) := dw3 (n := 0) (i := 1) kc_cX11_ballot_0 (by decide +kernel)
theorem dX11_ballot_2 : decode cX11_ballot 2 = .ok (.iconst 3, 1) := dw6 (n := 0) (i := 2) kc_cX11_ballot_0 (by decide +kernel)
theorem dX11_ballot_3 : decode cX11_ballot 3 = .ok (.invokestatic 133, 3) := dw184 (n := 0) (i := 3) (a := 0) (b := 133) kc_cX11_ballot_0 (by decide +kernel) (by decide)
set_option maxRecDepth 20000 in
theorem ggX11_ballot_X11_in : GoodIn wsX11_ballot wsX11_in := (gk_code 8 rfl (gn))
set_option maxRecDepth 20000 in
theorem gX11_ballot_X11_in : GoodIn wsX11_ballot (va_wsS RX11 133 yX11_in wsX11_in) := goodIn_app (gk_methodLink 5 rfl (gk_static 6 rfl (gk_initialized 7 rfl (gn)))) ggX11_ballot_X11_in
theorem dX11_ballot_6 : decode cX11_ballot 6 = .ok (.ifCond .eq 13, 3) := dw153 (n := 0) (i := 6) (a := 0) (b := 13) kc_cX11_ballot_0 (by decide +kernel) (by decide)
theorem dX11_ballot_19 : decode cX11_ballot 19 = .ok (.iconst (-1), 1) := dw2 (n := 0) (i := 19) kc_cX11_ballot_0 (by decide +kernel)
theorem dX11_ballot_20 : decode cX11_ballot 20 = .ok (.ireturn, 1) := dw172 (n := 0) (i := 20) kc_cX11_ballot_0 (by decide +kernel)
theorem dX11_ballot_9 : decode cX11_ballot 9 = .ok (.iload_n 2, 1) := dw28 (n := 0) (i := 9) kc_cX11_ballot_0 (by decide +kernel)
theorem dX11_ballot_10 : decode cX11_ballot 10 = .ok (.iconst 1, 1) := dw4 (n := 0) (i := 10) kc_cX11_ballot_0 (by decide +kernel)
theorem dX11_ballot_11 : decode cX11_ballot 11 = .ok (.ldc 147, 2) := dw18 (n := 0) (i := 11) (a := 147) kc_cX11_ballot_0 (by decide +kernel) (by decide)
theorem dX11_ballot_13 : decode cX11_ballot 13 = .ok (.invokestatic 133, 3) := dw184 (n := 0) (i := 13) (a := 0) (b := 133) kc_cX11_ballot_0 (by decide +kernel) (by decide)
theorem dX11_ballot_16 : decode cX11_ballot 16 = .ok (.ifCond .ne 5, 3) := dw154 (n := 0) (i := 16) (a := 0) (b := 5) kc_cX11_ballot_0 (by decide +kernel) (by decide)
theorem dX11_ballot_21 : decode cX11_ballot 21 = .ok (.aload_n 0, 1) := dw42 (n := 0) (i := 21) kc_cX11_ballot_0 (by decide +kernel)
theorem dX11_ballot_22 : decode cX11_ballot 22 = .ok (.getfield 144, 3) := dw180 (n := 0) (i := 22) (a := 0) (b := 144) kc_cX11_ballot_0 (by decide +kernel) (by decide)
theorem in_X11_ballot_11 : ∀ w ∈ u_ws RX11 TX11 53, w ∈ wsX11_ballot := fun _ h => List.mem_cons_of_mem _ (List.mem_append_right _ h)
theorem dX11_ballot_25 : decode cX11_ballot 25 = .ok (.bipush 60, 2) := dw16 (n := 0) (i := 25) (a := 60) kc_cX11_ballot_0 (by decide +kernel) (by decide)
theorem dX11_ballot_27 : decode cX11_ballot 27 = .ok (.if_icmp .ne 6, 3) := dw160 (n := 0) (i := 27) (a := 0) (b := 6) kc_cX11_ballot_0 (by decide +kernel) (by decide)
theorem dX11_ballot_33 : decode cX11_ballot 33 = .ok (.aload_n 0, 1) := dw42 (n := 32) (i := 1) kc_cX11_ballot_1 (by decide +kernel)
theorem dX11_ballot_34 : decode cX11_ballot 34 = .ok (.getfield 16, 3) := dw180 (n := 32) (i := 2) (a := 0) (b := 16) kc_cX11_ballot_1 (by decide +kernel) (by decide)
theorem dX11_ballot_37 : decode cX11_ballot 37 = .ok (.aload_n 0, 1) := dw42 (n := 32) (i := 5) kc_cX11_ballot_1 (by decide +kernel)
theorem dX11_ballot_38 : decode cX11_ballot 38 = .ok (.getfield 144, 3) := dw180 (n := 32) (i := 6) (a := 0) (b := 144) kc_cX11_ballot_1 (by decide +kernel) (by decide)
theorem dX11_ballot_41 : decode cX11_ballot 41 = .ok (.iload_n 1, 1) := dw27 (n := 32) (i := 9) kc_cX11_ballot_1 (by decide +kernel)
theorem dX11_ballot_42 : decode cX11_ballot 42 = .ok (.iastore, 1) := dw79 (n := 32) (i := 10) kc_cX11_ballot_1 (by decide +kernel)
theorem dX11_ballot_43 : decode cX11_ballot 43 = .ok (.aload_n 0, 1) := dw42 (n := 32) (i := 11) kc_cX11_ballot_1 (by decide +kernel)
theorem dX11_ballot_44 : decode cX11_ballot 44 = .ok (.getfield 19, 3) := dw180 (n := 32) (i := 12) (a := 0) (b := 19) kc_cX11_ballot_1 (by decide +kernel) (by decide)
theorem dX11_ballot_47 : decode cX11_ballot 47 = .ok (.aload_n 0, 1) := dw42 (n := 32) (i := 15) kc_cX11_ballot_1 (by decide +kernel)
theorem dX11_ballot_48 : decode cX11_ballot 48 = .ok (.getfield 144, 3) := dw180 (n := 32) (i := 16) (a := 0) (b := 144) kc_cX11_ballot_1 (by decide +kernel) (by decide)
theorem dX11_ballot_51 : decode cX11_ballot 51 = .ok (.iload_n 2, 1) := dw28 (n := 32) (i := 19) kc_cX11_ballot_1 (by decide +kernel)
theorem dX11_ballot_52 : decode cX11_ballot 52 = .ok (.iastore, 1) := dw79 (n := 32) (i := 20) kc_cX11_ballot_1 (by decide +kernel)
theorem dX11_ballot_53 : decode cX11_ballot 53 = .ok (.aload_n 0, 1) := dw42 (n := 32) (i := 21) kc_cX11_ballot_1 (by decide +kernel)
theorem dX11_ballot_54 : decode cX11_ballot 54 = .ok (.dup, 1) := dw89 (n := 32) (i := 22) kc_cX11_ballot_1 (by decide +kernel)
theorem dX11_ballot_55 : decode cX11_ballot 55 = .ok (.getfield 144, 3) := dw180 (n := 32) (i := 23) (a := 0) (b := 144) kc_cX11_ballot_1 (by decide +kernel) (by decide)
theorem dX11_ballot_58 : decode cX11_ballot 58 = .ok (.iconst 1, 1) := dw4 (n := 32) (i := 26) kc_cX11_ballot_1 (by decide +kernel)
theorem dX11_ballot_59 : decode cX11_ballot 59 = .ok (.iadd, 1) := dw96 (n := 32) (i := 27) kc_cX11_ballot_1 (by decide +kernel)
theorem dX11_ballot_60 : decode cX11_ballot 60 = .ok (.putfield 144, 3) := dw181 (n := 32) (i := 28) (a := 0) (b := 144) kc_cX11_ballot_1 (by decide +kernel) (by decide)
theorem dX11_ballot_63 : decode cX11_ballot 63 = .ok (.aload_n 0, 1) := dw42 (n := 32) (i := 31) kc_cX11_ballot_1 (by decide +kernel)
theorem dX11_ballot_64 : decode cX11_ballot 64 = .ok (.getfield 144, 3) := dw180 (n := 64) (i := 0) (a := 0) (b := 144) kc_cX11_ballot_2 (by decide +kernel) (by decide)
theorem dX11_ballot_67 : decode cX11_ballot 67 = .ok (.iconst 1, 1) := dw4 (n := 64) (i := 3) kc_cX11_ballot_2 (by decide +kernel)
theorem dX11_ballot_68 : decode cX11_ballot 68 = .ok (.isub, 1) := dw100 (n := 64) (i := 4) kc_cX11_ballot_2 (by decide +kernel)
theorem dX11_ballot_69 : decode cX11_ballot 69 = .ok (.ireturn, 1) := dw172 (n := 64) (i := 5) kc_cX11_ballot_2 (by decide +kernel)
theorem dX11_ballot_30 : decode cX11_ballot 30 = .ok (.bipush (-2), 2) := dw16 (n := 0) (i := 30) (a := 254) kc_cX11_ballot_0 (by decide +kernel) (by decide)
theorem dX11_ballot_32 : decode cX11_ballot 32 = .ok (.ireturn, 1) := dw172 (n := 32) (i := 0) kc_cX11_ballot_1 (by decide +kernel)
set_option maxHeartbeats 4000000 in
set_option maxRecDepth 100000 in
theorem s_X11_ballot (l : Launch) (D : va_G) (ad : Nat → Nat) (cs : Nat → ClassId) (M : MI) (L : ML) (x : Int32) (y : Int32) (hI : IR M) : Ci l yX11_ballot wsX11_ballot ({ frames := 1, cells := 0, slots := 0, locals := 22 }) D ad cs [.ref (ad 258), .int x, .int y] M L (fun r M1 L1 => (A_ballot (vR M) x y = (r, vR M1)) ∧ IR M1 ∧ (∀ k i, ¬ (k = 258 ∧ i = 4) ∧ k ≠ 261 ∧ k ≠ 262 → M1 k i = M k i) ∧ ∀ k i, True → L1 k i = L k i) := by
  refine enter_i RX11 rfl [(0, .ref (ad 258)), (1, .int x), (2, .int y)] rfl (Nat.le_of_ble_eq_true rfl) (by decide +kernel) rfl ?_
  intro p e s m below meth c C hr
  have hF : ∀ k i, ¬ (k = 258 ∧ i = 4) ∧ k ≠ 261 ∧ k ≠ 262 → M k i = M k i := fun _ _ _ => rfl
  have hG : ∀ k i, True → L k i = L k i := fun _ _ _ => rfl
  have w0 : (vR M 0 0).toInt = (M 258 2).toInt := rfl
  have w1 : (vR M 0 1).toInt = (M 258 4).toInt := rfl
  have w2 : (vR M 0 2).toInt = (M 258 9).toInt := rfl
  have w3 : (vR M 0 3).toInt = (M 258 14).toInt := rfl
  obtain ⟨y0a, y0b⟩ := (show rg 0 10 (M 258 2) from hI 258 2)
  obtain ⟨y1a, y1b⟩ := (show rg 0 60 (M 258 4) from hI 258 4)
  obtain ⟨y2a, y2b⟩ := (show rg 0 8 (M 258 9) from hI 258 9)
  obtain ⟨y3a, y3b⟩ := (show rg 0 20 (M 258 14) from hI 258 14)
  have k4 : M 258 4 = vR M 0 1 := rfl
  have q261 : M 261 = M 261 := rfl
  have q262 : M 262 = M 262 := rfl
  have hV : vR M = vR M := rfl
  refine g_iload_n C 1 dX11_ballot_0 rfl ?_
  refine g_iconst C 0 dX11_ballot_1 (by decide) ?_
  refine g_iconst C 3 dX11_ballot_2 (by decide) ?_
  refine g_callSi C (n := 3) (As := [.int x, .int 0, .int 3]) (st := []) (c_X11_in l D ad cs _ _ x 0 3 ) gX11_ballot_X11_in rfl rfl rfl (by decide +kernel) ⟨Nat.le_of_ble_eq_true rfl, Nat.le_of_ble_eq_true rfl⟩ rfl (Nat.le_of_ble_eq_true rfl) ⟨Nat.zero_le _, Nat.zero_le _⟩ rfl dX11_ballot_3 (fun r1 M2 L3 hr1 => ?_)
  obtain ⟨hq1, hq2, hr1⟩ := hr1
  obtain rfl := hq1.symm
  obtain rfl := hq2.symm
  have hr1 := zo_in hr1 (by decide : (0 : Int32).toInt = 0) (by decide : (3 : Int32).toInt = 3)
  obtain ⟨bar1, bbr1⟩ := zo_b hr1
  refine g_if_eq C 19 dX11_ballot_6 (by decide) (fun c4 => ?_) (fun c4 => ?_)
  ·
    have f5 := feq rfl (by decide : (0 : Int32).toInt = 0) c4
    have pr1 := zo_f hr1 c4
    try dsimp only [hasC, hasB, hasX, hasM, ofS, ofK, bt] at pr1
    refine g_iconst C (-1) dX11_ballot_19 (by decide) ?_
    have zr9 : ((-1) : Int32).toInt = (-1) := by decide
    exact g_iret C hr ⟨(by dsimp only [A_ballot, hasC, hasB, hasX, hasM, ofS, ofK, bt, ix]; (repeat (first | rw [if_pos (by omega)] | rw [if_neg (by omega)])); first | done | rfl | (simp only [ix]; done) | (simp only [ix]; rfl) | (subst_vars; first | rfl | grind)), hI, hF, hG⟩ dX11_ballot_20
  ·
    have f6 := fne rfl (by decide : (0 : Int32).toInt = 0) c4
    have pr1 := zo_t hr1 c4
    try dsimp only [hasC, hasB, hasX, hasM, ofS, ofK, bt] at pr1
    refine g_iload_n C 2 dX11_ballot_9 rfl ?_
    refine g_iconst C 1 dX11_ballot_10 (by decide) ?_
    refine g_ldc C 100000 (List.mem_of_getElem? (i := 1) rfl) dX11_ballot_11 ?_
    refine g_callSi C (n := 3) (As := [.int y, .int 1, .int 100000]) (st := []) (c_X11_in l D ad cs _ _ y 1 100000 ) gX11_ballot_X11_in rfl rfl rfl (by decide +kernel) ⟨Nat.le_of_ble_eq_true rfl, Nat.le_of_ble_eq_true rfl⟩ rfl (Nat.le_of_ble_eq_true rfl) ⟨Nat.zero_le _, Nat.zero_le _⟩ rfl dX11_ballot_13 (fun r7 M8 L9 hr7 => ?_)
    obtain ⟨hq1, hq2, hr7⟩ := hr7
    obtain rfl := hq1.symm
    obtain rfl := hq2.symm
    have hr7 := zo_in hr7 (by decide : (1 : Int32).toInt = 1) (by decide : (100000 : Int32).toInt = 100000)
    obtain ⟨bar7, bbr7⟩ := zo_b hr7
    refine g_if_ne C 21 dX11_ballot_16 (by decide) (fun c10 => ?_) (fun c10 => ?_)
    ·
      have f11 := fne rfl (by decide : (0 : Int32).toInt = 0) c10
      have pr7 := zo_t hr7 c10
      try dsimp only [hasC, hasB, hasX, hasM, ofS, ofK, bt] at pr7
      refine g_aload_n C 0 dX11_ballot_21 rfl ?_
      refine g_get C (.int (M 258 4)) 4 in_X11_ballot_11 (List.mem_of_getElem? (i := 2) rfl) (by decide) (ce_model ad cs _ _) rfl (by decide) rfl rfl dX11_ballot_22 ?_
      refine g_ni (fun v12 ev12 => ?_)
      have gv12 : v12 = vR M 0 1 := ev12.trans k4
      have tv12 := congrArg Int32.toInt gv12
      obtain ⟨bv12, dv12⟩ := (show rg 0 60 v12 from (by rw [ev12]; exact hI 258 4))
      refine g_bipush C 60 dX11_ballot_25 (by decide) ?_
      refine g_icmp_ne C 33 dX11_ballot_27 (by decide) (fun c13 => ?_) (fun c13 => ?_)
      ·
        have f14 := fne rfl (by decide : (60 : Int32).toInt = 60) c13
        refine g_aload_n C 0 dX11_ballot_33 rfl ?_
        refine g_get C (.ref (ad 261)) 5 in_X11_ballot_11 (List.mem_of_getElem? (i := 3) rfl) (by decide) (ce_model ad cs _ _) rfl (by decide) rfl rfl dX11_ballot_34 ?_
        refine g_aload_n C 0 dX11_ballot_37 rfl ?_
        refine g_get C (.int (M 258 4)) 4 in_X11_ballot_11 (List.mem_of_getElem? (i := 2) rfl) (by decide) (ce_model ad cs _ _) rfl (by decide) rfl rfl dX11_ballot_38 ?_
        refine g_ni (fun v15 ev15 => ?_)
        have gv15 : v15 = vR M 0 1 := ev15.trans k4
        have tv15 := congrArg Int32.toInt gv15
        obtain ⟨bv15, dv15⟩ := (show rg 0 60 v15 from (by rw [ev15]; exact hI 258 4))
        refine g_iload_n C 1 dX11_ballot_41 rfl ?_
        refine g_iast C (by decide) (ce_m_sortOf ad cs _ _) (by rw [sI_k]; rfl) (fin' (n := 60) rfl (by omega) (by omega)) dX11_ballot_42 ?_
        refine g_nm (fun M16 hM16 => ?_)
        have hI : IR M16 := by rw [hM16]; exact hI.st (show bR 261 _ _ from trivial)
        have hF : ∀ k i, ¬ (k = 258 ∧ i = 4) ∧ k ≠ 261 ∧ k ≠ 262 → M16 k i = M k i := fun k i hk => by (rw [hM16, sI_at, if_neg (by omega)]; try exact hF k i hk)
        have k4 : M16 258 4 = vR M 0 1 := by rw [hM16, sI_n _ _ _ (by decide)]; try exact k4
        have q262 : M16 262 = M 262 := by rw [hM16, sI_n _ _ _ (by decide)]; try exact q262
        have hV : vR M16 = sI (vR M) 2 v15.toNatClampNeg x := by rw [hM16, vR_a (c := 2) (by decide), hV]
        refine g_aload_n C 0 dX11_ballot_43 rfl ?_
        refine g_get C (.ref (ad 262)) 6 in_X11_ballot_11 (List.mem_of_getElem? (i := 4) rfl) (by decide) (ce_model ad cs _ _) rfl (by decide) rfl rfl dX11_ballot_44 ?_
        refine g_aload_n C 0 dX11_ballot_47 rfl ?_
        refine g_get C (.int (M16 258 4)) 4 in_X11_ballot_11 (List.mem_of_getElem? (i := 2) rfl) (by decide) (ce_model ad cs _ _) rfl (by decide) rfl rfl dX11_ballot_48 ?_
        refine g_ni (fun v17 ev17 => ?_)
        have gv17 : v17 = vR M 0 1 := ev17.trans k4
        have tv17 := congrArg Int32.toInt gv17
        obtain ⟨bv17, dv17⟩ := (show rg 0 60 v17 from (by rw [ev17]; exact hI 258 4))
        refine g_iload_n C 2 dX11_ballot_51 rfl ?_
        refine g_iast C (by decide) (ce_m_papersOf ad cs _ _) (by rw [sI_k]; rfl) (fin' (n := 60) rfl (by omega) (by omega)) dX11_ballot_52 ?_
        refine g_nm (fun M18 hM18 => ?_)
        have hI : IR M18 := by rw [hM18]; exact hI.st (show bR 262 _ _ from ⟨by first | omega | decide, by first | omega | decide⟩)
        have hF : ∀ k i, ¬ (k = 258 ∧ i = 4) ∧ k ≠ 261 ∧ k ≠ 262 → M18 k i = M k i := fun k i hk => by (rw [hM18, sI_at, if_neg (by omega)]; try exact hF k i hk)
        have k4 : M18 258 4 = vR M 0 1 := by rw [hM18, sI_n _ _ _ (by decide)]; try exact k4
        have hV : vR M18 = sI (sI (vR M) 2 v15.toNatClampNeg x) 3 v17.toNatClampNeg y := by rw [hM18, vR_a (c := 3) (by decide), hV]
        refine g_aload_n C 0 dX11_ballot_53 rfl ?_
        refine g_dup C dX11_ballot_54 rfl ?_
        refine g_get C (.int (M18 258 4)) 4 in_X11_ballot_11 (List.mem_of_getElem? (i := 2) rfl) (by decide) (ce_model ad cs _ _) rfl (by decide) rfl rfl dX11_ballot_55 ?_
        refine g_ni (fun v19 ev19 => ?_)
        have gv19 : v19 = vR M 0 1 := ev19.trans k4
        have tv19 := congrArg Int32.toInt gv19
        obtain ⟨bv19, dv19⟩ := (show rg 0 60 v19 from (by rw [ev19]; exact hI 258 4))
        refine g_iconst C 1 dX11_ballot_58 (by decide) ?_
        refine g_iadd C dX11_ballot_59 ?_
        refine g_ni (fun v20 ev20 => ?_)
        try have fv20 := fadd rfl (by decide : (1 : Int32).toInt = 1) ev20 (by omega) (by omega)
        refine g_putI C 4 in_X11_ballot_11 (List.mem_of_getElem? (i := 2) rfl) (by decide) (ce_model ad cs _ _) rfl (by decide) rfl tyX11 tyX11_ok nmX11 rfl rfl rfl rfl (Nat.le_of_ble_eq_true rfl) (by rw [sI_k]; rfl) dX11_ballot_60 ?_
        refine g_nm (fun M21 hM21 => ?_)
        have hI : IR M21 := by rw [hM21]; exact hI.st (show bR 258 4 _ from ⟨by first | omega | decide, by first | omega | decide⟩)
        have hF : ∀ k i, ¬ (k = 258 ∧ i = 4) ∧ k ≠ 261 ∧ k ≠ 262 → M21 k i = M k i := fun k i hk => by (rw [hM21, sI_at, if_neg (by omega)]; try exact hF k i hk)
        have k4 : M21 258 4 = v20 := by rw [hM21, sI_at, if_pos (by decide)]
        have hV : vR M21 = sI (sI (sI (vR M) 2 v15.toNatClampNeg x) 3 v17.toNatClampNeg y) 0 1 v20 := by rw [hM21, vR_s (c := 1) (by decide), hV]
        refine g_aload_n C 0 dX11_ballot_63 rfl ?_
        refine g_get C (.int (M21 258 4)) 4 in_X11_ballot_11 (List.mem_of_getElem? (i := 2) rfl) (by decide) (ce_model ad cs _ _) rfl (by decide) rfl rfl dX11_ballot_64 ?_
        refine g_ni (fun v22 ev22 => ?_)
        have gv22 : v22 = v20 := ev22.trans k4
        have tv22 := congrArg Int32.toInt gv22
        obtain ⟨bv22, dv22⟩ := (show rg 0 60 v22 from (by rw [ev22]; exact hI 258 4))
        refine g_iconst C 1 dX11_ballot_67 (by decide) ?_
        refine g_isub C dX11_ballot_68 ?_
        refine g_ni (fun v23 ev23 => ?_)
        try have fv23 := fsub rfl (by decide : (1 : Int32).toInt = 1) ev23 (by omega) (by omega)
        exact g_iret C hr ⟨(by dsimp only [A_ballot, hasC, hasB, hasX, hasM, ofS, ofK, bt, ix]; (repeat (first | rw [if_pos (by omega)] | rw [if_neg (by omega)])); rw [hV]; first | done | rfl | (simp only [ev23, gv22, ev20, gv19, gv17, gv15, gv12]; done) | (simp only [ev23, gv22, ev20, gv19, gv17, gv15, gv12]; rfl) | (subst_vars; first | rfl | grind)), hI, hF, hG⟩ dX11_ballot_69
      ·
        have f24 := feq rfl (by decide : (60 : Int32).toInt = 60) c13
        refine g_bipush C (-2) dX11_ballot_30 (by decide) ?_
        have zr9 : ((-2) : Int32).toInt = (-2) := by decide
        exact g_iret C hr ⟨(by dsimp only [A_ballot, hasC, hasB, hasX, hasM, ofS, ofK, bt, ix]; (repeat (first | rw [if_pos (by omega)] | rw [if_neg (by omega)])); first | done | rfl | (simp only [gv12]; done) | (simp only [gv12]; rfl) | (subst_vars; first | rfl | grind)), hI, hF, hG⟩ dX11_ballot_32
    ·
      have f25 := feq rfl (by decide : (0 : Int32).toInt = 0) c10
      have pr7 := zo_f hr7 c10
      try dsimp only [hasC, hasB, hasX, hasM, ofS, ofK, bt] at pr7
      refine g_iconst C (-1) dX11_ballot_19 (by decide) ?_
      have zr9 : ((-1) : Int32).toInt = (-1) := by decide
      exact g_iret C hr ⟨(by dsimp only [A_ballot, hasC, hasB, hasX, hasM, ofS, ofK, bt, ix]; (repeat (first | rw [if_pos (by omega)] | rw [if_neg (by omega)])); first | done | rfl | (simp only [ix]; done) | (simp only [ix]; rfl) | (subst_vars; first | rfl | grind)), hI, hF, hG⟩ dX11_ballot_20
theorem dX11_score_0 : decode cX11_score 0 = .ok (.aload_n 0, 1) := dw42 (n := 0) (i := 0) kc_cX11_score_0 (by decide +kernel)
theorem dX11_score_1 : decode cX11_score 1 = .ok (.iload_n 1, 1) := dw27 (n := 0) (i := 1) kc_cX11_score_0 (by decide +kernel)
theorem dX11_score_2 : decode cX11_score 2 = .ok (.invokevirtual 148, 3) := dw182 (n := 0) (i := 2) (a := 0) (b := 148) kc_cX11_score_0 (by decide +kernel) (by decide)
set_option maxRecDepth 20000 in
theorem ggX11_score_X11_isBallot : GoodIn wsX11_score wsX11_isBallot := (gk_code 7 rfl (gk_fieldLink 8 rfl (gk_methodLink 9 rfl (gk_static 10 rfl (gk_initialized 6 rfl (gk_code 11 rfl (gk_lays 23 rfl (gk_laysFinal 24 rfl (gk_lays 25 rfl (gk_laysFinal 26 rfl (gk_lays 27 rfl (gk_laysFinal 28 rfl (gk_laysFinal 29 rfl (gk_laysFinal 30 rfl (gk_laysFinal 31 rfl (gk_lays 32 rfl (gk_laysFinal 33 rfl (gk_laysFinal 34 rfl (gk_laysFinal 35 rfl (gk_laysFinal 36 rfl (gk_lays 37 rfl (gk_laysFinal 38 rfl (gk_laysFinal 39 rfl (gk_laysFinal 40 rfl (gk_laysFinal 41 rfl (gk_laysFinal 42 rfl (gk_laysFinal 43 rfl (gk_laysFinal 44 rfl (gk_laysFinal 45 rfl (gk_lays 46 rfl (gk_lays 47 rfl (gk_lays 48 rfl (gk_lays 49 rfl (gk_lays 50 rfl (gk_lays 51 rfl (gk_lays 52 rfl (gk_laysFinal 53 rfl (gk_lays 54 rfl (gk_laysFinal 55 rfl (gk_laysFinal 56 rfl (gk_laysFinal 57 rfl (gk_laysFinal 58 rfl (gk_laysFinal 59 rfl (gk_laysFinal 60 rfl (gk_laysFinal 61 rfl (gk_laysFinal 62 rfl (gk_laysFinal 63 rfl (gk_laysFinal 64 rfl (gk_lays 65 rfl (gk_laysFinal 66 rfl (gk_lays 67 rfl (gk_laysFinal 68 rfl (gk_laysFinal 69 rfl (gk_laysFinal 70 rfl (gk_laysFinal 71 rfl (gk_laysFinal 72 rfl (gk_laysFinal 73 rfl (gk_laysFinal 74 rfl (gk_laysFinal 75 rfl (gn))))))))))))))))))))))))))))))))))))))))))))))))))))))))))))
set_option maxRecDepth 20000 in
theorem gX11_score_X11_isBallot : GoodIn wsX11_score (wsV RX11 148 RX11 yX11_isBallot wsX11_isBallot) := goodIn_app (gk_methodLink 3 rfl (gk_instanceMethod 4 rfl (gk_selects 5 rfl (gk_initialized 6 rfl (gn))))) ggX11_score_X11_isBallot
theorem dX11_score_5 : decode cX11_score 5 = .ok (.ifCond .eq 21, 3) := dw153 (n := 0) (i := 5) (a := 0) (b := 21) kc_cX11_score_0 (by decide +kernel) (by decide)
theorem dX11_score_26 : decode cX11_score 26 = .ok (.iconst (-1), 1) := dw2 (n := 0) (i := 26) kc_cX11_score_0 (by decide +kernel)
theorem dX11_score_27 : decode cX11_score 27 = .ok (.ireturn, 1) := dw172 (n := 0) (i := 27) kc_cX11_score_0 (by decide +kernel)
theorem dX11_score_8 : decode cX11_score 8 = .ok (.aload_n 0, 1) := dw42 (n := 0) (i := 8) kc_cX11_score_0 (by decide +kernel)
theorem dX11_score_9 : decode cX11_score 9 = .ok (.iload_n 2, 1) := dw28 (n := 0) (i := 9) kc_cX11_score_0 (by decide +kernel)
theorem dX11_score_10 : decode cX11_score 10 = .ok (.invokevirtual 140, 3) := dw182 (n := 0) (i := 10) (a := 0) (b := 140) kc_cX11_score_0 (by decide +kernel) (by decide)
set_option maxRecDepth 20000 in
theorem ggX11_score_X11_isCandidate : GoodIn wsX11_score wsX11_isCandidate := (gk_code 15 rfl (gk_fieldLink 16 rfl (gk_methodLink 9 rfl (gk_static 10 rfl (gk_initialized 6 rfl (gk_code 11 rfl (gk_lays 23 rfl (gk_laysFinal 24 rfl (gk_lays 25 rfl (gk_laysFinal 26 rfl (gk_lays 27 rfl (gk_laysFinal 28 rfl (gk_laysFinal 29 rfl (gk_laysFinal 30 rfl (gk_laysFinal 31 rfl (gk_lays 32 rfl (gk_laysFinal 33 rfl (gk_laysFinal 34 rfl (gk_laysFinal 35 rfl (gk_laysFinal 36 rfl (gk_lays 37 rfl (gk_laysFinal 38 rfl (gk_laysFinal 39 rfl (gk_laysFinal 40 rfl (gk_laysFinal 41 rfl (gk_laysFinal 42 rfl (gk_laysFinal 43 rfl (gk_laysFinal 44 rfl (gk_laysFinal 45 rfl (gk_lays 46 rfl (gk_lays 47 rfl (gk_lays 48 rfl (gk_lays 49 rfl (gk_lays 50 rfl (gk_lays 51 rfl (gk_lays 52 rfl (gk_laysFinal 53 rfl (gk_lays 54 rfl (gk_laysFinal 55 rfl (gk_laysFinal 56 rfl (gk_laysFinal 57 rfl (gk_laysFinal 58 rfl (gk_laysFinal 59 rfl (gk_laysFinal 60 rfl (gk_laysFinal 61 rfl (gk_laysFinal 62 rfl (gk_laysFinal 63 rfl (gk_laysFinal 64 rfl (gk_lays 65 rfl (gk_laysFinal 66 rfl (gk_lays 67 rfl (gk_laysFinal 68 rfl (gk_laysFinal 69 rfl (gk_laysFinal 70 rfl (gk_laysFinal 71 rfl (gk_laysFinal 72 rfl (gk_laysFinal 73 rfl (gk_laysFinal 74 rfl (gk_laysFinal 75 rfl (gn))))))))))))))))))))))))))))))))))))))))))))))))))))))))))))
set_option maxRecDepth 20000 in
theorem gX11_score_X11_isCandidate : GoodIn wsX11_score (wsV RX11 140 RX11 yX11_isCandidate wsX11_isCandidate) := goodIn_app (gk_methodLink 12 rfl (gk_instanceMethod 13 rfl (gk_selects 14 rfl (gk_initialized 6 rfl (gn))))) ggX11_score_X11_isCandidate
theorem dX11_score_13 : decode cX11_score 13 = .ok (.ifCond .eq 13, 3) := dw153 (n := 0) (i := 13) (a := 0) (b := 13) kc_cX11_score_0 (by decide +kernel) (by decide)
theorem dX11_score_16 : decode cX11_score 16 = .ok (.iload_n 3, 1) := dw29 (n := 0) (i := 16) kc_cX11_score_0 (by decide +kernel)
theorem dX11_score_17 : decode cX11_score 17 = .ok (.iconst 0, 1) := dw3 (n := 0) (i := 17) kc_cX11_score_0 (by decide +kernel)
theorem dX11_score_18 : decode cX11_score 18 = .ok (.bipush 9, 2) := dw16 (n := 0) (i := 18) (a := 9) kc_cX11_score_0 (by decide +kernel) (by decide)
theorem dX11_score_20 : decode cX11_score 20 = .ok (.invokestatic 133, 3) := dw184 (n := 0) (i := 20) (a := 0) (b := 133) kc_cX11_score_0 (by decide +kernel) (by decide)
set_option maxRecDepth 20000 in
theorem ggX11_score_X11_in : GoodIn wsX11_score wsX11_in := (gk_code 11 rfl (gn))
set_option maxRecDepth 20000 in
theorem gX11_score_X11_in : GoodIn wsX11_score (va_wsS RX11 133 yX11_in wsX11_in) := goodIn_app (gk_methodLink 9 rfl (gk_static 10 rfl (gk_initialized 6 rfl (gn)))) ggX11_score_X11_in
theorem dX11_score_23 : decode cX11_score 23 = .ok (.ifCond .ne 5, 3) := dw154 (n := 0) (i := 23) (a := 0) (b := 5) kc_cX11_score_0 (by decide +kernel) (by decide)
theorem dX11_score_28 : decode cX11_score 28 = .ok (.aload_n 0, 1) := dw42 (n := 0) (i := 28) kc_cX11_score_0 (by decide +kernel)
theorem dX11_score_29 : decode cX11_score 29 = .ok (.getfield 16, 3) := dw180 (n := 0) (i := 29) (a := 0) (b := 16) kc_cX11_score_0 (by decide +kernel) (by decide)
theorem in_X11_score_11 : ∀ w ∈ u_ws RX11 TX11 53, w ∈ wsX11_score := fun _ h => List.mem_cons_of_mem _ (List.mem_append_right _ h)
theorem dX11_score_32 : decode cX11_score 32 = .ok (.iload_n 1, 1) := dw27 (n := 32) (i := 0) kc_cX11_score_1 (by decide +kernel)
theorem dX11_score_33 : decode cX11_score 33 = .ok (.iaload, 1) := dw46 (n := 32) (i := 1) kc_cX11_score_1 (by decide +kernel)
theorem dX11_score_34 : decode cX11_score 34 = .ok (.iconst 3, 1) := dw6 (n := 32) (i := 2) kc_cX11_score_1 (by decide +kernel)
theorem dX11_score_35 : decode cX11_score 35 = .ok (.if_icmp .eq 9, 3) := dw159 (n := 32) (i := 3) (a := 0) (b := 9) kc_cX11_score_1 (by decide +kernel) (by decide)
theorem dX11_score_44 : decode cX11_score 44 = .ok (.aload_n 0, 1) := dw42 (n := 32) (i := 12) kc_cX11_score_1 (by decide +kernel)
theorem dX11_score_45 : decode cX11_score 45 = .ok (.getfield 25, 3) := dw180 (n := 32) (i := 13) (a := 0) (b := 25) kc_cX11_score_1 (by decide +kernel) (by decide)
theorem dX11_score_48 : decode cX11_score 48 = .ok (.bipush 10, 2) := dw16 (n := 32) (i := 16) (a := 10) kc_cX11_score_1 (by decide +kernel) (by decide)
theorem dX11_score_50 : decode cX11_score 50 = .ok (.iload_n 1, 1) := dw27 (n := 32) (i := 18) kc_cX11_score_1 (by decide +kernel)
theorem dX11_score_51 : decode cX11_score 51 = .ok (.imul, 1) := dw104 (n := 32) (i := 19) kc_cX11_score_1 (by decide +kernel)
theorem dX11_score_52 : decode cX11_score 52 = .ok (.iload_n 2, 1) := dw28 (n := 32) (i := 20) kc_cX11_score_1 (by decide +kernel)
theorem dX11_score_53 : decode cX11_score 53 = .ok (.iadd, 1) := dw96 (n := 32) (i := 21) kc_cX11_score_1 (by decide +kernel)
theorem dX11_score_54 : decode cX11_score 54 = .ok (.iaload, 1) := dw46 (n := 32) (i := 22) kc_cX11_score_1 (by decide +kernel)
theorem dX11_score_55 : decode cX11_score 55 = .ok (.istore 4, 2) := dw54 (n := 32) (i := 23) (a := 4) kc_cX11_score_1 (by decide +kernel) (by decide)
theorem dX11_score_57 : decode cX11_score 57 = .ok (.aload_n 0, 1) := dw42 (n := 32) (i := 25) kc_cX11_score_1 (by decide +kernel)
theorem dX11_score_58 : decode cX11_score 58 = .ok (.getfield 25, 3) := dw180 (n := 32) (i := 26) (a := 0) (b := 25) kc_cX11_score_1 (by decide +kernel) (by decide)
theorem dX11_score_61 : decode cX11_score 61 = .ok (.bipush 10, 2) := dw16 (n := 32) (i := 29) (a := 10) kc_cX11_score_1 (by decide +kernel) (by decide)
theorem dX11_score_63 : decode cX11_score 63 = .ok (.iload_n 1, 1) := dw27 (n := 32) (i := 31) kc_cX11_score_1 (by decide +kernel)
theorem dX11_score_64 : decode cX11_score 64 = .ok (.imul, 1) := dw104 (n := 64) (i := 0) kc_cX11_score_2 (by decide +kernel)
theorem dX11_score_65 : decode cX11_score 65 = .ok (.iload_n 2, 1) := dw28 (n := 64) (i := 1) kc_cX11_score_2 (by decide +kernel)
theorem dX11_score_66 : decode cX11_score 66 = .ok (.iadd, 1) := dw96 (n := 64) (i := 2) kc_cX11_score_2 (by decide +kernel)
theorem dX11_score_67 : decode cX11_score 67 = .ok (.iload_n 3, 1) := dw29 (n := 64) (i := 3) kc_cX11_score_2 (by decide +kernel)
theorem dX11_score_68 : decode cX11_score 68 = .ok (.iastore, 1) := dw79 (n := 64) (i := 4) kc_cX11_score_2 (by decide +kernel)
theorem dX11_score_69 : decode cX11_score 69 = .ok (.iload 4, 2) := dw21 (n := 64) (i := 5) (a := 4) kc_cX11_score_2 (by decide +kernel) (by decide)
theorem dX11_score_71 : decode cX11_score 71 = .ok (.ireturn, 1) := dw172 (n := 64) (i := 7) kc_cX11_score_2 (by decide +kernel)
theorem dX11_score_38 : decode cX11_score 38 = .ok (.aload_n 0, 1) := dw42 (n := 32) (i := 6) kc_cX11_score_1 (by decide +kernel)
theorem dX11_score_39 : decode cX11_score 39 = .ok (.iconst 3, 1) := dw6 (n := 32) (i := 7) kc_cX11_score_1 (by decide +kernel)
theorem dX11_score_40 : decode cX11_score 40 = .ok (.invokevirtual 155, 3) := dw182 (n := 32) (i := 8) (a := 0) (b := 155) kc_cX11_score_1 (by decide +kernel) (by decide)
set_option maxRecDepth 20000 in
theorem ggX11_score_X11_meets : GoodIn wsX11_score wsX11_meets := (gk_code 20 rfl (gk_fieldLink 21 rfl (gk_fieldLink 22 rfl (gk_lays 23 rfl (gk_laysFinal 24 rfl (gk_lays 25 rfl (gk_laysFinal 26 rfl (gk_lays 27 rfl (gk_laysFinal 28 rfl (gk_laysFinal 29 rfl (gk_laysFinal 30 rfl (gk_laysFinal 31 rfl (gk_lays 32 rfl (gk_laysFinal 33 rfl (gk_laysFinal 34 rfl (gk_laysFinal 35 rfl (gk_laysFinal 36 rfl (gk_lays 37 rfl (gk_laysFinal 38 rfl (gk_laysFinal 39 rfl (gk_laysFinal 40 rfl (gk_laysFinal 41 rfl (gk_laysFinal 42 rfl (gk_laysFinal 43 rfl (gk_laysFinal 44 rfl (gk_laysFinal 45 rfl (gk_lays 46 rfl (gk_lays 47 rfl (gk_lays 48 rfl (gk_lays 49 rfl (gk_lays 50 rfl (gk_lays 51 rfl (gk_lays 52 rfl (gk_laysFinal 53 rfl (gk_lays 54 rfl (gk_laysFinal 55 rfl (gk_laysFinal 56 rfl (gk_laysFinal 57 rfl (gk_laysFinal 58 rfl (gk_laysFinal 59 rfl (gk_laysFinal 60 rfl (gk_laysFinal 61 rfl (gk_laysFinal 62 rfl (gk_laysFinal 63 rfl (gk_laysFinal 64 rfl (gk_lays 65 rfl (gk_laysFinal 66 rfl (gk_lays 67 rfl (gk_laysFinal 68 rfl (gk_laysFinal 69 rfl (gk_laysFinal 70 rfl (gk_laysFinal 71 rfl (gk_laysFinal 72 rfl (gk_laysFinal 73 rfl (gk_laysFinal 74 rfl (gk_laysFinal 75 rfl (gn)))))))))))))))))))))))))))))))))))))))))))))))))))))))))
set_option maxRecDepth 20000 in
theorem gX11_score_X11_meets : GoodIn wsX11_score (wsV RX11 155 RX11 yX11_meets wsX11_meets) := goodIn_app (gk_methodLink 17 rfl (gk_instanceMethod 18 rfl (gk_selects 19 rfl (gk_initialized 6 rfl (gn))))) ggX11_score_X11_meets
theorem dX11_score_43 : decode cX11_score 43 = .ok (.ireturn, 1) := dw172 (n := 32) (i := 11) kc_cX11_score_1 (by decide +kernel)
set_option maxHeartbeats 4000000 in
set_option maxRecDepth 100000 in
theorem s_X11_score (l : Launch) (D : va_G) (ad : Nat → Nat) (cs : Nat → ClassId) (M : MI) (L : ML) (b : Int32) (x : Int32) (y : Int32) (hI : IR M) : Ci l yX11_score wsX11_score ({ frames := 2, cells := 0, slots := 0, locals := 43 }) D ad cs [.ref (ad 258), .int b, .int x, .int y] M L (fun r M1 L1 => (A_score (vR M) b x y = (r, vR M1)) ∧ IR M1 ∧ (∀ k i, ¬ (k = 258 ∧ i = 0) ∧ k ≠ 259 ∧ k ≠ 264 → M1 k i = M k i) ∧ ∀ k i, True → L1 k i = L k i) := by
  refine enter_i RX11 rfl [(0, .ref (ad 258)), (1, .int b), (2, .int x), (3, .int y)] rfl (Nat.le_of_ble_eq_true rfl) (by decide +kernel) rfl ?_
  intro p e s m below meth c C hr
  have hF : ∀ k i, ¬ (k = 258 ∧ i = 0) ∧ k ≠ 259 ∧ k ≠ 264 → M k i = M k i := fun _ _ _ => rfl
  have hG : ∀ k i, True → L k i = L k i := fun _ _ _ => rfl
  have w0 : (vR M 0 0).toInt = (M 258 2).toInt := rfl
  have w1 : (vR M 0 1).toInt = (M 258 4).toInt := rfl
  have w2 : (vR M 0 2).toInt = (M 258 9).toInt := rfl
  have w3 : (vR M 0 3).toInt = (M 258 14).toInt := rfl
  obtain ⟨y0a, y0b⟩ := (show rg 0 10 (M 258 2) from hI 258 2)
  obtain ⟨y1a, y1b⟩ := (show rg 0 60 (M 258 4) from hI 258 4)
  obtain ⟨y2a, y2b⟩ := (show rg 0 8 (M 258 9) from hI 258 9)
  obtain ⟨y3a, y3b⟩ := (show rg 0 20 (M 258 14) from hI 258 14)
  have k0 : M 258 0 = vR M 0 4 := rfl
  have q259 : M 259 = M 259 := rfl
  have q264 : M 264 = M 264 := rfl
  have hV : vR M = vR M := rfl
  refine g_aload_n C 0 dX11_score_0 rfl ?_
  refine g_iload_n C 1 dX11_score_1 rfl ?_
  refine g_callVi C (n := 1) (As := [.int b]) (st := []) (s_X11_isBallot l D ad cs _ _ b hI ) gX11_score_X11_isBallot rfl rfl rfl (by decide +kernel) ⟨Nat.le_of_ble_eq_true rfl, Nat.le_of_ble_eq_true rfl⟩ rfl (Nat.le_of_ble_eq_true rfl) ⟨Nat.zero_le _, Nat.zero_le _⟩ (by decide) (ce_model ad cs _ _) rfl rfl dX11_score_2 (fun r1 M2 L3 hr1 => ?_)
  obtain ⟨hq1, hq2, hr1⟩ := hr1
  obtain rfl := hq1.symm
  obtain rfl := hq2.symm
  obtain ⟨bar1, bbr1⟩ := zo_b hr1
  refine g_if_eq C 26 dX11_score_5 (by decide) (fun c4 => ?_) (fun c4 => ?_)
  ·
    have f5 := feq rfl (by decide : (0 : Int32).toInt = 0) c4
    have pr1 := zo_f hr1 c4
    try dsimp only [hasC, hasB, hasX, hasM, ofS, ofK, bt] at pr1
    refine g_iconst C (-1) dX11_score_26 (by decide) ?_
    have zr9 : ((-1) : Int32).toInt = (-1) := by decide
    exact g_iret C hr ⟨(by dsimp only [A_score, hasC, hasB, hasX, hasM, ofS, ofK, bt, ix]; (repeat (first | rw [if_pos (by omega)] | rw [if_neg (by omega)])); first | done | rfl | (simp only [ix]; done) | (simp only [ix]; rfl) | (subst_vars; first | rfl | grind)), hI, hF, hG⟩ dX11_score_27
  ·
    have f6 := fne rfl (by decide : (0 : Int32).toInt = 0) c4
    have pr1 := zo_t hr1 c4
    try dsimp only [hasC, hasB, hasX, hasM, ofS, ofK, bt] at pr1
    refine g_aload_n C 0 dX11_score_8 rfl ?_
    refine g_iload_n C 2 dX11_score_9 rfl ?_
    refine g_callVi C (n := 1) (As := [.int x]) (st := []) (s_X11_isCandidate l D ad cs _ _ x hI ) gX11_score_X11_isCandidate rfl rfl rfl (by decide +kernel) ⟨Nat.le_of_ble_eq_true rfl, Nat.le_of_ble_eq_true rfl⟩ rfl (Nat.le_of_ble_eq_true rfl) ⟨Nat.zero_le _, Nat.zero_le _⟩ (by decide) (ce_model ad cs _ _) rfl rfl dX11_score_10 (fun r7 M8 L9 hr7 => ?_)
    obtain ⟨hq1, hq2, hr7⟩ := hr7
    obtain rfl := hq1.symm
    obtain rfl := hq2.symm
    obtain ⟨bar7, bbr7⟩ := zo_b hr7
    refine g_if_eq C 26 dX11_score_13 (by decide) (fun c10 => ?_) (fun c10 => ?_)
    ·
      have f11 := feq rfl (by decide : (0 : Int32).toInt = 0) c10
      have pr7 := zo_f hr7 c10
      try dsimp only [hasC, hasB, hasX, hasM, ofS, ofK, bt] at pr7
      refine g_iconst C (-1) dX11_score_26 (by decide) ?_
      have zr9 : ((-1) : Int32).toInt = (-1) := by decide
      exact g_iret C hr ⟨(by dsimp only [A_score, hasC, hasB, hasX, hasM, ofS, ofK, bt, ix]; (repeat (first | rw [if_pos (by omega)] | rw [if_neg (by omega)])); first | done | rfl | (simp only [ix]; done) | (simp only [ix]; rfl) | (subst_vars; first | rfl | grind)), hI, hF, hG⟩ dX11_score_27
    ·
      have f12 := fne rfl (by decide : (0 : Int32).toInt = 0) c10
      have pr7 := zo_t hr7 c10
      try dsimp only [hasC, hasB, hasX, hasM, ofS, ofK, bt] at pr7
      refine g_iload_n C 3 dX11_score_16 rfl ?_
      refine g_iconst C 0 dX11_score_17 (by decide) ?_
      refine g_bipush C 9 dX11_score_18 (by decide) ?_
      refine g_callSi C (n := 3) (As := [.int y, .int 0, .int 9]) (st := []) (c_X11_in l D ad cs _ _ y 0 9 ) gX11_score_X11_in rfl rfl rfl (by decide +kernel) ⟨Nat.le_of_ble_eq_true rfl, Nat.le_of_ble_eq_true rfl⟩ rfl (Nat.le_of_ble_eq_true rfl) ⟨Nat.zero_le _, Nat.zero_le _⟩ rfl dX11_score_20 (fun r13 M14 L15 hr13 => ?_)
      obtain ⟨hq1, hq2, hr13⟩ := hr13
      obtain rfl := hq1.symm
      obtain rfl := hq2.symm
      have hr13 := zo_in hr13 (by decide : (0 : Int32).toInt = 0) (by decide : (9 : Int32).toInt = 9)
      obtain ⟨bar13, bbr13⟩ := zo_b hr13
      refine g_if_ne C 28 dX11_score_23 (by decide) (fun c16 => ?_) (fun c16 => ?_)
      ·
        have f17 := fne rfl (by decide : (0 : Int32).toInt = 0) c16
        have pr13 := zo_t hr13 c16
        try dsimp only [hasC, hasB, hasX, hasM, ofS, ofK, bt] at pr13
        refine g_aload_n C 0 dX11_score_28 rfl ?_
        refine g_get C (.ref (ad 261)) 5 in_X11_score_11 (List.mem_of_getElem? (i := 1) rfl) (by decide) (ce_model ad cs _ _) rfl (by decide) rfl rfl dX11_score_29 ?_
        refine g_iload_n C 1 dX11_score_32 rfl ?_
        refine g_iald C (by decide) (ce_m_sortOf ad cs _ _) (fin' (n := 60) rfl (by omega) (by omega)) dX11_score_33 ?_
        refine g_ni (fun v18 ev18 => ?_)
        have gv18 : v18 = vR M 2 b.toNatClampNeg := ev18
        have tv18 := congrArg Int32.toInt gv18
        refine g_iconst C 3 dX11_score_34 (by decide) ?_
        refine g_icmp_eq C 44 dX11_score_35 (by decide) (fun c19 => ?_) (fun c19 => ?_)
        ·
          have f20 := feq rfl (by decide : (3 : Int32).toInt = 3) c19
          refine g_aload_n C 0 dX11_score_44 rfl ?_
          refine g_get C (.ref (ad 264)) 8 in_X11_score_11 (List.mem_of_getElem? (i := 2) rfl) (by decide) (ce_model ad cs _ _) rfl (by decide) rfl rfl dX11_score_45 ?_
          refine g_bipush C 10 dX11_score_48 (by decide) ?_
          refine g_iload_n C 1 dX11_score_50 rfl ?_
          refine g_imul C dX11_score_51 ?_
          refine g_ni (fun v21 ev21 => ?_)
          try have fv21 := fmul (by decide : (10 : Int32).toInt = 10) rfl ev21 (by omega) (by omega)
          refine g_iload_n C 2 dX11_score_52 rfl ?_
          refine g_iadd C dX11_score_53 ?_
          refine g_ni (fun v22 ev22 => ?_)
          try have fv22 := fadd rfl rfl ev22 (by omega) (by omega)
          refine g_iald C (by decide) (ce_m_marks ad cs _ _) (fin' (n := 600) rfl (by omega) (by omega)) dX11_score_54 ?_
          have nb := ixn (x := b) (by omega)
          have nx := ixn (x := x) (by omega)
          have nv22 := ixn (x := v22) (by omega)
          have iv22 : v22.toNatClampNeg = 10 * b.toNatClampNeg + x.toNatClampNeg := by omega
          refine g_ni (fun v23 ev23 => ?_)
          have gv23 : v23 = vR M 5 v22.toNatClampNeg := ev23.trans (congrFun q264 _)
          have gv23 := cg1 (f := vR M 5) gv23 iv22
          have tv23 := congrArg Int32.toInt gv23
          obtain ⟨bv23, dv23⟩ := (show rg 0 9 v23 from (by rw [ev23]; exact hI 264 v22.toNatClampNeg))
          refine g_istore C [(4, .int v23), (0, .ref (ad 258)), (1, .int b), (2, .int x), (3, .int y)] dX11_score_55 (by decide) rfl ?_
          refine g_aload_n C 1 dX11_score_57 rfl ?_
          refine g_get C (.ref (ad 264)) 8 in_X11_score_11 (List.mem_of_getElem? (i := 2) rfl) (by decide) (ce_model ad cs _ _) rfl (by decide) rfl rfl dX11_score_58 ?_
          refine g_bipush C 10 dX11_score_61 (by decide) ?_
          refine g_iload_n C 2 dX11_score_63 rfl ?_
          refine g_imul C dX11_score_64 ?_
          refine g_ni (fun v24 ev24 => ?_)
          try have fv24 := fmul (by decide : (10 : Int32).toInt = 10) rfl ev24 (by omega) (by omega)
          refine g_iload_n C 3 dX11_score_65 rfl ?_
          refine g_iadd C dX11_score_66 ?_
          refine g_ni (fun v25 ev25 => ?_)
          try have fv25 := fadd rfl rfl ev25 (by omega) (by omega)
          refine g_iload_n C 4 dX11_score_67 rfl ?_
          refine g_iast C (by decide) (ce_m_marks ad cs _ _) (by rw [sI_k]; rfl) (fin' (n := 600) rfl (by omega) (by omega)) dX11_score_68 ?_
          have nb := ixn (x := b) (by omega)
          have nx := ixn (x := x) (by omega)
          have nv25 := ixn (x := v25) (by omega)
          have iv25 : v25.toNatClampNeg = 10 * b.toNatClampNeg + x.toNatClampNeg := by omega
          refine g_nm (fun M26 hM26 => ?_)
          have hI : IR M26 := by rw [hM26]; exact hI.st (show bR 264 _ _ from ⟨by first | omega | decide, by first | omega | decide⟩)
          have hF : ∀ k i, ¬ (k = 258 ∧ i = 0) ∧ k ≠ 259 ∧ k ≠ 264 → M26 k i = M k i := fun k i hk => by (rw [hM26, sI_at, if_neg (by omega)]; try exact hF k i hk)
          have k0 : M26 258 0 = vR M 0 4 := by rw [hM26, sI_n _ _ _ (by decide)]; try exact k0
          have q259 : M26 259 = M 259 := by rw [hM26, sI_n _ _ _ (by decide)]; try exact q259
          have hV : vR M26 = sI (vR M) 5 v25.toNatClampNeg y := by rw [hM26, vR_a (c := 5) (by decide), hV]
          have hV : vR M26 = sI (vR M) 5 (10 * b.toNatClampNeg + x.toNatClampNeg) y := sge hV iv25
          refine g_iload C 0 dX11_score_69 rfl ?_
          exact g_iret C hr ⟨(by dsimp only [A_score, hasC, hasB, hasX, hasM, ofS, ofK, bt, ix]; (repeat (first | rw [if_pos (by omega)] | rw [if_neg (by omega)])); rw [hV]; first | done | rfl | (simp only [ev25, ev24, gv23, ev22, ev21, gv18]; done) | (simp only [ev25, ev24, gv23, ev22, ev21, gv18]; rfl) | (subst_vars; first | rfl | grind)), hI, hF, hG⟩ dX11_score_71
        ·
          have f27 := fne rfl (by decide : (3 : Int32).toInt = 3) c19
          refine g_aload_n C 0 dX11_score_38 rfl ?_
          refine g_iconst C 3 dX11_score_39 (by decide) ?_
          refine g_callVi C (n := 1) (As := [.int 3]) (st := []) (s_X11_meets l D ad cs _ _ 3 hI ⟨by first | omega | decide, by first | omega | decide⟩) gX11_score_X11_meets rfl rfl rfl (by decide +kernel) ⟨Nat.le_of_ble_eq_true rfl, Nat.le_of_ble_eq_true rfl⟩ rfl (Nat.le_of_ble_eq_true rfl) ⟨Nat.zero_le _, Nat.zero_le _⟩ (by decide) (ce_model ad cs _ _) rfl rfl dX11_score_40 (fun r28 M29 L30 hr28 => ?_)
          obtain ⟨hr28, hI, hFr28, hGr28⟩ := hr28
          have hF : ∀ k i, ¬ (k = 258 ∧ i = 0) ∧ k ≠ 259 ∧ k ≠ 264 → M29 k i = M k i := fun k i hk => by (rw [hFr28 k i (by omega)]; try exact hF k i hk)
          have hG : ∀ k i, True → L30 k i = L k i := fun k i hk => by (rw [hGr28 k i trivial]; try exact hG k i hk)
          have hV : vR M29 = meetsV (vR M) 3 := by rw [hr28.2, hV]
          have k0 : M29 258 0 = M29 258 0 := rfl
          have q259 : M29 259 = M29 259 := rfl
          have q264 : M29 264 = M 264 := (funext (fun i => hFr28 264 i (by omega))).trans q264
          exact g_iret C hr ⟨(by dsimp only [A_score, hasC, hasB, hasX, hasM, ofS, ofK, bt, ix]; (repeat (first | rw [if_pos (by omega)] | rw [if_neg (by omega)])); rw [hV]; first | done | rfl | (simp only [gv18]; done) | (simp only [gv18]; rfl) | (subst_vars; first | rfl | grind)), hI, hF, hG⟩ dX11_score_43
      ·
        have f31 := feq rfl (by decide : (0 : Int32).toInt = 0) c16
        have pr13 := zo_f hr13 c16
        try dsimp only [hasC, hasB, hasX, hasM, ofS, ofK, bt] at pr13
        refine g_iconst C (-1) dX11_score_26 (by decide) ?_
        have zr9 : ((-1) : Int32).toInt = (-1) := by decide
        exact g_iret C hr ⟨(by dsimp only [A_score, hasC, hasB, hasX, hasM, ofS, ofK, bt, ix]; (repeat (first | rw [if_pos (by omega)] | rw [if_neg (by omega)])); first | done | rfl | (simp only [ix]; done) | (simp only [ix]; rfl) | (subst_vars; first | rfl | grind)), hI, hF, hG⟩ dX11_score_27
theorem dX11_is_0 : decode cX11_is 0 = .ok (.aload_n 0, 1) := dw42 (n := 0) (i := 0) kc_cX11_is_0 (by decide +kernel)
theorem dX11_is_1 : decode cX11_is 1 = .ok (.iload_n 1, 1) := dw27 (n := 0) (i := 1) kc_cX11_is_0 (by decide +kernel)
theorem dX11_is_2 : decode cX11_is 2 = .ok (.invokevirtual 148, 3) := dw182 (n := 0) (i := 2) (a := 0) (b := 148) kc_cX11_is_0 (by decide +kernel) (by decide)
set_option maxRecDepth 20000 in
theorem ggX11_is_X11_isBallot : GoodIn wsX11_is wsX11_isBallot := (gk_code 6 rfl (gk_fieldLink 7 rfl (gk_methodLink 8 rfl (gk_static 9 rfl (gk_initialized 5 rfl (gk_code 10 rfl (gk_lays 14 rfl (gk_laysFinal 15 rfl (gk_lays 16 rfl (gk_laysFinal 17 rfl (gk_lays 18 rfl (gk_laysFinal 19 rfl (gk_laysFinal 20 rfl (gk_laysFinal 21 rfl (gk_laysFinal 22 rfl (gk_lays 23 rfl (gk_laysFinal 24 rfl (gk_laysFinal 25 rfl (gk_laysFinal 26 rfl (gk_laysFinal 27 rfl (gk_lays 28 rfl (gk_laysFinal 29 rfl (gk_laysFinal 30 rfl (gk_laysFinal 31 rfl (gk_laysFinal 32 rfl (gk_laysFinal 33 rfl (gk_laysFinal 34 rfl (gk_laysFinal 35 rfl (gk_laysFinal 36 rfl (gk_lays 37 rfl (gk_lays 38 rfl (gk_lays 39 rfl (gk_lays 40 rfl (gk_lays 41 rfl (gk_lays 42 rfl (gk_lays 43 rfl (gk_laysFinal 44 rfl (gk_lays 45 rfl (gk_laysFinal 46 rfl (gk_laysFinal 47 rfl (gk_laysFinal 48 rfl (gk_laysFinal 49 rfl (gk_laysFinal 50 rfl (gk_laysFinal 51 rfl (gk_laysFinal 52 rfl (gk_laysFinal 53 rfl (gk_laysFinal 54 rfl (gk_laysFinal 55 rfl (gk_lays 56 rfl (gk_laysFinal 57 rfl (gk_lays 58 rfl (gk_laysFinal 59 rfl (gk_laysFinal 60 rfl (gk_laysFinal 61 rfl (gk_laysFinal 62 rfl (gk_laysFinal 63 rfl (gk_laysFinal 64 rfl (gk_laysFinal 65 rfl (gk_laysFinal 66 rfl (gn))))))))))))))))))))))))))))))))))))))))))))))))))))))))))))
set_option maxRecDepth 20000 in
theorem gX11_is_X11_isBallot : GoodIn wsX11_is (wsV RX11 148 RX11 yX11_isBallot wsX11_isBallot) := goodIn_app (gk_methodLink 2 rfl (gk_instanceMethod 3 rfl (gk_selects 4 rfl (gk_initialized 5 rfl (gn))))) ggX11_is_X11_isBallot
theorem dX11_is_5 : decode cX11_is 5 = .ok (.ifCond .eq 12, 3) := dw153 (n := 0) (i := 5) (a := 0) (b := 12) kc_cX11_is_0 (by decide +kernel) (by decide)
theorem dX11_is_17 : decode cX11_is 17 = .ok (.iconst (-1), 1) := dw2 (n := 0) (i := 17) kc_cX11_is_0 (by decide +kernel)
theorem dX11_is_18 : decode cX11_is 18 = .ok (.goto 21, 3) := dw167 (n := 0) (i := 18) (a := 0) (b := 21) kc_cX11_is_0 (by decide +kernel) (by decide)
theorem dX11_is_39 : decode cX11_is 39 = .ok (.ireturn, 1) := dw172 (n := 32) (i := 7) kc_cX11_is_1 (by decide +kernel)
theorem dX11_is_8 : decode cX11_is 8 = .ok (.iload_n 2, 1) := dw28 (n := 0) (i := 8) kc_cX11_is_0 (by decide +kernel)
theorem dX11_is_9 : decode cX11_is 9 = .ok (.iconst 0, 1) := dw3 (n := 0) (i := 9) kc_cX11_is_0 (by decide +kernel)
theorem dX11_is_10 : decode cX11_is 10 = .ok (.iconst 3, 1) := dw6 (n := 0) (i := 10) kc_cX11_is_0 (by decide +kernel)
theorem dX11_is_11 : decode cX11_is 11 = .ok (.invokestatic 133, 3) := dw184 (n := 0) (i := 11) (a := 0) (b := 133) kc_cX11_is_0 (by decide +kernel) (by decide)
set_option maxRecDepth 20000 in
theorem ggX11_is_X11_in : GoodIn wsX11_is wsX11_in := (gk_code 10 rfl (gn))
set_option maxRecDepth 20000 in
theorem gX11_is_X11_in : GoodIn wsX11_is (va_wsS RX11 133 yX11_in wsX11_in) := goodIn_app (gk_methodLink 8 rfl (gk_static 9 rfl (gk_initialized 5 rfl (gn)))) ggX11_is_X11_in
theorem dX11_is_14 : decode cX11_is 14 = .ok (.ifCond .ne 7, 3) := dw154 (n := 0) (i := 14) (a := 0) (b := 7) kc_cX11_is_0 (by decide +kernel) (by decide)
theorem dX11_is_21 : decode cX11_is 21 = .ok (.aload_n 0, 1) := dw42 (n := 0) (i := 21) kc_cX11_is_0 (by decide +kernel)
theorem dX11_is_22 : decode cX11_is 22 = .ok (.getfield 16, 3) := dw180 (n := 0) (i := 22) (a := 0) (b := 16) kc_cX11_is_0 (by decide +kernel) (by decide)
theorem in_X11_is_11 : ∀ w ∈ u_ws RX11 TX11 53, w ∈ wsX11_is := fun _ h => List.mem_cons_of_mem _ (List.mem_append_right _ h)
theorem dX11_is_25 : decode cX11_is 25 = .ok (.iload_n 1, 1) := dw27 (n := 0) (i := 25) kc_cX11_is_0 (by decide +kernel)
theorem dX11_is_26 : decode cX11_is 26 = .ok (.iaload, 1) := dw46 (n := 0) (i := 26) kc_cX11_is_0 (by decide +kernel)
theorem dX11_is_27 : decode cX11_is 27 = .ok (.iload_n 2, 1) := dw28 (n := 0) (i := 27) kc_cX11_is_0 (by decide +kernel)
theorem dX11_is_28 : decode cX11_is 28 = .ok (.invokestatic 151, 3) := dw184 (n := 0) (i := 28) (a := 0) (b := 151) kc_cX11_is_0 (by decide +kernel) (by decide)
set_option maxRecDepth 20000 in
theorem ggX11_is_X11_isOf : GoodIn wsX11_is wsX11_isOf := (gk_code 13 rfl (gn))
set_option maxRecDepth 20000 in
theorem gX11_is_X11_isOf : GoodIn wsX11_is (va_wsS RX11 151 yX11_isOf wsX11_isOf) := goodIn_app (gk_methodLink 11 rfl (gk_static 12 rfl (gk_initialized 5 rfl (gn)))) ggX11_is_X11_isOf
theorem dX11_is_31 : decode cX11_is 31 = .ok (.ifCond .eq 7, 3) := dw153 (n := 0) (i := 31) (a := 0) (b := 7) kc_cX11_is_0 (by decide +kernel) (by decide)
theorem dX11_is_38 : decode cX11_is 38 = .ok (.iconst 0, 1) := dw3 (n := 32) (i := 6) kc_cX11_is_1 (by decide +kernel)
theorem dX11_is_34 : decode cX11_is 34 = .ok (.iconst 1, 1) := dw4 (n := 32) (i := 2) kc_cX11_is_1 (by decide +kernel)
theorem dX11_is_35 : decode cX11_is 35 = .ok (.goto 4, 3) := dw167 (n := 32) (i := 3) (a := 0) (b := 4) kc_cX11_is_1 (by decide +kernel) (by decide)
set_option maxHeartbeats 4000000 in
set_option maxRecDepth 100000 in
theorem s_X11_is (l : Launch) (D : va_G) (ad : Nat → Nat) (cs : Nat → ClassId) (M : MI) (L : ML) (b : Int32) (x : Int32) (hI : IR M) : Ci l yX11_is wsX11_is ({ frames := 2, cells := 0, slots := 0, locals := 43 }) D ad cs [.ref (ad 258), .int b, .int x] M L (fun r M1 L1 => M1 = M ∧ L1 = L ∧ (r = A_is (vR M) b x)) := by
  refine enter_i RX11 rfl [(0, .ref (ad 258)), (1, .int b), (2, .int x)] rfl (Nat.le_of_ble_eq_true rfl) (by decide +kernel) rfl ?_
  intro p e s m below meth c C hr
  have hF : ∀ k i, True → M k i = M k i := fun _ _ _ => rfl
  have hG : ∀ k i, True → L k i = L k i := fun _ _ _ => rfl
  have w0 : (vR M 0 0).toInt = (M 258 2).toInt := rfl
  have w1 : (vR M 0 1).toInt = (M 258 4).toInt := rfl
  have w2 : (vR M 0 2).toInt = (M 258 9).toInt := rfl
  have w3 : (vR M 0 3).toInt = (M 258 14).toInt := rfl
  obtain ⟨y0a, y0b⟩ := (show rg 0 10 (M 258 2) from hI 258 2)
  obtain ⟨y1a, y1b⟩ := (show rg 0 60 (M 258 4) from hI 258 4)
  obtain ⟨y2a, y2b⟩ := (show rg 0 8 (M 258 9) from hI 258 9)
  obtain ⟨y3a, y3b⟩ := (show rg 0 20 (M 258 14) from hI 258 14)
  refine g_aload_n C 0 dX11_is_0 rfl ?_
  refine g_iload_n C 1 dX11_is_1 rfl ?_
  refine g_callVi C (n := 1) (As := [.int b]) (st := []) (s_X11_isBallot l D ad cs _ _ b hI ) gX11_is_X11_isBallot rfl rfl rfl (by decide +kernel) ⟨Nat.le_of_ble_eq_true rfl, Nat.le_of_ble_eq_true rfl⟩ rfl (Nat.le_of_ble_eq_true rfl) ⟨Nat.zero_le _, Nat.zero_le _⟩ (by decide) (ce_model ad cs _ _) rfl rfl dX11_is_2 (fun r1 M2 L3 hr1 => ?_)
  obtain ⟨hq1, hq2, hr1⟩ := hr1
  obtain rfl := hq1.symm
  obtain rfl := hq2.symm
  obtain ⟨bar1, bbr1⟩ := zo_b hr1
  refine g_if_eq C 17 dX11_is_5 (by decide) (fun c4 => ?_) (fun c4 => ?_)
  ·
    have f5 := feq rfl (by decide : (0 : Int32).toInt = 0) c4
    have pr1 := zo_f hr1 c4
    try dsimp only [hasC, hasB, hasX, hasM, ofS, ofK, bt] at pr1
    refine g_iconst C (-1) dX11_is_17 (by decide) ?_
    refine g_goto C 39 dX11_is_18 (by decide) ?_
    have zr9 : ((-1) : Int32).toInt = (-1) := by decide
    exact g_iret C hr ⟨rfl, rfl, (by dsimp only [A_is, hasC, hasB, hasX, hasM, ofS, ofK, bt, ix]; (repeat (first | rw [if_pos (by omega)] | rw [if_neg (by omega)])); first | done | rfl | (simp only [ix]; done) | (simp only [ix]; rfl) | (subst_vars; first | rfl | grind))⟩ dX11_is_39
  ·
    have f6 := fne rfl (by decide : (0 : Int32).toInt = 0) c4
    have pr1 := zo_t hr1 c4
    try dsimp only [hasC, hasB, hasX, hasM, ofS, ofK, bt] at pr1
    refine g_iload_n C 2 dX11_is_8 rfl ?_
    refine g_iconst C 0 dX11_is_9 (by decide) ?_
    refine g_iconst C 3 dX11_is_10 (by decide) ?_
    refine g_callSi C (n := 3) (As := [.int x, .int 0, .int 3]) (st := []) (c_X11_in l D ad cs _ _ x 0 3 ) gX11_is_X11_in rfl rfl rfl (by decide +kernel) ⟨Nat.le_of_ble_eq_true rfl, Nat.le_of_ble_eq_true rfl⟩ rfl (Nat.le_of_ble_eq_true rfl) ⟨Nat.zero_le _, Nat.zero_le _⟩ rfl dX11_is_11 (fun r7 M8 L9 hr7 => ?_)
    obtain ⟨hq1, hq2, hr7⟩ := hr7
    obtain rfl := hq1.symm
    obtain rfl := hq2.symm
    have hr7 := zo_in hr7 (by decide : (0 : Int32).toInt = 0) (by decide : (3 : Int32).toInt = 3)
    obtain ⟨bar7, bbr7⟩ := zo_b hr7
    refine g_if_ne C 21 dX11_is_14 (by decide) (fun c10 => ?_) (fun c10 => ?_)
    ·
      have f11 := fne rfl (by decide : (0 : Int32).toInt = 0) c10
      have pr7 := zo_t hr7 c10
      try dsimp only [hasC, hasB, hasX, hasM, ofS, ofK, bt] at pr7
      refine g_aload_n C 0 dX11_is_21 rfl ?_
      refine g_get C (.ref (ad 261)) 5 in_X11_is_11 (List.mem_of_getElem? (i := 1) rfl) (by decide) (ce_model ad cs _ _) rfl (by decide) rfl rfl dX11_is_22 ?_
      refine g_iload_n C 1 dX11_is_25 rfl ?_
      refine g_iald C (by decide) (ce_m_sortOf ad cs _ _) (fin' (n := 60) rfl (by omega) (by omega)) dX11_is_26 ?_
      refine g_ni (fun v12 ev12 => ?_)
      have gv12 : v12 = vR M 2 b.toNatClampNeg := ev12
      have tv12 := congrArg Int32.toInt gv12
      refine g_iload_n C 2 dX11_is_27 rfl ?_
      refine g_callSi C (n := 2) (As := [.int v12, .int x]) (st := []) (s_X11_isOf l D ad cs _ _ v12 x hI ) gX11_is_X11_isOf rfl rfl rfl (by decide +kernel) ⟨Nat.le_of_ble_eq_true rfl, Nat.le_of_ble_eq_true rfl⟩ rfl (Nat.le_of_ble_eq_true rfl) ⟨Nat.zero_le _, Nat.zero_le _⟩ rfl dX11_is_28 (fun r13 M14 L15 hr13 => ?_)
      obtain ⟨hq1, hq2, hr13⟩ := hr13
      obtain rfl := hq1.symm
      obtain rfl := hq2.symm
      obtain ⟨bar13, bbr13⟩ := zo_b hr13
      refine g_if_eq C 38 dX11_is_31 (by decide) (fun c16 => ?_) (fun c16 => ?_)
      ·
        have f17 := feq rfl (by decide : (0 : Int32).toInt = 0) c16
        have pr13 := zo_f hr13 c16
        try dsimp only [hasC, hasB, hasX, hasM, ofS, ofK, bt] at pr13
        refine g_iconst C 0 dX11_is_38 (by decide) ?_
        have zr9 : (0 : Int32).toInt = 0 := by decide
        exact g_iret C hr ⟨rfl, rfl, (by dsimp only [A_is, hasC, hasB, hasX, hasM, ofS, ofK, bt, ix]; (repeat (first | rw [if_pos (by omega)] | rw [if_neg (by omega)])); first | done | rfl | (simp only [gv12]; done) | (simp only [gv12]; rfl) | (subst_vars; first | rfl | grind))⟩ dX11_is_39
      ·
        have f18 := fne rfl (by decide : (0 : Int32).toInt = 0) c16
        have pr13 := zo_t hr13 c16
        try dsimp only [hasC, hasB, hasX, hasM, ofS, ofK, bt] at pr13
        refine g_iconst C 1 dX11_is_34 (by decide) ?_
        refine g_goto C 39 dX11_is_35 (by decide) ?_
        have zr9 : (1 : Int32).toInt = 1 := by decide
        exact g_iret C hr ⟨rfl, rfl, (by dsimp only [A_is, hasC, hasB, hasX, hasM, ofS, ofK, bt, ix]; (repeat (first | rw [if_pos (by omega)] | rw [if_neg (by omega)])); first | done | rfl | (simp only [gv12]; done) | (simp only [gv12]; rfl) | (subst_vars; first | rfl | grind))⟩ dX11_is_39
    ·
      have f19 := feq rfl (by decide : (0 : Int32).toInt = 0) c10
      have pr7 := zo_f hr7 c10
      try dsimp only [hasC, hasB, hasX, hasM, ofS, ofK, bt] at pr7
      refine g_iconst C (-1) dX11_is_17 (by decide) ?_
      refine g_goto C 39 dX11_is_18 (by decide) ?_
      have zr9 : ((-1) : Int32).toInt = (-1) := by decide
      exact g_iret C hr ⟨rfl, rfl, (by dsimp only [A_is, hasC, hasB, hasX, hasM, ofS, ofK, bt, ix]; (repeat (first | rw [if_pos (by omega)] | rw [if_neg (by omega)])); first | done | rfl | (simp only [ix]; done) | (simp only [ix]; rfl) | (subst_vars; first | rfl | grind))⟩ dX11_is_39
theorem dX11_told_0 : decode cX11_told 0 = .ok (.aload_n 0, 1) := dw42 (n := 0) (i := 0) kc_cX11_told_0 (by decide +kernel)
theorem dX11_told_1 : decode cX11_told 1 = .ok (.iload_n 1, 1) := dw27 (n := 0) (i := 1) kc_cX11_told_0 (by decide +kernel)
theorem dX11_told_2 : decode cX11_told 2 = .ok (.invokevirtual 148, 3) := dw182 (n := 0) (i := 2) (a := 0) (b := 148) kc_cX11_told_0 (by decide +kernel) (by decide)
set_option maxRecDepth 20000 in
theorem ggX11_told_X11_isBallot : GoodIn wsX11_told wsX11_isBallot := (gk_code 10 rfl (gk_fieldLink 11 rfl (gk_methodLink 12 rfl (gk_static 13 rfl (gk_initialized 9 rfl (gk_code 14 rfl (gk_lays 15 rfl (gk_laysFinal 16 rfl (gk_lays 17 rfl (gk_laysFinal 18 rfl (gk_lays 19 rfl (gk_laysFinal 20 rfl (gk_laysFinal 21 rfl (gk_laysFinal 22 rfl (gk_laysFinal 23 rfl (gk_lays 24 rfl (gk_laysFinal 25 rfl (gk_laysFinal 26 rfl (gk_laysFinal 27 rfl (gk_laysFinal 28 rfl (gk_lays 29 rfl (gk_laysFinal 30 rfl (gk_laysFinal 31 rfl (gk_laysFinal 32 rfl (gk_laysFinal 33 rfl (gk_laysFinal 34 rfl (gk_laysFinal 35 rfl (gk_laysFinal 36 rfl (gk_laysFinal 37 rfl (gk_lays 38 rfl (gk_lays 39 rfl (gk_lays 40 rfl (gk_lays 41 rfl (gk_lays 42 rfl (gk_lays 43 rfl (gk_lays 44 rfl (gk_laysFinal 45 rfl (gk_lays 46 rfl (gk_laysFinal 47 rfl (gk_laysFinal 48 rfl (gk_laysFinal 49 rfl (gk_laysFinal 50 rfl (gk_laysFinal 51 rfl (gk_laysFinal 52 rfl (gk_laysFinal 53 rfl (gk_laysFinal 54 rfl (gk_laysFinal 55 rfl (gk_laysFinal 56 rfl (gk_lays 57 rfl (gk_laysFinal 58 rfl (gk_lays 59 rfl (gk_laysFinal 60 rfl (gk_laysFinal 61 rfl (gk_laysFinal 62 rfl (gk_laysFinal 63 rfl (gk_laysFinal 64 rfl (gk_laysFinal 65 rfl (gk_laysFinal 66 rfl (gk_laysFinal 67 rfl (gn))))))))))))))))))))))))))))))))))))))))))))))))))))))))))))
set_option maxRecDepth 20000 in
theorem gX11_told_X11_isBallot : GoodIn wsX11_told (wsV RX11 148 RX11 yX11_isBallot wsX11_isBallot) := goodIn_app (gk_methodLink 6 rfl (gk_instanceMethod 7 rfl (gk_selects 8 rfl (gk_initialized 9 rfl (gn))))) ggX11_told_X11_isBallot
theorem dX11_told_5 : decode cX11_told 5 = .ok (.ifCond .eq 7, 3) := dw153 (n := 0) (i := 5) (a := 0) (b := 7) kc_cX11_told_0 (by decide +kernel) (by decide)
theorem dX11_told_12 : decode cX11_told 12 = .ok (.iconst (-1), 1) := dw2 (n := 0) (i := 12) kc_cX11_told_0 (by decide +kernel)
theorem dX11_told_13 : decode cX11_told 13 = .ok (.ireturn, 1) := dw172 (n := 0) (i := 13) kc_cX11_told_0 (by decide +kernel)
theorem dX11_told_8 : decode cX11_told 8 = .ok (.iload_n 2, 1) := dw28 (n := 0) (i := 8) kc_cX11_told_0 (by decide +kernel)
theorem dX11_told_9 : decode cX11_told 9 = .ok (.ifCond .ge 5, 3) := dw156 (n := 0) (i := 9) (a := 0) (b := 5) kc_cX11_told_0 (by decide +kernel) (by decide)
theorem dX11_told_14 : decode cX11_told 14 = .ok (.iload_n 2, 1) := dw28 (n := 0) (i := 14) kc_cX11_told_0 (by decide +kernel)
theorem dX11_told_15 : decode cX11_told 15 = .ok (.iconst 3, 1) := dw6 (n := 0) (i := 15) kc_cX11_told_0 (by decide +kernel)
theorem dX11_told_16 : decode cX11_told 16 = .ok (.if_icmp .ge 37, 3) := dw162 (n := 0) (i := 16) (a := 0) (b := 37) kc_cX11_told_0 (by decide +kernel) (by decide)
theorem dX11_told_53 : decode cX11_told 53 = .ok (.aload_n 0, 1) := dw42 (n := 32) (i := 21) kc_cX11_told_1 (by decide +kernel)
theorem dX11_told_54 : decode cX11_told 54 = .ok (.getfield 16, 3) := dw180 (n := 32) (i := 22) (a := 0) (b := 16) kc_cX11_told_1 (by decide +kernel) (by decide)
theorem in_X11_told_11 : ∀ w ∈ u_ws RX11 TX11 53, w ∈ wsX11_told := fun _ h => List.mem_cons_of_mem _ (List.mem_append_right _ h)
theorem dX11_told_57 : decode cX11_told 57 = .ok (.iload_n 1, 1) := dw27 (n := 32) (i := 25) kc_cX11_told_1 (by decide +kernel)
theorem dX11_told_58 : decode cX11_told 58 = .ok (.iaload, 1) := dw46 (n := 32) (i := 26) kc_cX11_told_1 (by decide +kernel)
theorem dX11_told_59 : decode cX11_told 59 = .ok (.iconst 3, 1) := dw6 (n := 32) (i := 27) kc_cX11_told_1 (by decide +kernel)
theorem dX11_told_60 : decode cX11_told 60 = .ok (.if_icmp .ne 10, 3) := dw160 (n := 32) (i := 28) (a := 0) (b := 10) kc_cX11_told_1 (by decide +kernel) (by decide)
theorem dX11_told_70 : decode cX11_told 70 = .ok (.aload_n 0, 1) := dw42 (n := 64) (i := 6) kc_cX11_told_2 (by decide +kernel)
theorem dX11_told_71 : decode cX11_told 71 = .ok (.getfield 22, 3) := dw180 (n := 64) (i := 7) (a := 0) (b := 22) kc_cX11_told_2 (by decide +kernel) (by decide)
theorem dX11_told_74 : decode cX11_told 74 = .ok (.iload_n 1, 1) := dw27 (n := 64) (i := 10) kc_cX11_told_2 (by decide +kernel)
theorem dX11_told_75 : decode cX11_told 75 = .ok (.iaload, 1) := dw46 (n := 64) (i := 11) kc_cX11_told_2 (by decide +kernel)
theorem dX11_told_76 : decode cX11_told 76 = .ok (.istore_n 3, 1) := dw62 (n := 64) (i := 12) kc_cX11_told_2 (by decide +kernel)
theorem dX11_told_77 : decode cX11_told 77 = .ok (.iload_n 2, 1) := dw28 (n := 64) (i := 13) kc_cX11_told_2 (by decide +kernel)
theorem dX11_told_78 : decode cX11_told 78 = .ok (.iconst 3, 1) := dw6 (n := 64) (i := 14) kc_cX11_told_2 (by decide +kernel)
theorem dX11_told_79 : decode cX11_told 79 = .ok (.isub, 1) := dw100 (n := 64) (i := 15) kc_cX11_told_2 (by decide +kernel)
theorem dX11_told_80 : decode cX11_told 80 = .ok (.iload_n 3, 1) := dw29 (n := 64) (i := 16) kc_cX11_told_2 (by decide +kernel)
theorem dX11_told_81 : decode cX11_told 81 = .ok (.if_icmp .ge 19, 3) := dw162 (n := 64) (i := 17) (a := 0) (b := 19) kc_cX11_told_2 (by decide +kernel) (by decide)
theorem dX11_told_100 : decode cX11_told 100 = .ok (.bipush (-9), 2) := dw16 (n := 96) (i := 4) (a := 247) kc_cX11_told_3 (by decide +kernel) (by decide)
theorem dX11_told_102 : decode cX11_told 102 = .ok (.ireturn, 1) := dw172 (n := 96) (i := 6) kc_cX11_told_3 (by decide +kernel)
theorem dX11_told_84 : decode cX11_told 84 = .ok (.aload_n 0, 1) := dw42 (n := 64) (i := 20) kc_cX11_told_2 (by decide +kernel)
theorem dX11_told_85 : decode cX11_told 85 = .ok (.getfield 25, 3) := dw180 (n := 64) (i := 21) (a := 0) (b := 25) kc_cX11_told_2 (by decide +kernel) (by decide)
theorem dX11_told_88 : decode cX11_told 88 = .ok (.bipush 10, 2) := dw16 (n := 64) (i := 24) (a := 10) kc_cX11_told_2 (by decide +kernel) (by decide)
theorem dX11_told_90 : decode cX11_told 90 = .ok (.iload_n 1, 1) := dw27 (n := 64) (i := 26) kc_cX11_told_2 (by decide +kernel)
theorem dX11_told_91 : decode cX11_told 91 = .ok (.imul, 1) := dw104 (n := 64) (i := 27) kc_cX11_told_2 (by decide +kernel)
theorem dX11_told_92 : decode cX11_told 92 = .ok (.iload_n 2, 1) := dw28 (n := 64) (i := 28) kc_cX11_told_2 (by decide +kernel)
theorem dX11_told_93 : decode cX11_told 93 = .ok (.iadd, 1) := dw96 (n := 64) (i := 29) kc_cX11_told_2 (by decide +kernel)
theorem dX11_told_94 : decode cX11_told 94 = .ok (.iconst 3, 1) := dw6 (n := 64) (i := 30) kc_cX11_told_2 (by decide +kernel)
theorem dX11_told_95 : decode cX11_told 95 = .ok (.isub, 1) := dw100 (n := 64) (i := 31) kc_cX11_told_2 (by decide +kernel)
theorem dX11_told_96 : decode cX11_told 96 = .ok (.iaload, 1) := dw46 (n := 96) (i := 0) kc_cX11_told_3 (by decide +kernel)
theorem dX11_told_97 : decode cX11_told 97 = .ok (.goto 5, 3) := dw167 (n := 96) (i := 1) (a := 0) (b := 5) kc_cX11_told_3 (by decide +kernel) (by decide)
theorem dX11_told_63 : decode cX11_told 63 = .ok (.aload_n 0, 1) := dw42 (n := 32) (i := 31) kc_cX11_told_1 (by decide +kernel)
theorem dX11_told_64 : decode cX11_told 64 = .ok (.getfield 137, 3) := dw180 (n := 64) (i := 0) (a := 0) (b := 137) kc_cX11_told_2 (by decide +kernel) (by decide)
theorem dX11_told_67 : decode cX11_told 67 = .ok (.goto 9, 3) := dw167 (n := 64) (i := 3) (a := 0) (b := 9) kc_cX11_told_2 (by decide +kernel) (by decide)
theorem dX11_told_19 : decode cX11_told 19 = .ok (.iload_n 2, 1) := dw28 (n := 0) (i := 19) kc_cX11_told_0 (by decide +kernel)
theorem dX11_told_20 : decode cX11_told 20 = .ok (.ifCond .ne 12, 3) := dw154 (n := 0) (i := 20) (a := 0) (b := 12) kc_cX11_told_0 (by decide +kernel) (by decide)
theorem dX11_told_32 : decode cX11_told 32 = .ok (.iload_n 2, 1) := dw28 (n := 32) (i := 0) kc_cX11_told_1 (by decide +kernel)
theorem dX11_told_33 : decode cX11_told 33 = .ok (.iconst 1, 1) := dw4 (n := 32) (i := 1) kc_cX11_told_1 (by decide +kernel)
theorem dX11_told_34 : decode cX11_told 34 = .ok (.if_icmp .ne 12, 3) := dw160 (n := 32) (i := 2) (a := 0) (b := 12) kc_cX11_told_1 (by decide +kernel) (by decide)
theorem dX11_told_46 : decode cX11_told 46 = .ok (.aload_n 0, 1) := dw42 (n := 32) (i := 14) kc_cX11_told_1 (by decide +kernel)
theorem dX11_told_47 : decode cX11_told 47 = .ok (.getfield 22, 3) := dw180 (n := 32) (i := 15) (a := 0) (b := 22) kc_cX11_told_1 (by decide +kernel) (by decide)
theorem dX11_told_50 : decode cX11_told 50 = .ok (.iload_n 1, 1) := dw27 (n := 32) (i := 18) kc_cX11_told_1 (by decide +kernel)
theorem dX11_told_51 : decode cX11_told 51 = .ok (.iaload, 1) := dw46 (n := 32) (i := 19) kc_cX11_told_1 (by decide +kernel)
theorem dX11_told_52 : decode cX11_told 52 = .ok (.ireturn, 1) := dw172 (n := 32) (i := 20) kc_cX11_told_1 (by decide +kernel)
theorem dX11_told_37 : decode cX11_told 37 = .ok (.aload_n 0, 1) := dw42 (n := 32) (i := 5) kc_cX11_told_1 (by decide +kernel)
theorem dX11_told_38 : decode cX11_told 38 = .ok (.getfield 19, 3) := dw180 (n := 32) (i := 6) (a := 0) (b := 19) kc_cX11_told_1 (by decide +kernel) (by decide)
theorem dX11_told_41 : decode cX11_told 41 = .ok (.iload_n 1, 1) := dw27 (n := 32) (i := 9) kc_cX11_told_1 (by decide +kernel)
theorem dX11_told_42 : decode cX11_told 42 = .ok (.iaload, 1) := dw46 (n := 32) (i := 10) kc_cX11_told_1 (by decide +kernel)
theorem dX11_told_43 : decode cX11_told 43 = .ok (.goto 9, 3) := dw167 (n := 32) (i := 11) (a := 0) (b := 9) kc_cX11_told_1 (by decide +kernel) (by decide)
theorem dX11_told_23 : decode cX11_told 23 = .ok (.aload_n 0, 1) := dw42 (n := 0) (i := 23) kc_cX11_told_0 (by decide +kernel)
theorem dX11_told_24 : decode cX11_told 24 = .ok (.getfield 16, 3) := dw180 (n := 0) (i := 24) (a := 0) (b := 16) kc_cX11_told_0 (by decide +kernel) (by decide)
theorem dX11_told_27 : decode cX11_told 27 = .ok (.iload_n 1, 1) := dw27 (n := 0) (i := 27) kc_cX11_told_0 (by decide +kernel)
theorem dX11_told_28 : decode cX11_told 28 = .ok (.iaload, 1) := dw46 (n := 0) (i := 28) kc_cX11_told_0 (by decide +kernel)
theorem dX11_told_29 : decode cX11_told 29 = .ok (.goto 23, 3) := dw167 (n := 0) (i := 29) (a := 0) (b := 23) kc_cX11_told_0 (by decide +kernel) (by decide)
set_option maxHeartbeats 4000000 in
set_option maxRecDepth 100000 in
theorem s_X11_told (l : Launch) (D : va_G) (ad : Nat → Nat) (cs : Nat → ClassId) (M : MI) (L : ML) (b : Int32) (x : Int32) (hI : IR M) : Ci l yX11_told wsX11_told ({ frames := 2, cells := 0, slots := 0, locals := 43 }) D ad cs [.ref (ad 258), .int b, .int x] M L (fun r M1 L1 => M1 = M ∧ L1 = L ∧ (r = A_told (vR M) b x)) := by
  refine enter_i RX11 rfl [(0, .ref (ad 258)), (1, .int b), (2, .int x)] rfl (Nat.le_of_ble_eq_true rfl) (by decide +kernel) rfl ?_
  intro p e s m below meth c C hr
  have hF : ∀ k i, True → M k i = M k i := fun _ _ _ => rfl
  have hG : ∀ k i, True → L k i = L k i := fun _ _ _ => rfl
  have w0 : (vR M 0 0).toInt = (M 258 2).toInt := rfl
  have w1 : (vR M 0 1).toInt = (M 258 4).toInt := rfl
  have w2 : (vR M 0 2).toInt = (M 258 9).toInt := rfl
  have w3 : (vR M 0 3).toInt = (M 258 14).toInt := rfl
  obtain ⟨y0a, y0b⟩ := (show rg 0 10 (M 258 2) from hI 258 2)
  obtain ⟨y1a, y1b⟩ := (show rg 0 60 (M 258 4) from hI 258 4)
  obtain ⟨y2a, y2b⟩ := (show rg 0 8 (M 258 9) from hI 258 9)
  obtain ⟨y3a, y3b⟩ := (show rg 0 20 (M 258 14) from hI 258 14)
  have qx := Int32.toInt_lt x
  refine g_aload_n C 0 dX11_told_0 rfl ?_
  refine g_iload_n C 1 dX11_told_1 rfl ?_
  refine g_callVi C (n := 1) (As := [.int b]) (st := []) (s_X11_isBallot l D ad cs _ _ b hI ) gX11_told_X11_isBallot rfl rfl rfl (by decide +kernel) ⟨Nat.le_of_ble_eq_true rfl, Nat.le_of_ble_eq_true rfl⟩ rfl (Nat.le_of_ble_eq_true rfl) ⟨Nat.zero_le _, Nat.zero_le _⟩ (by decide) (ce_model ad cs _ _) rfl rfl dX11_told_2 (fun r1 M2 L3 hr1 => ?_)
  obtain ⟨hq1, hq2, hr1⟩ := hr1
  obtain rfl := hq1.symm
  obtain rfl := hq2.symm
  obtain ⟨bar1, bbr1⟩ := zo_b hr1
  refine g_if_eq C 12 dX11_told_5 (by decide) (fun c4 => ?_) (fun c4 => ?_)
  ·
    have f5 := feq rfl (by decide : (0 : Int32).toInt = 0) c4
    have pr1 := zo_f hr1 c4
    try dsimp only [hasC, hasB, hasX, hasM, ofS, ofK, bt] at pr1
    refine g_iconst C (-1) dX11_told_12 (by decide) ?_
    have zr9 : ((-1) : Int32).toInt = (-1) := by decide
    exact g_iret C hr ⟨rfl, rfl, (by dsimp only [A_told, hasC, hasB, hasX, hasM, ofS, ofK, bt, ix]; (repeat (first | rw [if_pos (by omega)] | rw [if_neg (by omega)])); first | done | rfl | (simp only [ix]; done) | (simp only [ix]; rfl) | (subst_vars; first | rfl | grind))⟩ dX11_told_13
  ·
    have f6 := fne rfl (by decide : (0 : Int32).toInt = 0) c4
    have pr1 := zo_t hr1 c4
    try dsimp only [hasC, hasB, hasX, hasM, ofS, ofK, bt] at pr1
    refine g_iload_n C 2 dX11_told_8 rfl ?_
    refine g_if_ge C 14 dX11_told_9 (by decide) (fun c7 => ?_) (fun c7 => ?_)
    ·
      have f8 := fle (by decide : (0 : Int32).toInt = 0) rfl c7
      refine g_iload_n C 2 dX11_told_14 rfl ?_
      refine g_iconst C 3 dX11_told_15 (by decide) ?_
      refine g_icmp_ge C 53 dX11_told_16 (by decide) (fun c9 => ?_) (fun c9 => ?_)
      ·
        have f10 := fle (by decide : (3 : Int32).toInt = 3) rfl c9
        refine g_aload_n C 0 dX11_told_53 rfl ?_
        refine g_get C (.ref (ad 261)) 5 in_X11_told_11 (List.mem_of_getElem? (i := 1) rfl) (by decide) (ce_model ad cs _ _) rfl (by decide) rfl rfl dX11_told_54 ?_
        refine g_iload_n C 1 dX11_told_57 rfl ?_
        refine g_iald C (by decide) (ce_m_sortOf ad cs _ _) (fin' (n := 60) rfl (by omega) (by omega)) dX11_told_58 ?_
        refine g_ni (fun v11 ev11 => ?_)
        have gv11 : v11 = vR M 2 b.toNatClampNeg := ev11
        have tv11 := congrArg Int32.toInt gv11
        refine g_iconst C 3 dX11_told_59 (by decide) ?_
        refine g_icmp_ne C 70 dX11_told_60 (by decide) (fun c12 => ?_) (fun c12 => ?_)
        ·
          have f13 := fne rfl (by decide : (3 : Int32).toInt = 3) c12
          refine g_aload_n C 0 dX11_told_70 rfl ?_
          refine g_get C (.ref (ad 263)) 7 in_X11_told_11 (List.mem_of_getElem? (i := 3) rfl) (by decide) (ce_model ad cs _ _) rfl (by decide) rfl rfl dX11_told_71 ?_
          refine g_iload_n C 1 dX11_told_74 rfl ?_
          refine g_iald C (by decide) (ce_m_onIt ad cs _ _) (fin' (n := 60) rfl (by omega) (by omega)) dX11_told_75 ?_
          refine g_ni (fun v14 ev14 => ?_)
          have gv14 : v14 = vR M 4 b.toNatClampNeg := ev14
          have tv14 := congrArg Int32.toInt gv14
          obtain ⟨bv14, dv14⟩ := (show rg 0 10 v14 from (by rw [ev14]; exact hI 263 b.toNatClampNeg))
          refine g_istore_n C [(3, .int v14), (0, .ref (ad 258)), (1, .int b), (2, .int x)] dX11_told_76 (by decide) rfl ?_
          refine g_iload_n C 3 dX11_told_77 rfl ?_
          refine g_iconst C 3 dX11_told_78 (by decide) ?_
          refine g_isub C dX11_told_79 ?_
          refine g_ni (fun v15 ev15 => ?_)
          try have fv15 := fsub rfl (by decide : (3 : Int32).toInt = 3) ev15 (by omega) (by omega)
          refine g_iload_n C 0 dX11_told_80 rfl ?_
          refine g_icmp_ge C 100 dX11_told_81 (by decide) (fun c16 => ?_) (fun c16 => ?_)
          ·
            have f17 := fle rfl rfl c16
            refine g_bipush C (-9) dX11_told_100 (by decide) ?_
            have zr9 : ((-9) : Int32).toInt = (-9) := by decide
            exact g_iret C hr ⟨rfl, rfl, (by dsimp only [A_told, hasC, hasB, hasX, hasM, ofS, ofK, bt, ix]; (repeat (first | rw [if_pos (by omega)] | rw [if_neg (by omega)])); first | done | rfl | (simp only [ev15, gv14, gv11]; done) | (simp only [ev15, gv14, gv11]; rfl) | (subst_vars; first | rfl | grind))⟩ dX11_told_102
          ·
            have f18 := fnle rfl rfl c16
            refine g_aload_n C 1 dX11_told_84 rfl ?_
            refine g_get C (.ref (ad 264)) 8 in_X11_told_11 (List.mem_of_getElem? (i := 5) rfl) (by decide) (ce_model ad cs _ _) rfl (by decide) rfl rfl dX11_told_85 ?_
            refine g_bipush C 10 dX11_told_88 (by decide) ?_
            refine g_iload_n C 2 dX11_told_90 rfl ?_
            refine g_imul C dX11_told_91 ?_
            refine g_ni (fun v19 ev19 => ?_)
            try have fv19 := fmul (by decide : (10 : Int32).toInt = 10) rfl ev19 (by omega) (by omega)
            refine g_iload_n C 3 dX11_told_92 rfl ?_
            refine g_iadd C dX11_told_93 ?_
            refine g_ni (fun v20 ev20 => ?_)
            try have fv20 := fadd rfl rfl ev20 (by omega) (by omega)
            refine g_iconst C 3 dX11_told_94 (by decide) ?_
            refine g_isub C dX11_told_95 ?_
            refine g_ni (fun v21 ev21 => ?_)
            try have fv21 := fsub rfl (by decide : (3 : Int32).toInt = 3) ev21 (by omega) (by omega)
            refine g_iald C (by decide) (ce_m_marks ad cs _ _) (fin' (n := 600) rfl (by omega) (by omega)) dX11_told_96 ?_
            have nb := ixn (x := b) (by omega)
            have nv21 := ixn (x := v21) (by omega)
            have iv21 : v21.toNatClampNeg = 10 * b.toNatClampNeg + (x.toInt - 3).toNat := by omega
            refine g_ni (fun v22 ev22 => ?_)
            have gv22 : v22 = vR M 5 v21.toNatClampNeg := ev22
            have gv22 := cg1 (f := vR M 5) gv22 iv21
            have tv22 := congrArg Int32.toInt gv22
            obtain ⟨bv22, dv22⟩ := (show rg 0 9 v22 from (by rw [ev22]; exact hI 264 v21.toNatClampNeg))
            refine g_goto C 102 dX11_told_97 (by decide) ?_
            exact g_iret C hr ⟨rfl, rfl, (by dsimp only [A_told, hasC, hasB, hasX, hasM, ofS, ofK, bt, ix]; (repeat (first | rw [if_pos (by omega)] | rw [if_neg (by omega)])); first | done | rfl | (simp only [gv22, ev21, ev20, ev19, ev15, gv14, gv11]; done) | (simp only [gv22, ev21, ev20, ev19, ev15, gv14, gv11]; rfl) | (subst_vars; first | rfl | grind))⟩ dX11_told_102
        ·
          have f23 := feq rfl (by decide : (3 : Int32).toInt = 3) c12
          refine g_aload_n C 0 dX11_told_63 rfl ?_
          refine g_get C (.int (M 258 2)) 2 in_X11_told_11 (List.mem_of_getElem? (i := 4) rfl) (by decide) (ce_model ad cs _ _) rfl (by decide) rfl rfl dX11_told_64 ?_
          refine g_ni (fun v24 ev24 => ?_)
          have gv24 : v24 = vR M 0 0 := ev24
          have tv24 := congrArg Int32.toInt gv24
          obtain ⟨bv24, dv24⟩ := (show rg 0 10 v24 from (by rw [ev24]; exact hI 258 2))
          refine g_goto C 76 dX11_told_67 (by decide) ?_
          refine g_istore_n C [(3, .int v24), (0, .ref (ad 258)), (1, .int b), (2, .int x)] dX11_told_76 (by decide) rfl ?_
          refine g_iload_n C 3 dX11_told_77 rfl ?_
          refine g_iconst C 3 dX11_told_78 (by decide) ?_
          refine g_isub C dX11_told_79 ?_
          refine g_ni (fun v25 ev25 => ?_)
          try have fv25 := fsub rfl (by decide : (3 : Int32).toInt = 3) ev25 (by omega) (by omega)
          refine g_iload_n C 0 dX11_told_80 rfl ?_
          refine g_icmp_ge C 100 dX11_told_81 (by decide) (fun c26 => ?_) (fun c26 => ?_)
          ·
            have f27 := fle rfl rfl c26
            refine g_bipush C (-9) dX11_told_100 (by decide) ?_
            have zr9 : ((-9) : Int32).toInt = (-9) := by decide
            exact g_iret C hr ⟨rfl, rfl, (by dsimp only [A_told, hasC, hasB, hasX, hasM, ofS, ofK, bt, ix]; (repeat (first | rw [if_pos (by omega)] | rw [if_neg (by omega)])); first | done | rfl | (simp only [ev25, gv24, gv11]; done) | (simp only [ev25, gv24, gv11]; rfl) | (subst_vars; first | rfl | grind))⟩ dX11_told_102
          ·
            have f28 := fnle rfl rfl c26
            refine g_aload_n C 1 dX11_told_84 rfl ?_
            refine g_get C (.ref (ad 264)) 8 in_X11_told_11 (List.mem_of_getElem? (i := 5) rfl) (by decide) (ce_model ad cs _ _) rfl (by decide) rfl rfl dX11_told_85 ?_
            refine g_bipush C 10 dX11_told_88 (by decide) ?_
            refine g_iload_n C 2 dX11_told_90 rfl ?_
            refine g_imul C dX11_told_91 ?_
            refine g_ni (fun v29 ev29 => ?_)
            try have fv29 := fmul (by decide : (10 : Int32).toInt = 10) rfl ev29 (by omega) (by omega)
            refine g_iload_n C 3 dX11_told_92 rfl ?_
            refine g_iadd C dX11_told_93 ?_
            refine g_ni (fun v30 ev30 => ?_)
            try have fv30 := fadd rfl rfl ev30 (by omega) (by omega)
            refine g_iconst C 3 dX11_told_94 (by decide) ?_
            refine g_isub C dX11_told_95 ?_
            refine g_ni (fun v31 ev31 => ?_)
            try have fv31 := fsub rfl (by decide : (3 : Int32).toInt = 3) ev31 (by omega) (by omega)
            refine g_iald C (by decide) (ce_m_marks ad cs _ _) (fin' (n := 600) rfl (by omega) (by omega)) dX11_told_96 ?_
            have nb := ixn (x := b) (by omega)
            have nv31 := ixn (x := v31) (by omega)
            have iv31 : v31.toNatClampNeg = 10 * b.toNatClampNeg + (x.toInt - 3).toNat := by omega
            refine g_ni (fun v32 ev32 => ?_)
            have gv32 : v32 = vR M 5 v31.toNatClampNeg := ev32
            have gv32 := cg1 (f := vR M 5) gv32 iv31
            have tv32 := congrArg Int32.toInt gv32
            obtain ⟨bv32, dv32⟩ := (show rg 0 9 v32 from (by rw [ev32]; exact hI 264 v31.toNatClampNeg))
            refine g_goto C 102 dX11_told_97 (by decide) ?_
            exact g_iret C hr ⟨rfl, rfl, (by dsimp only [A_told, hasC, hasB, hasX, hasM, ofS, ofK, bt, ix]; (repeat (first | rw [if_pos (by omega)] | rw [if_neg (by omega)])); first | done | rfl | (simp only [gv32, ev31, ev30, ev29, ev25, gv24, gv11]; done) | (simp only [gv32, ev31, ev30, ev29, ev25, gv24, gv11]; rfl) | (subst_vars; first | rfl | grind))⟩ dX11_told_102
      ·
        have f33 := fnle (by decide : (3 : Int32).toInt = 3) rfl c9
        refine g_iload_n C 2 dX11_told_19 rfl ?_
        refine g_if_ne C 32 dX11_told_20 (by decide) (fun c34 => ?_) (fun c34 => ?_)
        ·
          have f35 := fne rfl (by decide : (0 : Int32).toInt = 0) c34
          refine g_iload_n C 2 dX11_told_32 rfl ?_
          refine g_iconst C 1 dX11_told_33 (by decide) ?_
          refine g_icmp_ne C 46 dX11_told_34 (by decide) (fun c36 => ?_) (fun c36 => ?_)
          ·
            have f37 := fne rfl (by decide : (1 : Int32).toInt = 1) c36
            refine g_aload_n C 0 dX11_told_46 rfl ?_
            refine g_get C (.ref (ad 263)) 7 in_X11_told_11 (List.mem_of_getElem? (i := 3) rfl) (by decide) (ce_model ad cs _ _) rfl (by decide) rfl rfl dX11_told_47 ?_
            refine g_iload_n C 1 dX11_told_50 rfl ?_
            refine g_iald C (by decide) (ce_m_onIt ad cs _ _) (fin' (n := 60) rfl (by omega) (by omega)) dX11_told_51 ?_
            refine g_ni (fun v38 ev38 => ?_)
            have gv38 : v38 = vR M 4 b.toNatClampNeg := ev38
            have tv38 := congrArg Int32.toInt gv38
            obtain ⟨bv38, dv38⟩ := (show rg 0 10 v38 from (by rw [ev38]; exact hI 263 b.toNatClampNeg))
            exact g_iret C hr ⟨rfl, rfl, (by dsimp only [A_told, hasC, hasB, hasX, hasM, ofS, ofK, bt, ix]; (repeat (first | rw [if_pos (by omega)] | rw [if_neg (by omega)])); first | done | rfl | (simp only [gv38]; done) | (simp only [gv38]; rfl) | (subst_vars; first | rfl | grind))⟩ dX11_told_52
          ·
            have f39 := feq rfl (by decide : (1 : Int32).toInt = 1) c36
            refine g_aload_n C 0 dX11_told_37 rfl ?_
            refine g_get C (.ref (ad 262)) 6 in_X11_told_11 (List.mem_of_getElem? (i := 2) rfl) (by decide) (ce_model ad cs _ _) rfl (by decide) rfl rfl dX11_told_38 ?_
            refine g_iload_n C 1 dX11_told_41 rfl ?_
            refine g_iald C (by decide) (ce_m_papersOf ad cs _ _) (fin' (n := 60) rfl (by omega) (by omega)) dX11_told_42 ?_
            refine g_ni (fun v40 ev40 => ?_)
            have gv40 : v40 = vR M 3 b.toNatClampNeg := ev40
            have tv40 := congrArg Int32.toInt gv40
            obtain ⟨bv40, dv40⟩ := (show rg 0 100000 v40 from (by rw [ev40]; exact hI 262 b.toNatClampNeg))
            refine g_goto C 52 dX11_told_43 (by decide) ?_
            exact g_iret C hr ⟨rfl, rfl, (by dsimp only [A_told, hasC, hasB, hasX, hasM, ofS, ofK, bt, ix]; (repeat (first | rw [if_pos (by omega)] | rw [if_neg (by omega)])); first | done | rfl | (simp only [gv40]; done) | (simp only [gv40]; rfl) | (subst_vars; first | rfl | grind))⟩ dX11_told_52
        ·
          have f41 := feq rfl (by decide : (0 : Int32).toInt = 0) c34
          refine g_aload_n C 0 dX11_told_23 rfl ?_
          refine g_get C (.ref (ad 261)) 5 in_X11_told_11 (List.mem_of_getElem? (i := 1) rfl) (by decide) (ce_model ad cs _ _) rfl (by decide) rfl rfl dX11_told_24 ?_
          refine g_iload_n C 1 dX11_told_27 rfl ?_
          refine g_iald C (by decide) (ce_m_sortOf ad cs _ _) (fin' (n := 60) rfl (by omega) (by omega)) dX11_told_28 ?_
          refine g_ni (fun v42 ev42 => ?_)
          have gv42 : v42 = vR M 2 b.toNatClampNeg := ev42
          have tv42 := congrArg Int32.toInt gv42
          refine g_goto C 52 dX11_told_29 (by decide) ?_
          exact g_iret C hr ⟨rfl, rfl, (by dsimp only [A_told, hasC, hasB, hasX, hasM, ofS, ofK, bt, ix]; (repeat (first | rw [if_pos (by omega)] | rw [if_neg (by omega)])); first | done | rfl | (simp only [gv42]; done) | (simp only [gv42]; rfl) | (subst_vars; first | rfl | grind))⟩ dX11_told_52
    ·
      have f43 := fnle (by decide : (0 : Int32).toInt = 0) rfl c7
      refine g_iconst C (-1) dX11_told_12 (by decide) ?_
      have zr9 : ((-1) : Int32).toInt = (-1) := by decide
      exact g_iret C hr ⟨rfl, rfl, (by dsimp only [A_told, hasC, hasB, hasX, hasM, ofS, ofK, bt, ix]; (repeat (first | rw [if_pos (by omega)] | rw [if_neg (by omega)])); first | done | rfl | (simp only [ix]; done) | (simp only [ix]; rfl) | (subst_vars; first | rfl | grind))⟩ dX11_told_13
