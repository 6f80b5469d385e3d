theorem arrT {b : Nat} {s : State} (ty : FieldType) (h : (Cond.arrayClass ty).before #[Value.ref b] s = true) (h0 : ∀ c : ClassId, va_RA s c ty = (s.vm.findClass ("[" ++ ty.toString) = some c)) : ∃ c : ClassId, ArrOfT s c ty ∧ va_RA s c ty := by
  obtain ⟨c1, k1, comp, e1, e2, e3⟩ := Cond.arrayClass_spec h
  exact ⟨c1, fun n z => ⟨fun k h => (by cases h), k1, e2, comp, e3⟩, by rw [h0]; exact e1⟩
theorem arrG {b : Nat} {s : State} (t : FieldType) (h : (Cond.arrayOver (.array t)).before #[Value.ref b] s = true) (h0 : ∀ c : ClassId, va_RA s c (.array t) = (s.vm.findClass ("[" ++ (FieldType.array t).toString) = some c)) : ∃ c : ClassId, ArrOfT s c (.array t) ∧ va_RA s c (.array t) := by
  obtain ⟨comp, c1, k1, hcomp, hidx, hk, hkind, hname⟩ := arrayOver_specB h
  exact ⟨c1, fun n z => ⟨fun k h => (by cases h), k1, hk, comp, hkind⟩, by rw [h0]; exact hname⟩
set_option maxHeartbeats 4000000 in
set_option maxRecDepth 100000 in
/-- YOUR PART: from the entry, for every script of at most 3072 ints, the law comes to its end with true -/
theorem whole_start {p : Program} {e : Env} {s : State} {m : MethodId} {below : List Frame} {meth : Method} {c : Code} (l : Launch) {b L : Nat} {xs : Nat → Int32} (hL : L ≤ 3072) (C0 : lw_At p s m meth c b L xs) : W p l e room_1 s m #[Value.ref b] below meth c s.heap [] 0 0 (lw_Z below #[Value.ref b] s) (entryFrame m ([Value.ref b] : List Value).toArray 4) := by
  obtain ⟨hx, hb, hr, hml, hown, hts, hX, hbl, hlocks, hgv⟩ := id C0
  obtain ⟨c0, i0, k0⟩ := u_known (C := RX0) (T := TX0) (N := 5) (n := 5) hts inT_0 (hts (.instantiable RX0 5) (List.mem_of_getElem? (i := 108) rfl))
  obtain ⟨c1, i1, k1⟩ := u_known (C := RX1) (T := TX1) (N := 5) (n := 5) hts inT_1 (hts (.instantiable RX1 5) (List.mem_of_getElem? (i := 142) rfl))
  obtain ⟨c2, i2, k2⟩ := u_known (C := RX2) (T := TX2) (N := 2) (n := 2) hts inT_2 (hts (.instantiable RX2 2) (List.mem_of_getElem? (i := 86) rfl))
  obtain ⟨c3, i3, k3⟩ := u_known (C := RX3) (T := TX3) (N := 2) (n := 2) hts inT_3 (hts (.instantiable RX3 2) (List.mem_of_getElem? (i := 299) rfl))
  obtain ⟨c4, i4, k4⟩ := u_known (C := RX4) (T := TX4) (N := 7) (n := 7) hts inT_4 (hts (.instantiable RX4 7) (List.mem_of_getElem? (i := 171) rfl))
  obtain ⟨c5, i5, k5⟩ := u_known (C := RX5) (T := TX5) (N := 3) (n := 3) hts inT_5 (hts (.instantiable RX5 3) (List.mem_of_getElem? (i := 257) rfl))
  obtain ⟨c6, i6, k6⟩ := u_known (C := RX6) (T := TX6) (N := 8) (n := 8) hts inT_6 (hts (.instantiable RX6 8) (List.mem_of_getElem? (i := 203) rfl))
  obtain ⟨c7, i7, k7⟩ := u_known (C := RX7) (T := TX7) (N := 7) (n := 7) hts inT_7 (hts (.instantiable RX7 7) (List.mem_of_getElem? (i := 330) rfl))
  obtain ⟨c8, i8, k8⟩ := u_known (C := RX8) (T := TX8) (N := 5) (n := 5) hts inT_8 (hts (.instantiable RX8 5) (List.mem_of_getElem? (i := 293) rfl))
  obtain ⟨c9, i9, k9⟩ := u_known (C := RX9) (T := TX9) (N := 4) (n := 4) hts inT_9 (hts (.instantiable RX9 4) (List.mem_of_getElem? (i := 273) rfl))
  obtain ⟨c10, i10, k10⟩ := u_known (C := RX10) (T := TX10) (N := 13) (n := 13) hts inT_10 (hts (.instantiable RX10 13) (List.mem_of_getElem? (i := 78) rfl))
  obtain ⟨c11, i11, k11⟩ := u_known (C := RX11) (T := TX11) (N := 53) (n := 53) hts inT_11 (hts (.instantiable RX11 53) (List.mem_of_getElem? (i := 855) rfl))
  obtain ⟨dC, dI, hKc⟩ : ∃ (dC : Nat → ClassId) (dI : Nat → Nat → Nat), ∀ (k : Nat) (q : vw_C), w_cl[k]? = some q → u_Kn s q.1 q.2.1 q.2.2 (dC k) (dI k) := by
    refine ⟨fun k => ([c0, c1, c2, c3, c4, c5, c6, c7, c8, c9, c10, c11] : List ClassId).getD k c0, fun k => ([i0, i1, i2, i3, i4, i5, i6, i7, i8, i9, i10, i11] : List (Nat → Nat)).getD k i0, ?_⟩
    intro k q hq
    match k, hq with
    | 0, hq => cases hq; exact k0
    | 1, hq => cases hq; exact k1
    | 2, hq => cases hq; exact k2
    | 3, hq => cases hq; exact k3
    | 4, hq => cases hq; exact k4
    | 5, hq => cases hq; exact k5
    | 6, hq => cases hq; exact k6
    | 7, hq => cases hq; exact k7
    | 8, hq => cases hq; exact k8
    | 9, hq => cases hq; exact k9
    | 10, hq => cases hq; exact k10
    | 11, hq => cases hq; exact k11
    | k + 12, hq => simp [w_cl] at hq
  obtain ⟨d0, ha0⟩ := arrT .int (hts (.arrayClass .int) (List.mem_of_getElem? (i := 106) rfl)) (fun _ => rfl)
  obtain ⟨d1, ha1⟩ := arrT .long (hts (.arrayClass .long) (List.mem_of_getElem? (i := 255) rfl)) (fun _ => rfl)
  obtain ⟨d2, ha2⟩ := arrT .boolean (hts (.arrayClass .boolean) (List.mem_of_getElem? (i := 254) rfl)) (fun _ => rfl)
  obtain ⟨d3, ha3⟩ := arrG .int (hts (.arrayOver (.array .int)) (List.mem_of_getElem? (i := 114) rfl)) (fun _ => rfl)
  obtain ⟨d4, ha4⟩ := arrG .long (hts (.arrayOver (.array .long)) (List.mem_of_getElem? (i := 336) rfl)) (fun _ => rfl)
  obtain ⟨cs, hcs⟩ : ∃ cs : Nat → ClassId, cs = fun k => ([d0, d1, d2, d3, d4] : List ClassId).getD k d0 := ⟨_, rfl⟩
  have hK : va_K (dC, dI) w_cl (w_ty cs) s := by
    refine ⟨hKc, ?_⟩
    intro k q hq
    subst hcs
    match k, hq with
    | 0, hq => cases hq; exact ha0
    | 1, hq => cases hq; exact ha1
    | 2, hq => cases hq; exact ha2
    | 3, hq => cases hq; exact ha3
    | 4, hq => cases hq; exact ha4
    | k + 5, hq => simp [w_ty] at hq
  have hN : Nst s := ⟨⟨va_AOA.of (hts (.arrayOver (.array .int)) (List.mem_of_getElem? (i := 114) rfl)), va_AOA.of (hts (.arrayOver (.array .long)) (List.mem_of_getElem? (i := 336) rfl))⟩, va_Nw.of rfl (hts (.methodLinkNest RX10 9 yX2_init RX10) (List.mem_of_getElem? (i := 87) rfl)), va_Nw.of rfl (hts (.methodLinkNest RX10 18 yX0_init RX10) (List.mem_of_getElem? (i := 109) rfl)), va_Nw.of rfl (hts (.methodLinkNest RX10 25 yX1_init RX10) (List.mem_of_getElem? (i := 143) rfl)), va_Nw.of rfl (hts (.methodLinkNest RX10 32 yX4_init RX10) (List.mem_of_getElem? (i := 172) rfl)), va_Nw.of rfl (hts (.methodLinkNest RX10 71 yX7_init RX10) (List.mem_of_getElem? (i := 331) rfl)), va_Nw.of rfl (hts (.methodLinkNest RX8 24 yX3_init RX10) (List.mem_of_getElem? (i := 300) rfl))⟩
  have hs := flat_of_before _ hgv
  obtain ⟨sa, hsa, hTsa⟩ := va_Tof (args := #[Value.ref b]) (s := s) (tm := (Term.static "BallotHouse" "SORT_ABOVE" "[I")) (ty := .int) (N := 4) (f := fun j => .int (k_sort j)) (A := fun q : Nat => s.heap.size ≤ q) (by decide) (hs (Cond.arrayOf (Term.static "BallotHouse" "SORT_ABOVE" "[I") .int) (by decide +kernel)) (va_eqt (hs (Cond.eq (.length (Term.static "BallotHouse" "SORT_ABOVE" "[I")) (.int 4)) (by decide +kernel))) (by
    intro j hj
    rcases (show j = 0 ∨ j = 1 ∨ j = 2 ∨ j = 3 by omega) with rfl | rfl | rfl | rfl
    · exact va_eqt (hs (Cond.eq (.elem (Term.static "BallotHouse" "SORT_ABOVE" "[I") (.int 0)) (.int (-9))) (by decide +kernel))
    · exact va_eqt (hs (Cond.eq (.elem (Term.static "BallotHouse" "SORT_ABOVE" "[I") (.int 1)) (.int (0))) (by decide +kernel))
    · exact va_eqt (hs (Cond.eq (.elem (Term.static "BallotHouse" "SORT_ABOVE" "[I") (.int 2)) (.int (1))) (by decide +kernel))
    · exact va_eqt (hs (Cond.eq (.elem (Term.static "BallotHouse" "SORT_ABOVE" "[I") (.int 3)) (.int (0))) (by decide +kernel))) (fun a h => Nat.not_le.mpr h)
  obtain ⟨sk, hsk, hTsk⟩ := va_Tof (args := #[Value.ref b]) (s := s) (tm := (Term.static "BallotHouse" "KIND_ABOVE" "[I")) (ty := .int) (N := 9) (f := fun j => .int (k_kind j)) (A := fun q : Nat => s.heap.size ≤ q) (by decide) (hs (Cond.arrayOf (Term.static "BallotHouse" "KIND_ABOVE" "[I") .int) (by decide +kernel)) (va_eqt (hs (Cond.eq (.length (Term.static "BallotHouse" "KIND_ABOVE" "[I")) (.int 9)) (by decide +kernel))) (by
    intro j hj
    rcases (show j = 0 ∨ j = 1 ∨ j = 2 ∨ j = 3 ∨ j = 4 ∨ j = 5 ∨ j = 6 ∨ j = 7 ∨ j = 8 by omega) with rfl | rfl | rfl | rfl | rfl | rfl | rfl | rfl | rfl
    · exact va_eqt (hs (Cond.eq (.elem (Term.static "BallotHouse" "KIND_ABOVE" "[I") (.int 0)) (.int (-9))) (by decide +kernel))
    · exact va_eqt (hs (Cond.eq (.elem (Term.static "BallotHouse" "KIND_ABOVE" "[I") (.int 1)) (.int (-9))) (by decide +kernel))
    · exact va_eqt (hs (Cond.eq (.elem (Term.static "BallotHouse" "KIND_ABOVE" "[I") (.int 2)) (.int (1))) (by decide +kernel))
    · exact va_eqt (hs (Cond.eq (.elem (Term.static "BallotHouse" "KIND_ABOVE" "[I") (.int 3)) (.int (-9))) (by decide +kernel))
    · exact va_eqt (hs (Cond.eq (.elem (Term.static "BallotHouse" "KIND_ABOVE" "[I") (.int 4)) (.int (-9))) (by decide +kernel))
    · exact va_eqt (hs (Cond.eq (.elem (Term.static "BallotHouse" "KIND_ABOVE" "[I") (.int 5)) (.int (-9))) (by decide +kernel))
    · exact va_eqt (hs (Cond.eq (.elem (Term.static "BallotHouse" "KIND_ABOVE" "[I") (.int 6)) (.int (0))) (by decide +kernel))
    · exact va_eqt (hs (Cond.eq (.elem (Term.static "BallotHouse" "KIND_ABOVE" "[I") (.int 7)) (.int (6))) (by decide +kernel))
    · exact va_eqt (hs (Cond.eq (.elem (Term.static "BallotHouse" "KIND_ABOVE" "[I") (.int 8)) (.int (-9))) (by decide +kernel))) (fun a h => Nat.not_le.mpr h)
  have CIc : CI p s m #[Value.ref b] meth c code 4 lw_tbl RL (dC, dI) cs (fun q : Nat => s.heap.size ≤ q) := ⟨hx, hb, hml, hown, hts, hlocks, hK, hN, fun _ h => h⟩
  have key : GI p l e room_1 s m #[Value.ref b] below meth c (lw_Z below #[Value.ref b] s) (dC, dI) (fun q : Nat => s.heap.size ≤ q) 4 [(0, .ref b)] [] 0 0 0 [] := by
    refine i_new CIc (ci := 10) (fs := [.null, .null, .null, .null, .null, .null, .null, .null, .null, .null, .int 0, .int 0, .null]) inT_10 tyX10 tyX10_ok (List.mem_of_getElem? (i := 77) rfl) (List.mem_of_getElem? (i := 78) rfl) (List.mem_of_getElem? (i := 63) rfl) rfl (by intro j hj; rcases (show j = 0 ∨ j = 1 ∨ j = 2 ∨ j = 3 ∨ j = 4 ∨ j = 5 ∨ j = 6 ∨ j = 7 ∨ j = 8 ∨ j = 9 ∨ j = 10 ∨ j = 11 ∨ j = 12 by omega) with rfl | rfl | rfl | rfl | rfl | rfl | rfl | rfl | rfl | rfl | rfl | rfl | rfl <;> rfl) (Nat.le_of_ble_eq_true rfl) (Nat.le_of_ble_eq_true rfl) dL_law_0 (fun q1 => ?_)
    refine i_dup CIc dL_law_3 rfl ?_
    refine i_callP CIc (n := 0) (As := []) (st := [.ref q1]) (fun sz => k_X10 l (dC, dI) cs q1 sz) gl_X10_init rfl rfl rfl (List.mem_of_getElem? (i := 79) rfl) (hts _ (List.mem_of_getElem? (i := 63) rfl)) (List.mem_of_getElem? (i := 80) rfl) rfl (by decide +kernel) ⟨Nat.le_of_ble_eq_true rfl, Nat.le_of_ble_eq_true rfl⟩ rfl (Nat.le_of_ble_eq_true rfl) ⟨Nat.le_of_ble_eq_true rfl, Nat.le_of_ble_eq_true rfl⟩ rfl dL_law_4 (fun u1 hu1 => ?_)
    refine i_widen 258 3369 (Nat.le_of_ble_eq_true rfl) (Nat.le_of_ble_eq_true rfl) ?_
    refine i_astore_n CIc [(1, .ref q1), (0, .ref b)] dL_law_7 (by decide) rfl ?_
    refine i_new CIc (ci := 11) (fs := [.int 0, .null, .int 0, .null, .int 0, .null, .null, .null, .null, .int 0, .null, .null, .null, .null, .int 0, .null, .null, .null, .null, .null, .null, .null, .null, .long 0, .long 0, .int 0, .int 0, .int 0, .int 0, .int 0, .null, .int 0, .null, .null, .null, .null, .null, .null, .null, .null, .null, .null, .int 0, .null, .int 0, .null, .null, .null, .null, .null, .null, .null, .null]) inT_11 tyX11 tyX11_ok (List.mem_of_getElem? (i := 854) rfl) (List.mem_of_getElem? (i := 855) rfl) (List.mem_of_getElem? (i := 74) rfl) rfl (by intro j hj; rcases (show j = 0 ∨ j = 1 ∨ j = 2 ∨ j = 3 ∨ j = 4 ∨ j = 5 ∨ j = 6 ∨ j = 7 ∨ j = 8 ∨ j = 9 ∨ j = 10 ∨ j = 11 ∨ j = 12 ∨ j = 13 ∨ j = 14 ∨ j = 15 ∨ j = 16 ∨ j = 17 ∨ j = 18 ∨ j = 19 ∨ j = 20 ∨ j = 21 ∨ j = 22 ∨ j = 23 ∨ j = 24 ∨ j = 25 ∨ j = 26 ∨ j = 27 ∨ j = 28 ∨ j = 29 ∨ j = 30 ∨ j = 31 ∨ j = 32 ∨ j = 33 ∨ j = 34 ∨ j = 35 ∨ j = 36 ∨ j = 37 ∨ j = 38 ∨ j = 39 ∨ j = 40 ∨ j = 41 ∨ j = 42 ∨ j = 43 ∨ j = 44 ∨ j = 45 ∨ j = 46 ∨ j = 47 ∨ j = 48 ∨ j = 49 ∨ j = 50 ∨ j = 51 ∨ j = 52 by omega) with rfl | rfl | rfl | rfl | rfl | rfl | rfl | rfl | rfl | rfl | rfl | rfl | rfl | rfl | rfl | rfl | rfl | rfl | rfl | rfl | rfl | rfl | rfl | rfl | rfl | rfl | rfl | rfl | rfl | rfl | rfl | rfl | rfl | rfl | rfl | rfl | rfl | rfl | rfl | rfl | rfl | rfl | rfl | rfl | rfl | rfl | rfl | rfl | rfl | rfl | rfl | rfl | rfl <;> rfl) (Nat.le_of_ble_eq_true rfl) (Nat.le_of_ble_eq_true rfl) dL_law_8 (fun q2 => ?_)
    refine i_dup CIc dL_law_11 rfl ?_
    refine i_callP CIc (n := 0) (As := []) (st := [.ref q2]) (fun sz => k_X11 l (dC, dI) cs q2 sz) gl_X11_init rfl rfl rfl (List.mem_of_getElem? (i := 856) rfl) (hts _ (List.mem_of_getElem? (i := 74) rfl)) (List.mem_of_getElem? (i := 857) rfl) rfl (by decide +kernel) ⟨Nat.le_of_ble_eq_true rfl, Nat.le_of_ble_eq_true rfl⟩ rfl (Nat.le_of_ble_eq_true rfl) ⟨Nat.le_of_ble_eq_true rfl, Nat.le_of_ble_eq_true rfl⟩ rfl dL_law_12 (fun u2 hu2 => ?_)
    refine i_widen 297 6915 (Nat.le_of_ble_eq_true rfl) (Nat.le_of_ble_eq_true rfl) ?_
    refine i_astore_n CIc [(2, .ref q2), (1, .ref q1), (0, .ref b)] dL_law_15 (by decide) rfl ?_
    obtain ⟨a, r, r2, t, rfl⟩ := hu1
    obtain ⟨am, bm, cm, e2, rfl⟩ := hu2
    subst e2
    intro H locs ls hP hD hS hl
    have hW : ([] ++ w_house cs q1 a r r2 t) ++ w_model cs am bm cm 0 0 = wl (adf q1 a r r2 t am sa sk) cs M0 L0 := by rw [List.nil_append, world2 cs q1 a r r2 t am bm cm, world1 cs q1 a r r2 t am sa sk]
    have hP : va_P (dC, dI) w_cl (wl (adf q1 a r r2 t am sa sk) cs M0 L0) H := by rw [← hW]; exact hP
    have hD : va_D (fun q : Nat => s.heap.size ≤ q) (wl (adf q1 a r r2 t am sa sk) cs M0 L0) := by rw [← hW]; exact hD
    obtain ⟨ad, had⟩ : ∃ ad : Nat → Nat, ad = adf q1 a r r2 t am sa sk := ⟨_, rfl⟩
    have e0 : ad 0 = q1 := by rw [had]; rfl
    have e258 : ad 258 = am 0 := by rw [had]; rfl
    have e400 : ad 400 = sa := by rw [had]; rfl
    have e401 : ad 401 = sk := by rw [had]; rfl
    rw [← had] at hP hD
    have hI : Inj ad := fun i j hi hj h => hD.1 i j _ _ (wl_get hi) (wl_get hj) h
    have hnew : ∀ k, k < 297 → s.heap.size ≤ ad k := fun k hk => hD.2 k _ (wl_get hk)
    have hAr : ∀ q, Ar ad q → s.heap.size ≤ q := fun q h => by obtain ⟨k, hk, e⟩ := h; rw [← e]; exact hnew k hk
    have hbA : ¬ Ar ad b := fun h => absurd (hAr b h) (Nat.not_le.mpr hbl)
    have hZ : Zs ad s s.heap := by
      refine ⟨⟨?_, ?_⟩, ⟨?_, ?_⟩⟩
      · rw [e400]; exact (va_Zof (A := fun q : Nat => s.heap.size ≤ q) (hts (.laysStatic "BallotHouse" "SORT_ABOVE" "[I") (List.mem_of_getElem? (i := 439) rfl)) (hts (.initialized RX10) (List.mem_of_getElem? (i := 63) rfl)) hsa (fun a h => Nat.not_le.mpr h)).narrow hAr
      · rw [e400]; exact hTsa.narrow hAr
      · rw [e401]; exact (va_Zof (A := fun q : Nat => s.heap.size ≤ q) (hts (.laysStatic "BallotHouse" "KIND_ABOVE" "[I") (List.mem_of_getElem? (i := 566) rfl)) (hts (.initialized RX10) (List.mem_of_getElem? (i := 63) rfl)) hsk (fun a h => Nat.not_le.mpr h)).narrow hAr
      · rw [e401]; exact hTsk.narrow hAr
    have hAm : Am (dC, dI) ad cs s := ⟨hK, hI, va_Nw.of rfl (hts (.methodLinkNest RX0 33 yX10_isUnder RX10) (List.mem_of_getElem? (i := 458) rfl)), va_Nw.of rfl (hts (.fieldLinkNest RX0 30 "BallotHouse" "SORT_ABOVE" "[I" RX10) (List.mem_of_getElem? (i := 457) rfl))⟩
    have C : Cx p s m #[Value.ref b] meth c code 4 lw_tbl RL (dC, dI) ad cs := ⟨hx, hb, hml, hown, hts, hlocks, hAm, hZ⟩
    refine va_forget (fun q hq => hS.2.2 q hq) ?_
    exact law_go C hr hL hX hbl hbA hnew H [] ls hP ⟨hS.1, fun q h1 h2 => hS.2.1 q h1 (Nat.not_le.mpr h1), fun _ h => by cases h⟩ (by rw [e0, e258]; exact hl)
  rw [lg_entry_eq]
  exact key s.heap [] _ (fun k q h => by simp at h) ⟨fun i j p q h => by simp at h, fun k q h => by simp at h⟩ va_S.rf (lv_entry [.ref b] (Nat.le_of_ble_eq_true rfl))
