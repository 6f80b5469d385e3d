section OWN2
variable {p : Program} {l : Launch} {e : Env} {R : Room} {s : State} {m : MethodId} {args : Array Value} {below : List Frame} {meth : Method} {c : Code} {cells slots : Nat} {Q : State → Prop} {D : va_G} {ad : Nat → Nat} {cs : Nat → ClassId} {nL : Nat} {M : MI} {L : ML} {pc : Nat} {lv : List (Nat × Value)} {st : List Value} {cc : ByteArray} {Ts : List Cond} {own : String}
theorem g_callSNi (C : Cx p s m args meth c cc nL Ts own D ad cs) {y : MethodName} {host : String} {bytes : ByteArray} {maxL n index : Nat} {ret : Option FieldType} {ws ws1 : List Cond} {rm : Room} {As : List Value} {post : Int32 → MI → ML → Prop} (hM : Ci l y ws rm D ad cs As M L post) (hT : GoodIn Ts ws) (hw : ws = Cond.code y bytes maxL ret :: ws1) (hrc : rm.cells = 0) (hrs : rm.slots = 0) (hlk : va_Nw (.methodLinkNest own index y host) s) (hini : (Cond.initialized y.cls).before args s = true) (hsta : Cond.static y ∈ Ts) (hdd : y.cls ≠ "java/lang/invoke/MethodHandle" ∧ y.cls ≠ "java/lang/invoke/VarHandle" ∧ (parseMethodDescriptor y.desc).map (fun d => d.parameters.length) = some n) (hR : rm.frames + 1 ≤ R.frames ∧ 8 + (maxL + 11) + rm.locals ≤ R.locals) (hn : As.length = n) (hroom : (st.map fun v => v.category).sum ≤ 8) (hf : cells ≤ R.cells ∧ slots ≤ R.slots) {st0 : List Value} (hst : st0 = As.reverse ++ st) (hd : decode cc pc = .ok (.invokestatic index, 3)) (kk : ∀ (r : Int32) (M1 : MI) (L1 : ML), post r M1 L1 → G p l e R s m args below meth c cells slots Q D ad cs nL M1 L1 (pc + 3) lv (.int r :: st)) : G p l e R s m args below meth c cells slots Q D ad cs nL M L pc lv st0 := fun H locs ls hH hS hl => va_calli (va_runSN ⟨C.1, C.2.1, C.2.2.1, C.2.2.2.1, C.2.2.2.2.1⟩ hM ⟨va_cnB n C.2.2.2.2.1 hT hw hrc hrs hlk hini hdd hR, C.2.2.2.2.1 _ hsta, trivial⟩ ⟨Pre_blind D ad cs M L _, fun U hU hW => ⟨rfl, pre_at C hH hS hU hW⟩⟩ rfl hn hl.1 hst (lv_room hroom) hd hf) hS (fun q _ h => h) (fun q h => h) (fun r u t H1 locs1 ht hvm hw9 hB hz hk9 hS1 => kk r u.1 u.2 hw9 H1 locs1 ls (by rw [ht] at hB; exact hB) hS1 hl)
end OWN2
theorem z_to {r : Int32} (h : r = 0 ∨ r = 1) : 0 ≤ r.toInt ∧ r.toInt ≤ 1 := by
  rcases h with rfl | rfl <;> exact ⟨by decide, by decide⟩
theorem z_of {r : Int32} (h1 : 0 ≤ r.toInt) (h2 : r.toInt ≤ 1) : r = 0 ∨ r = 1 := by
  rcases (show r.toInt = 0 ∨ r.toInt = 1 by omega) with h | h
  · exact Or.inl (Int32.toInt_inj.mp h)
  · exact Or.inr (Int32.toInt_inj.mp h)
theorem has_t {r i n : Int32} (hr : r = if 0 ≤ i ∧ i < n then 1 else 0) (c : ¬ r = 0) : 0 ≤ i.toInt ∧ i.toInt < n.toInt := by
  by_cases h : 0 ≤ i ∧ i < n
  · exact ⟨Int32.le_iff_toInt_le.mp h.1, Int32.lt_iff_toInt_lt.mp h.2⟩
  · rw [if_neg h] at hr; exact absurd hr c
theorem dX2_change_0 : decode cX2_change 0 = .ok (.aload_n 0, 1) := dw42 (n := 0) (i := 0) kc_cX2_change_0 (by decide +kernel)
theorem dX2_change_1 : decode cX2_change 1 = .ok (.getfield 15, 3) := dw180 (n := 0) (i := 1) (a := 0) (b := 15) kc_cX2_change_0 (by decide +kernel) (by decide)
theorem in_X2_change_2 : ∀ w ∈ u_ws RX2 TX2 2, w ∈ wsX2_change := fun _ h => List.mem_cons_of_mem _ (List.mem_append_right _ h)
theorem dX2_change_4 : decode cX2_change 4 = .ok (.iload_n 1, 1) := dw27 (n := 0) (i := 4) kc_cX2_change_0 (by decide +kernel)
theorem dX2_change_5 : decode cX2_change 5 = .ok (.iaload, 1) := dw46 (n := 0) (i := 5) kc_cX2_change_0 (by decide +kernel)
theorem dX2_change_6 : decode cX2_change 6 = .ok (.istore_n 3, 1) := dw62 (n := 0) (i := 6) kc_cX2_change_0 (by decide +kernel)
theorem dX2_change_7 : decode cX2_change 7 = .ok (.aload_n 0, 1) := dw42 (n := 0) (i := 7) kc_cX2_change_0 (by decide +kernel)
theorem dX2_change_8 : decode cX2_change 8 = .ok (.getfield 15, 3) := dw180 (n := 0) (i := 8) (a := 0) (b := 15) kc_cX2_change_0 (by decide +kernel) (by decide)
theorem dX2_change_11 : decode cX2_change 11 = .ok (.iload_n 1, 1) := dw27 (n := 0) (i := 11) kc_cX2_change_0 (by decide +kernel)
theorem dX2_change_12 : decode cX2_change 12 = .ok (.aload_n 0, 1) := dw42 (n := 0) (i := 12) kc_cX2_change_0 (by decide +kernel)
theorem dX2_change_13 : decode cX2_change 13 = .ok (.getfield 15, 3) := dw180 (n := 0) (i := 13) (a := 0) (b := 15) kc_cX2_change_0 (by decide +kernel) (by decide)
theorem dX2_change_16 : decode cX2_change 16 = .ok (.iload_n 2, 1) := dw28 (n := 0) (i := 16) kc_cX2_change_0 (by decide +kernel)
theorem dX2_change_17 : decode cX2_change 17 = .ok (.iaload, 1) := dw46 (n := 0) (i := 17) kc_cX2_change_0 (by decide +kernel)
theorem dX2_change_18 : decode cX2_change 18 = .ok (.iastore, 1) := dw79 (n := 0) (i := 18) kc_cX2_change_0 (by decide +kernel)
theorem dX2_change_19 : decode cX2_change 19 = .ok (.aload_n 0, 1) := dw42 (n := 0) (i := 19) kc_cX2_change_0 (by decide +kernel)
theorem dX2_change_20 : decode cX2_change 20 = .ok (.getfield 15, 3) := dw180 (n := 0) (i := 20) (a := 0) (b := 15) kc_cX2_change_0 (by decide +kernel) (by decide)
theorem dX2_change_23 : decode cX2_change 23 = .ok (.iload_n 2, 1) := dw28 (n := 0) (i := 23) kc_cX2_change_0 (by decide +kernel)
theorem dX2_change_24 : decode cX2_change 24 = .ok (.iload_n 3, 1) := dw29 (n := 0) (i := 24) kc_cX2_change_0 (by decide +kernel)
theorem dX2_change_25 : decode cX2_change 25 = .ok (.iastore, 1) := dw79 (n := 0) (i := 25) kc_cX2_change_0 (by decide +kernel)
theorem dX2_change_26 : decode cX2_change 26 = .ok (.return_, 1) := dw177 (n := 0) (i := 26) kc_cX2_change_0 (by decide +kernel)
theorem dX2_come_0 : decode cX2_come 0 = .ok (.aload_n 0, 1) := dw42 (n := 0) (i := 0) kc_cX2_come_0 (by decide +kernel)
theorem dX2_come_1 : decode cX2_come 1 = .ok (.getfield 9, 3) := dw180 (n := 0) (i := 1) (a := 0) (b := 9) kc_cX2_come_0 (by decide +kernel) (by decide)
theorem in_X2_come_2 : ∀ w ∈ u_ws RX2 TX2 2, w ∈ wsX2_come := fun _ h => List.mem_cons_of_mem _ (List.mem_append_right _ h)
theorem dX2_come_4 : decode cX2_come 4 = .ok (.bipush 10, 2) := dw16 (n := 0) (i := 4) (a := 10) kc_cX2_come_0 (by decide +kernel) (by decide)
theorem dX2_come_6 : decode cX2_come 6 = .ok (.if_icmp .ne 6, 3) := dw160 (n := 0) (i := 6) (a := 0) (b := 6) kc_cX2_come_0 (by decide +kernel) (by decide)
theorem dX2_come_12 : decode cX2_come 12 = .ok (.aload_n 0, 1) := dw42 (n := 0) (i := 12) kc_cX2_come_0 (by decide +kernel)
theorem dX2_come_13 : decode cX2_come 13 = .ok (.getfield 15, 3) := dw180 (n := 0) (i := 13) (a := 0) (b := 15) kc_cX2_come_0 (by decide +kernel) (by decide)
theorem dX2_come_16 : decode cX2_come 16 = .ok (.aload_n 0, 1) := dw42 (n := 0) (i := 16) kc_cX2_come_0 (by decide +kernel)
theorem dX2_come_17 : decode cX2_come 17 = .ok (.getfield 9, 3) := dw180 (n := 0) (i := 17) (a := 0) (b := 9) kc_cX2_come_0 (by decide +kernel) (by decide)
theorem dX2_come_20 : decode cX2_come 20 = .ok (.aload_n 0, 1) := dw42 (n := 0) (i := 20) kc_cX2_come_0 (by decide +kernel)
theorem dX2_come_21 : decode cX2_come 21 = .ok (.getfield 9, 3) := dw180 (n := 0) (i := 21) (a := 0) (b := 9) kc_cX2_come_0 (by decide +kernel) (by decide)
theorem dX2_come_24 : decode cX2_come 24 = .ok (.iastore, 1) := dw79 (n := 0) (i := 24) kc_cX2_come_0 (by decide +kernel)
theorem dX2_come_25 : decode cX2_come 25 = .ok (.aload_n 0, 1) := dw42 (n := 0) (i := 25) kc_cX2_come_0 (by decide +kernel)
theorem dX2_come_26 : decode cX2_come 26 = .ok (.dup, 1) := dw89 (n := 0) (i := 26) kc_cX2_come_0 (by decide +kernel)
theorem dX2_come_27 : decode cX2_come 27 = .ok (.getfield 9, 3) := dw180 (n := 0) (i := 27) (a := 0) (b := 9) kc_cX2_come_0 (by decide +kernel) (by decide)
theorem dX2_come_30 : decode cX2_come 30 = .ok (.iconst 1, 1) := dw4 (n := 0) (i := 30) kc_cX2_come_0 (by decide +kernel)
theorem dX2_come_31 : decode cX2_come 31 = .ok (.iadd, 1) := dw96 (n := 0) (i := 31) kc_cX2_come_0 (by decide +kernel)
theorem dX2_come_32 : decode cX2_come 32 = .ok (.putfield 9, 3) := dw181 (n := 32) (i := 0) (a := 0) (b := 9) kc_cX2_come_1 (by decide +kernel) (by decide)
theorem dX2_come_35 : decode cX2_come 35 = .ok (.aload_n 0, 1) := dw42 (n := 32) (i := 3) kc_cX2_come_1 (by decide +kernel)
theorem dX2_come_36 : decode cX2_come 36 = .ok (.getfield 9, 3) := dw180 (n := 32) (i := 4) (a := 0) (b := 9) kc_cX2_come_1 (by decide +kernel) (by decide)
theorem dX2_come_39 : decode cX2_come 39 = .ok (.iconst 1, 1) := dw4 (n := 32) (i := 7) kc_cX2_come_1 (by decide +kernel)
theorem dX2_come_40 : decode cX2_come 40 = .ok (.isub, 1) := dw100 (n := 32) (i := 8) kc_cX2_come_1 (by decide +kernel)
theorem dX2_come_41 : decode cX2_come 41 = .ok (.ireturn, 1) := dw172 (n := 32) (i := 9) kc_cX2_come_1 (by decide +kernel)
theorem dX2_come_9 : decode cX2_come 9 = .ok (.bipush (-2), 2) := dw16 (n := 0) (i := 9) (a := 254) kc_cX2_come_0 (by decide +kernel) (by decide)
theorem dX2_come_11 : decode cX2_come 11 = .ok (.ireturn, 1) := dw172 (n := 0) (i := 11) kc_cX2_come_0 (by decide +kernel)
theorem dX0_come_0 : decode cX0_come 0 = .ok (.aload_n 0, 1) := dw42 (n := 0) (i := 0) kc_cX0_come_0 (by decide +kernel)
theorem dX0_come_1 : decode cX0_come 1 = .ok (.getfield 9, 3) := dw180 (n := 0) (i := 1) (a := 0) (b := 9) kc_cX0_come_0 (by decide +kernel) (by decide)
theorem in_X0_come_0 : ∀ w ∈ u_ws RX0 TX0 5, w ∈ wsX0_come := fun _ h => List.mem_cons_of_mem _ (List.mem_append_right _ h)
theorem dX0_come_4 : decode cX0_come 4 = .ok (.bipush 60, 2) := dw16 (n := 0) (i := 4) (a := 60) kc_cX0_come_0 (by decide +kernel) (by decide)
theorem dX0_come_6 : decode cX0_come 6 = .ok (.if_icmp .ne 6, 3) := dw160 (n := 0) (i := 6) (a := 0) (b := 6) kc_cX0_come_0 (by decide +kernel) (by decide)
theorem dX0_come_12 : decode cX0_come 12 = .ok (.aload_n 0, 1) := dw42 (n := 0) (i := 12) kc_cX0_come_0 (by decide +kernel)
theorem dX0_come_13 : decode cX0_come 13 = .ok (.getfield 15, 3) := dw180 (n := 0) (i := 13) (a := 0) (b := 15) kc_cX0_come_0 (by decide +kernel) (by decide)
theorem dX0_come_16 : decode cX0_come 16 = .ok (.aload_n 0, 1) := dw42 (n := 0) (i := 16) kc_cX0_come_0 (by decide +kernel)
theorem dX0_come_17 : decode cX0_come 17 = .ok (.getfield 9, 3) := dw180 (n := 0) (i := 17) (a := 0) (b := 9) kc_cX0_come_0 (by decide +kernel) (by decide)
theorem dX0_come_20 : decode cX0_come 20 = .ok (.iload_n 1, 1) := dw27 (n := 0) (i := 20) kc_cX0_come_0 (by decide +kernel)
theorem dX0_come_21 : decode cX0_come 21 = .ok (.iastore, 1) := dw79 (n := 0) (i := 21) kc_cX0_come_0 (by decide +kernel)
theorem dX0_come_22 : decode cX0_come 22 = .ok (.aload_n 0, 1) := dw42 (n := 0) (i := 22) kc_cX0_come_0 (by decide +kernel)
theorem dX0_come_23 : decode cX0_come 23 = .ok (.getfield 19, 3) := dw180 (n := 0) (i := 23) (a := 0) (b := 19) kc_cX0_come_0 (by decide +kernel) (by decide)
theorem dX0_come_26 : decode cX0_come 26 = .ok (.aload_n 0, 1) := dw42 (n := 0) (i := 26) kc_cX0_come_0 (by decide +kernel)
theorem dX0_come_27 : decode cX0_come 27 = .ok (.getfield 9, 3) := dw180 (n := 0) (i := 27) (a := 0) (b := 9) kc_cX0_come_0 (by decide +kernel) (by decide)
theorem dX0_come_30 : decode cX0_come 30 = .ok (.iload_n 2, 1) := dw28 (n := 0) (i := 30) kc_cX0_come_0 (by decide +kernel)
theorem dX0_come_31 : decode cX0_come 31 = .ok (.iastore, 1) := dw79 (n := 0) (i := 31) kc_cX0_come_0 (by decide +kernel)
theorem dX0_come_32 : decode cX0_come 32 = .ok (.aload_n 0, 1) := dw42 (n := 32) (i := 0) kc_cX0_come_1 (by decide +kernel)
theorem dX0_come_33 : decode cX0_come 33 = .ok (.dup, 1) := dw89 (n := 32) (i := 1) kc_cX0_come_1 (by decide +kernel)
theorem dX0_come_34 : decode cX0_come 34 = .ok (.getfield 9, 3) := dw180 (n := 32) (i := 2) (a := 0) (b := 9) kc_cX0_come_1 (by decide +kernel) (by decide)
theorem dX0_come_37 : decode cX0_come 37 = .ok (.iconst 1, 1) := dw4 (n := 32) (i := 5) kc_cX0_come_1 (by decide +kernel)
theorem dX0_come_38 : decode cX0_come 38 = .ok (.iadd, 1) := dw96 (n := 32) (i := 6) kc_cX0_come_1 (by decide +kernel)
theorem dX0_come_39 : decode cX0_come 39 = .ok (.putfield 9, 3) := dw181 (n := 32) (i := 7) (a := 0) (b := 9) kc_cX0_come_1 (by decide +kernel) (by decide)
theorem dX0_come_42 : decode cX0_come 42 = .ok (.aload_n 0, 1) := dw42 (n := 32) (i := 10) kc_cX0_come_1 (by decide +kernel)
theorem dX0_come_43 : decode cX0_come 43 = .ok (.getfield 9, 3) := dw180 (n := 32) (i := 11) (a := 0) (b := 9) kc_cX0_come_1 (by decide +kernel) (by decide)
theorem dX0_come_46 : decode cX0_come 46 = .ok (.iconst 1, 1) := dw4 (n := 32) (i := 14) kc_cX0_come_1 (by decide +kernel)
theorem dX0_come_47 : decode cX0_come 47 = .ok (.isub, 1) := dw100 (n := 32) (i := 15) kc_cX0_come_1 (by decide +kernel)
theorem dX0_come_48 : decode cX0_come 48 = .ok (.ireturn, 1) := dw172 (n := 32) (i := 16) kc_cX0_come_1 (by decide +kernel)
theorem dX0_come_9 : decode cX0_come 9 = .ok (.bipush (-2), 2) := dw16 (n := 0) (i := 9) (a := 254) kc_cX0_come_0 (by decide +kernel) (by decide)
theorem dX0_come_11 : decode cX0_come 11 = .ok (.ireturn, 1) := dw172 (n := 0) (i := 11) kc_cX0_come_0 (by decide +kernel)
theorem dX0_placeOf_0 : decode cX0_placeOf 0 = .ok (.iconst 0, 1) := dw3 (n := 0) (i := 0) kc_cX0_placeOf_0 (by decide +kernel)
theorem dX0_placeOf_1 : decode cX0_placeOf 1 = .ok (.istore_n 3, 1) := dw62 (n := 0) (i := 1) kc_cX0_placeOf_0 (by decide +kernel)
theorem dX0_placeOf_2 : decode cX0_placeOf 2 = .ok (.iload_n 3, 1) := dw29 (n := 0) (i := 2) kc_cX0_placeOf_0 (by decide +kernel)
theorem dX0_placeOf_3 : decode cX0_placeOf 3 = .ok (.aload_n 0, 1) := dw42 (n := 0) (i := 3) kc_cX0_placeOf_0 (by decide +kernel)
theorem dX0_placeOf_4 : decode cX0_placeOf 4 = .ok (.getfield 22, 3) := dw180 (n := 0) (i := 4) (a := 0) (b := 22) kc_cX0_placeOf_0 (by decide +kernel) (by decide)
theorem in_X0_placeOf_0 : ∀ w ∈ u_ws RX0 TX0 5, w ∈ wsX0_placeOf := fun _ h => List.mem_cons_of_mem _ (List.mem_append_right _ h)
theorem dX0_placeOf_7 : decode cX0_placeOf 7 = .ok (.iload_n 1, 1) := dw27 (n := 0) (i := 7) kc_cX0_placeOf_0 (by decide +kernel)
theorem dX0_placeOf_8 : decode cX0_placeOf 8 = .ok (.iaload, 1) := dw46 (n := 0) (i := 8) kc_cX0_placeOf_0 (by decide +kernel)
theorem dX0_placeOf_9 : decode cX0_placeOf 9 = .ok (.if_icmp .ge 23, 3) := dw162 (n := 0) (i := 9) (a := 0) (b := 23) kc_cX0_placeOf_0 (by decide +kernel) (by decide)
theorem dX0_placeOf_32 : decode cX0_placeOf 32 = .ok (.bipush 10, 2) := dw16 (n := 32) (i := 0) (a := 10) kc_cX0_placeOf_1 (by decide +kernel) (by decide)
theorem dX0_placeOf_34 : decode cX0_placeOf 34 = .ok (.ireturn, 1) := dw172 (n := 32) (i := 2) kc_cX0_placeOf_1 (by decide +kernel)
theorem dX0_placeOf_12 : decode cX0_placeOf 12 = .ok (.aload_n 0, 1) := dw42 (n := 0) (i := 12) kc_cX0_placeOf_0 (by decide +kernel)
theorem dX0_placeOf_13 : decode cX0_placeOf 13 = .ok (.getfield 27, 3) := dw180 (n := 0) (i := 13) (a := 0) (b := 27) kc_cX0_placeOf_0 (by decide +kernel) (by decide)
theorem dX0_placeOf_16 : decode cX0_placeOf 16 = .ok (.iload_n 1, 1) := dw27 (n := 0) (i := 16) kc_cX0_placeOf_0 (by decide +kernel)
theorem dX0_placeOf_17 : decode cX0_placeOf 17 = .ok (.aaload, 1) := dw50 (n := 0) (i := 17) kc_cX0_placeOf_0 (by decide +kernel)
theorem dX0_placeOf_18 : decode cX0_placeOf 18 = .ok (.iload_n 3, 1) := dw29 (n := 0) (i := 18) kc_cX0_placeOf_0 (by decide +kernel)
theorem dX0_placeOf_19 : decode cX0_placeOf 19 = .ok (.iaload, 1) := dw46 (n := 0) (i := 19) kc_cX0_placeOf_0 (by decide +kernel)
theorem dX0_placeOf_20 : decode cX0_placeOf 20 = .ok (.iload_n 2, 1) := dw28 (n := 0) (i := 20) kc_cX0_placeOf_0 (by decide +kernel)
theorem dX0_placeOf_21 : decode cX0_placeOf 21 = .ok (.if_icmp .ne 5, 3) := dw160 (n := 0) (i := 21) (a := 0) (b := 5) kc_cX0_placeOf_0 (by decide +kernel) (by decide)
theorem dX0_placeOf_26 : decode cX0_placeOf 26 = .ok (.iinc 3 1, 3) := by decide +kernel
theorem dX0_placeOf_29 : decode cX0_placeOf 29 = .ok (.goto (-27), 3) := dw167 (n := 0) (i := 29) (a := 255) (b := 229) kc_cX0_placeOf_0 (by decide +kernel) (by decide)
theorem dX0_placeOf_24 : decode cX0_placeOf 24 = .ok (.iload_n 3, 1) := dw29 (n := 0) (i := 24) kc_cX0_placeOf_0 (by decide +kernel)
theorem dX0_placeOf_25 : decode cX0_placeOf 25 = .ok (.ireturn, 1) := dw172 (n := 0) (i := 25) kc_cX0_placeOf_0 (by decide +kernel)
theorem dX0_allPoints_0 : decode cX0_allPoints 0 = .ok (.iconst 0, 1) := dw3 (n := 0) (i := 0) kc_cX0_allPoints_0 (by decide +kernel)
theorem dX0_allPoints_1 : decode cX0_allPoints 1 = .ok (.istore_n 2, 1) := dw61 (n := 0) (i := 1) kc_cX0_allPoints_0 (by decide +kernel)
theorem dX0_allPoints_2 : decode cX0_allPoints 2 = .ok (.iconst 0, 1) := dw3 (n := 0) (i := 2) kc_cX0_allPoints_0 (by decide +kernel)
theorem dX0_allPoints_3 : decode cX0_allPoints 3 = .ok (.istore_n 3, 1) := dw62 (n := 0) (i := 3) kc_cX0_allPoints_0 (by decide +kernel)
theorem dX0_allPoints_4 : decode cX0_allPoints 4 = .ok (.iload_n 3, 1) := dw29 (n := 0) (i := 4) kc_cX0_allPoints_0 (by decide +kernel)
theorem dX0_allPoints_5 : decode cX0_allPoints 5 = .ok (.bipush 10, 2) := dw16 (n := 0) (i := 5) (a := 10) kc_cX0_allPoints_0 (by decide +kernel) (by decide)
theorem dX0_allPoints_7 : decode cX0_allPoints 7 = .ok (.if_icmp .ge 20, 3) := dw162 (n := 0) (i := 7) (a := 0) (b := 20) kc_cX0_allPoints_0 (by decide +kernel) (by decide)
theorem dX0_allPoints_27 : decode cX0_allPoints 27 = .ok (.iload_n 2, 1) := dw28 (n := 0) (i := 27) kc_cX0_allPoints_0 (by decide +kernel)
theorem dX0_allPoints_28 : decode cX0_allPoints 28 = .ok (.ireturn, 1) := dw172 (n := 0) (i := 28) kc_cX0_allPoints_0 (by decide +kernel)
theorem dX0_allPoints_10 : decode cX0_allPoints 10 = .ok (.iload_n 2, 1) := dw28 (n := 0) (i := 10) kc_cX0_allPoints_0 (by decide +kernel)
theorem dX0_allPoints_11 : decode cX0_allPoints 11 = .ok (.aload_n 0, 1) := dw42 (n := 0) (i := 11) kc_cX0_allPoints_0 (by decide +kernel)
theorem dX0_allPoints_12 : decode cX0_allPoints 12 = .ok (.getfield 27, 3) := dw180 (n := 0) (i := 12) (a := 0) (b := 27) kc_cX0_allPoints_0 (by decide +kernel) (by decide)
theorem in_X0_allPoints_0 : ∀ w ∈ u_ws RX0 TX0 5, w ∈ wsX0_allPoints := fun _ h => List.mem_cons_of_mem _ (List.mem_append_right _ h)
theorem dX0_allPoints_15 : decode cX0_allPoints 15 = .ok (.iload_n 1, 1) := dw27 (n := 0) (i := 15) kc_cX0_allPoints_0 (by decide +kernel)
theorem dX0_allPoints_16 : decode cX0_allPoints 16 = .ok (.aaload, 1) := dw50 (n := 0) (i := 16) kc_cX0_allPoints_0 (by decide +kernel)
theorem dX0_allPoints_17 : decode cX0_allPoints 17 = .ok (.iload_n 3, 1) := dw29 (n := 0) (i := 17) kc_cX0_allPoints_0 (by decide +kernel)
theorem dX0_allPoints_18 : decode cX0_allPoints 18 = .ok (.iaload, 1) := dw46 (n := 0) (i := 18) kc_cX0_allPoints_0 (by decide +kernel)
theorem dX0_allPoints_19 : decode cX0_allPoints 19 = .ok (.iadd, 1) := dw96 (n := 0) (i := 19) kc_cX0_allPoints_0 (by decide +kernel)
theorem dX0_allPoints_20 : decode cX0_allPoints 20 = .ok (.istore_n 2, 1) := dw61 (n := 0) (i := 20) kc_cX0_allPoints_0 (by decide +kernel)
theorem dX0_allPoints_21 : decode cX0_allPoints 21 = .ok (.iinc 3 1, 3) := by decide +kernel
theorem dX0_allPoints_24 : decode cX0_allPoints 24 = .ok (.goto (-20), 3) := dw167 (n := 0) (i := 24) (a := 255) (b := 236) kc_cX0_allPoints_0 (by decide +kernel) (by decide)
theorem dX10_found_0 : decode cX10_found 0 = .ok (.aload_n 0, 1) := dw42 (n := 0) (i := 0) kc_cX10_found_0 (by decide +kernel)
theorem dX10_found_1 : decode cX10_found 1 = .ok (.iload_n 1, 1) := dw27 (n := 0) (i := 1) kc_cX10_found_0 (by decide +kernel)
theorem dX10_found_2 : decode cX10_found 2 = .ok (.putfield 83, 3) := dw181 (n := 0) (i := 2) (a := 0) (b := 83) kc_cX10_found_0 (by decide +kernel) (by decide)
theorem in_X10_found_10 : ∀ w ∈ u_ws RX10 TX10 13, w ∈ wsX10_found := fun _ h => List.mem_cons_of_mem _ (List.mem_append_right _ h)
theorem dX10_found_5 : decode cX10_found 5 = .ok (.aload_n 0, 1) := dw42 (n := 0) (i := 5) kc_cX10_found_0 (by decide +kernel)
theorem dX10_found_6 : decode cX10_found 6 = .ok (.getfield 86, 3) := dw180 (n := 0) (i := 6) (a := 0) (b := 86) kc_cX10_found_0 (by decide +kernel) (by decide)
theorem dX10_found_9 : decode cX10_found 9 = .ok (.iload_n 1, 1) := dw27 (n := 0) (i := 9) kc_cX10_found_0 (by decide +kernel)
theorem dX10_found_10 : decode cX10_found 10 = .ok (.dup2, 1) := dw92 (n := 0) (i := 10) kc_cX10_found_0 (by decide +kernel)
theorem dX10_found_11 : decode cX10_found 11 = .ok (.iaload, 1) := dw46 (n := 0) (i := 11) kc_cX10_found_0 (by decide +kernel)
theorem dX10_found_12 : decode cX10_found 12 = .ok (.iconst 1, 1) := dw4 (n := 0) (i := 12) kc_cX10_found_0 (by decide +kernel)
theorem dX10_found_13 : decode cX10_found 13 = .ok (.iadd, 1) := dw96 (n := 0) (i := 13) kc_cX10_found_0 (by decide +kernel)
theorem dX10_found_14 : decode cX10_found 14 = .ok (.iastore, 1) := dw79 (n := 0) (i := 14) kc_cX10_found_0 (by decide +kernel)
theorem dX10_found_15 : decode cX10_found 15 = .ok (.bipush (-3), 2) := dw16 (n := 0) (i := 15) (a := 253) kc_cX10_found_0 (by decide +kernel) (by decide)
theorem dX10_found_17 : decode cX10_found 17 = .ok (.ireturn, 1) := dw172 (n := 0) (i := 17) kc_cX10_found_0 (by decide +kernel)
theorem dX0_append_0 : decode cX0_append 0 = .ok (.aload_n 0, 1) := dw42 (n := 0) (i := 0) kc_cX0_append_0 (by decide +kernel)
theorem dX0_append_1 : decode cX0_append 1 = .ok (.getfield 27, 3) := dw180 (n := 0) (i := 1) (a := 0) (b := 27) kc_cX0_append_0 (by decide +kernel) (by decide)
theorem in_X0_append_0 : ∀ w ∈ u_ws RX0 TX0 5, w ∈ wsX0_append := fun _ h => List.mem_cons_of_mem _ (List.mem_append_right _ h)
theorem dX0_append_4 : decode cX0_append 4 = .ok (.iload_n 1, 1) := dw27 (n := 0) (i := 4) kc_cX0_append_0 (by decide +kernel)
theorem dX0_append_5 : decode cX0_append 5 = .ok (.aaload, 1) := dw50 (n := 0) (i := 5) kc_cX0_append_0 (by decide +kernel)
theorem dX0_append_6 : decode cX0_append 6 = .ok (.aload_n 0, 1) := dw42 (n := 0) (i := 6) kc_cX0_append_0 (by decide +kernel)
theorem dX0_append_7 : decode cX0_append 7 = .ok (.getfield 22, 3) := dw180 (n := 0) (i := 7) (a := 0) (b := 22) kc_cX0_append_0 (by decide +kernel) (by decide)
theorem dX0_append_10 : decode cX0_append 10 = .ok (.iload_n 1, 1) := dw27 (n := 0) (i := 10) kc_cX0_append_0 (by decide +kernel)
theorem dX0_append_11 : decode cX0_append 11 = .ok (.iaload, 1) := dw46 (n := 0) (i := 11) kc_cX0_append_0 (by decide +kernel)
theorem dX0_append_12 : decode cX0_append 12 = .ok (.iload_n 2, 1) := dw28 (n := 0) (i := 12) kc_cX0_append_0 (by decide +kernel)
theorem dX0_append_13 : decode cX0_append 13 = .ok (.iastore, 1) := dw79 (n := 0) (i := 13) kc_cX0_append_0 (by decide +kernel)
theorem dX0_append_14 : decode cX0_append 14 = .ok (.aload_n 0, 1) := dw42 (n := 0) (i := 14) kc_cX0_append_0 (by decide +kernel)
theorem dX0_append_15 : decode cX0_append 15 = .ok (.getfield 22, 3) := dw180 (n := 0) (i := 15) (a := 0) (b := 22) kc_cX0_append_0 (by decide +kernel) (by decide)
theorem dX0_append_18 : decode cX0_append 18 = .ok (.iload_n 1, 1) := dw27 (n := 0) (i := 18) kc_cX0_append_0 (by decide +kernel)
theorem dX0_append_19 : decode cX0_append 19 = .ok (.dup2, 1) := dw92 (n := 0) (i := 19) kc_cX0_append_0 (by decide +kernel)
theorem dX0_append_20 : decode cX0_append 20 = .ok (.iaload, 1) := dw46 (n := 0) (i := 20) kc_cX0_append_0 (by decide +kernel)
theorem dX0_append_21 : decode cX0_append 21 = .ok (.iconst 1, 1) := dw4 (n := 0) (i := 21) kc_cX0_append_0 (by decide +kernel)
theorem dX0_append_22 : decode cX0_append 22 = .ok (.iadd, 1) := dw96 (n := 0) (i := 22) kc_cX0_append_0 (by decide +kernel)
theorem dX0_append_23 : decode cX0_append 23 = .ok (.iastore, 1) := dw79 (n := 0) (i := 23) kc_cX0_append_0 (by decide +kernel)
theorem dX0_append_24 : decode cX0_append 24 = .ok (.aload_n 0, 1) := dw42 (n := 0) (i := 24) kc_cX0_append_0 (by decide +kernel)
theorem dX0_append_25 : decode cX0_append 25 = .ok (.getfield 22, 3) := dw180 (n := 0) (i := 25) (a := 0) (b := 22) kc_cX0_append_0 (by decide +kernel) (by decide)
theorem dX0_append_28 : decode cX0_append 28 = .ok (.iload_n 1, 1) := dw27 (n := 0) (i := 28) kc_cX0_append_0 (by decide +kernel)
theorem dX0_append_29 : decode cX0_append 29 = .ok (.iaload, 1) := dw46 (n := 0) (i := 29) kc_cX0_append_0 (by decide +kernel)
theorem dX0_append_30 : decode cX0_append 30 = .ok (.ireturn, 1) := dw172 (n := 0) (i := 30) kc_cX0_append_0 (by decide +kernel)
theorem dX10_isUnder_0 : decode cX10_isUnder 0 = .ok (.iload_n 0, 1) := dw26 (n := 0) (i := 0) kc_cX10_isUnder_0 (by decide +kernel)
theorem dX10_isUnder_1 : decode cX10_isUnder 1 = .ok (.istore_n 3, 1) := dw62 (n := 0) (i := 1) kc_cX10_isUnder_0 (by decide +kernel)
theorem dX10_isUnder_2 : decode cX10_isUnder 2 = .ok (.iconst 0, 1) := dw3 (n := 0) (i := 2) kc_cX10_isUnder_0 (by decide +kernel)
theorem dX10_isUnder_3 : decode cX10_isUnder 3 = .ok (.istore 4, 2) := dw54 (n := 0) (i := 3) (a := 4) kc_cX10_isUnder_0 (by decide +kernel) (by decide)
theorem dX10_isUnder_5 : decode cX10_isUnder 5 = .ok (.iload 4, 2) := dw21 (n := 0) (i := 5) (a := 4) kc_cX10_isUnder_0 (by decide +kernel) (by decide)
theorem dX10_isUnder_7 : decode cX10_isUnder 7 = .ok (.aload_n 2, 1) := dw44 (n := 0) (i := 7) kc_cX10_isUnder_0 (by decide +kernel)
theorem dX10_isUnder_8 : decode cX10_isUnder 8 = .ok (.arraylength, 1) := dw190 (n := 0) (i := 8) kc_cX10_isUnder_0 (by decide +kernel)
theorem dX10_isUnder_9 : decode cX10_isUnder 9 = .ok (.if_icmp .ge 32, 3) := dw162 (n := 0) (i := 9) (a := 0) (b := 32) kc_cX10_isUnder_0 (by decide +kernel) (by decide)
theorem dX10_isUnder_41 : decode cX10_isUnder 41 = .ok (.iconst 0, 1) := dw3 (n := 32) (i := 9) kc_cX10_isUnder_1 (by decide +kernel)
theorem dX10_isUnder_42 : decode cX10_isUnder 42 = .ok (.ireturn, 1) := dw172 (n := 32) (i := 10) kc_cX10_isUnder_1 (by decide +kernel)
theorem dX10_isUnder_12 : decode cX10_isUnder 12 = .ok (.iload_n 3, 1) := dw29 (n := 0) (i := 12) kc_cX10_isUnder_0 (by decide +kernel)
theorem dX10_isUnder_13 : decode cX10_isUnder 13 = .ok (.iload_n 1, 1) := dw27 (n := 0) (i := 13) kc_cX10_isUnder_0 (by decide +kernel)
theorem dX10_isUnder_14 : decode cX10_isUnder 14 = .ok (.if_icmp .ne 5, 3) := dw160 (n := 0) (i := 14) (a := 0) (b := 5) kc_cX10_isUnder_0 (by decide +kernel) (by decide)
theorem dX10_isUnder_19 : decode cX10_isUnder 19 = .ok (.iload_n 3, 1) := dw29 (n := 0) (i := 19) kc_cX10_isUnder_0 (by decide +kernel)
theorem dX10_isUnder_20 : decode cX10_isUnder 20 = .ok (.ifCond .lt 9, 3) := dw155 (n := 0) (i := 20) (a := 0) (b := 9) kc_cX10_isUnder_0 (by decide +kernel) (by decide)
theorem dX10_isUnder_29 : decode cX10_isUnder 29 = .ok (.iconst 0, 1) := dw3 (n := 0) (i := 29) kc_cX10_isUnder_0 (by decide +kernel)
theorem dX10_isUnder_30 : decode cX10_isUnder 30 = .ok (.ireturn, 1) := dw172 (n := 0) (i := 30) kc_cX10_isUnder_0 (by decide +kernel)
theorem dX10_isUnder_23 : decode cX10_isUnder 23 = .ok (.iload_n 3, 1) := dw29 (n := 0) (i := 23) kc_cX10_isUnder_0 (by decide +kernel)
theorem dX10_isUnder_24 : decode cX10_isUnder 24 = .ok (.aload_n 2, 1) := dw44 (n := 0) (i := 24) kc_cX10_isUnder_0 (by decide +kernel)
theorem dX10_isUnder_25 : decode cX10_isUnder 25 = .ok (.arraylength, 1) := dw190 (n := 0) (i := 25) kc_cX10_isUnder_0 (by decide +kernel)
theorem dX10_isUnder_26 : decode cX10_isUnder 26 = .ok (.if_icmp .lt 5, 3) := dw161 (n := 0) (i := 26) (a := 0) (b := 5) kc_cX10_isUnder_0 (by decide +kernel) (by decide)
theorem dX10_isUnder_31 : decode cX10_isUnder 31 = .ok (.aload_n 2, 1) := dw44 (n := 0) (i := 31) kc_cX10_isUnder_0 (by decide +kernel)
theorem dX10_isUnder_32 : decode cX10_isUnder 32 = .ok (.iload_n 3, 1) := dw29 (n := 32) (i := 0) kc_cX10_isUnder_1 (by decide +kernel)
theorem dX10_isUnder_33 : decode cX10_isUnder 33 = .ok (.iaload, 1) := dw46 (n := 32) (i := 1) kc_cX10_isUnder_1 (by decide +kernel)
theorem dX10_isUnder_34 : decode cX10_isUnder 34 = .ok (.istore_n 3, 1) := dw62 (n := 32) (i := 2) kc_cX10_isUnder_1 (by decide +kernel)
theorem dX10_isUnder_35 : decode cX10_isUnder 35 = .ok (.iinc 4 1, 3) := by decide +kernel
theorem dX10_isUnder_38 : decode cX10_isUnder 38 = .ok (.goto (-33), 3) := dw167 (n := 32) (i := 6) (a := 255) (b := 223) kc_cX10_isUnder_1 (by decide +kernel) (by decide)
theorem dX10_isUnder_17 : decode cX10_isUnder 17 = .ok (.iconst 1, 1) := dw4 (n := 0) (i := 17) kc_cX10_isUnder_0 (by decide +kernel)
theorem dX10_isUnder_18 : decode cX10_isUnder 18 = .ok (.ireturn, 1) := dw172 (n := 0) (i := 18) kc_cX10_isUnder_0 (by decide +kernel)
set_option maxHeartbeats 4000000 in
set_option maxRecDepth 100000 in
theorem s_isUnderS (l : Launch) (D : va_G) (ad : Nat → Nat) (cs : Nat → ClassId) (M : MI) (L : ML) (x : Int32) (y : Int32) (hI : IC M) : Ci l yX10_isUnder wsX10_isUnder ({ frames := 0, cells := 0, slots := 0, locals := 0 }) D ad cs [.int x, .int y, .ref (ad 400)] M L (fun r M1 L1 => M1 = M ∧ L1 = L ∧ (r = 0 ∨ r = 1)) := by
  refine enter_i RX10 rfl [(0, .int x), (1, .int y), (2, .ref (ad 400))] rfl (Nat.le_of_ble_eq_true rfl) (by decide +kernel) rfl ?_
  intro p e s m below meth c C hr
  have hF : ∀ k, True → M k = M k := fun _ _ => rfl
  have hG : ∀ k, True → L k = L k := fun _ _ => rfl
  refine g_iload_n C 0 dX10_isUnder_0 rfl ?_
  refine g_istore_n C [(3, .int x), (0, .int x), (1, .int y), (2, .ref (ad 400))] dX10_isUnder_1 (by decide) rfl ?_
  refine g_iconst C 0 dX10_isUnder_2 (by decide) ?_
  refine g_istore C [(4, .int 0), (3, .int x), (0, .int x), (1, .int y), (2, .ref (ad 400))] dX10_isUnder_3 (by decide) rfl ?_
  have zy1 : (0 : Int32).toInt = 0 := by decide
  refine g_loop (α := Int32 × Int32 × MI × ML) (fun a => (10 - a.1.toInt).toNat) (fun a => 0 ≤ a.1.toInt ∧ a.1.toInt ≤ 9 ∧ IC a.2.2.1 ∧ (∀ k, True → a.2.2.1 k = M k) ∧ (∀ k, True → a.2.2.2 k = L k)) (fun a => a.2.2.1) (fun a => a.2.2.2) (fun a => [(4, .int a.1), (3, .int a.2.1), (0, .int x), (1, .int y), (2, .ref (ad 400))]) (0, x, M, L) ⟨by show 0 ≤ (0 : Int32).toInt; omega, by show (0 : Int32).toInt ≤ 9; omega, hI, hF, hG⟩ rfl rfl rfl ?_
  rintro ⟨x4_5, x3_5, M_5, L_5⟩ ⟨j5_0, j5_1, hI, hF, hG⟩ ih_5
  dsimp only at j5_0 j5_1 hI hF hG ih_5 ⊢
  refine g_iload C 0 dX10_isUnder_5 rfl ?_
  refine g_aload_n C 4 dX10_isUnder_7 rfl ?_
  refine g_slenS C dX10_isUnder_8 ?_
  refine g_icmp_ge C 41 dX10_isUnder_9 (by decide) (fun c2 => ?_) (fun c2 => ?_)
  ·
    have f3 := fle (by decide : (4 : Int32).toInt = 4) rfl c2
    refine g_iconst C 0 dX10_isUnder_41 (by decide) ?_
    exact g_zret C hr (by first | rfl | (rcases hz with rfl | rfl <;> rfl)) ⟨funext (fun k => hF k trivial), funext (fun k => hG k trivial), (by first | exact Or.inl rfl | exact Or.inr rfl | exact hz)⟩ dX10_isUnder_42
  ·
    have f4 := fnle (by decide : (4 : Int32).toInt = 4) rfl c2
    refine g_iload_n C 1 dX10_isUnder_12 rfl ?_
    refine g_iload_n C 3 dX10_isUnder_13 rfl ?_
    refine g_icmp_ne C 19 dX10_isUnder_14 (by decide) (fun c5 => ?_) (fun c5 => ?_)
    ·
      have f6 := fne rfl rfl c5
      refine g_iload_n C 1 dX10_isUnder_19 rfl ?_
      refine g_if_lt C 29 dX10_isUnder_20 (by decide) (fun c7 => ?_) (fun c7 => ?_)
      ·
        have f8 := fl rfl (by decide : (0 : Int32).toInt = 0) c7
        refine g_iconst C 0 dX10_isUnder_29 (by decide) ?_
        exact g_zret C hr (by first | rfl | (rcases hz with rfl | rfl <;> rfl)) ⟨funext (fun k => hF k trivial), funext (fun k => hG k trivial), (by first | exact Or.inl rfl | exact Or.inr rfl | exact hz)⟩ dX10_isUnder_30
      ·
        have f9 := fnl rfl (by decide : (0 : Int32).toInt = 0) c7
        refine g_iload_n C 1 dX10_isUnder_23 rfl ?_
        refine g_aload_n C 4 dX10_isUnder_24 rfl ?_
        refine g_slenS C dX10_isUnder_25 ?_
        refine g_icmp_lt C 31 dX10_isUnder_26 (by decide) (fun c10 => ?_) (fun c10 => ?_)
        ·
          have f11 := fl rfl (by decide : (4 : Int32).toInt = 4) c10
          refine g_aload_n C 4 dX10_isUnder_31 rfl ?_
          refine g_iload_n C 1 dX10_isUnder_32 rfl ?_
          refine g_sldS C (fin' (n := 4) rfl (by omega) (by omega)) dX10_isUnder_33 ?_
          refine g_ni (fun v12 ev12 => ?_)
          refine g_istore_n C [(3, .int v12), (4, .int x4_5), (0, .int x), (1, .int y), (2, .ref (ad 400))] dX10_isUnder_34 (by decide) rfl ?_
          obtain ⟨v13, ev13⟩ : ∃ y : Int32, y = x4_5 + 1 := ⟨_, rfl⟩
          try have fv13 := fadd rfl (by decide : (1 : Int32).toInt = 1) ev13 (by omega) (by omega)
          refine g_iinc C 1 v13 [(4, .int v13), (3, .int v12), (0, .int x), (1, .int y), (2, .ref (ad 400))] dX10_isUnder_35 rfl (by rw [ev13]; rfl) (by decide) rfl ?_
          refine g_goto C 5 dX10_isUnder_38 (by decide) ?_
          exact ih_5 (v13, v12, M_5, L_5) ⟨by show 0 ≤ v13.toInt; omega, by show v13.toInt ≤ 9; omega, hI, hF, hG⟩ (by show (10 - v13.toInt).toNat < (10 - x4_5.toInt).toNat; omega)
        ·
          have f14 := fnl rfl (by decide : (4 : Int32).toInt = 4) c10
          refine g_iconst C 0 dX10_isUnder_29 (by decide) ?_
          exact g_zret C hr (by first | rfl | (rcases hz with rfl | rfl <;> rfl)) ⟨funext (fun k => hF k trivial), funext (fun k => hG k trivial), (by first | exact Or.inl rfl | exact Or.inr rfl | exact hz)⟩ dX10_isUnder_30
    ·
      have f15 := feq rfl rfl c5
      refine g_iconst C 1 dX10_isUnder_17 (by decide) ?_
      exact g_zret C hr (by first | rfl | (rcases hz with rfl | rfl <;> rfl)) ⟨funext (fun k => hF k trivial), funext (fun k => hG k trivial), (by first | exact Or.inl rfl | exact Or.inr rfl | exact hz)⟩ dX10_isUnder_18
theorem dX0_isOf_0 : decode cX0_isOf 0 = .ok (.aload_n 0, 1) := dw42 (n := 0) (i := 0) kc_cX0_isOf_0 (by decide +kernel)
theorem dX0_isOf_1 : decode cX0_isOf 1 = .ok (.getfield 15, 3) := dw180 (n := 0) (i := 1) (a := 0) (b := 15) kc_cX0_isOf_0 (by decide +kernel) (by decide)
theorem in_X0_isOf_0 : ∀ w ∈ u_ws RX0 TX0 5, w ∈ wsX0_isOf := fun _ h => List.mem_cons_of_mem _ (List.mem_append_right _ h)
theorem dX0_isOf_4 : decode cX0_isOf 4 = .ok (.iload_n 1, 1) := dw27 (n := 0) (i := 4) kc_cX0_isOf_0 (by decide +kernel)
theorem dX0_isOf_5 : decode cX0_isOf 5 = .ok (.iaload, 1) := dw46 (n := 0) (i := 5) kc_cX0_isOf_0 (by decide +kernel)
theorem dX0_isOf_6 : decode cX0_isOf 6 = .ok (.iload_n 2, 1) := dw28 (n := 0) (i := 6) kc_cX0_isOf_0 (by decide +kernel)
theorem dX0_isOf_7 : decode cX0_isOf 7 = .ok (.getstatic 30, 3) := dw178 (n := 0) (i := 7) (a := 0) (b := 30) kc_cX0_isOf_0 (by decide +kernel) (by decide)
theorem dX0_isOf_10 : decode cX0_isOf 10 = .ok (.invokestatic 33, 3) := dw184 (n := 0) (i := 10) (a := 0) (b := 33) kc_cX0_isOf_0 (by decide +kernel) (by decide)
set_option maxRecDepth 20000 in
theorem ggX0_isOf_X10_isUnder : GoodIn wsX0_isOf wsX10_isUnder := (gk_code 4 rfl (gn))
set_option maxRecDepth 20000 in
theorem gX0_isOf_X10_isUnder_n33 : GoodIn wsX0_isOf (wsX10_isUnder) := ggX0_isOf_X10_isUnder
theorem dX0_isOf_13 : decode cX0_isOf 13 = .ok (.ireturn, 1) := dw172 (n := 0) (i := 13) kc_cX0_isOf_0 (by decide +kernel)
set_option maxHeartbeats 4000000 in
set_option maxRecDepth 100000 in
theorem s_X0_isOf (l : Launch) (D : va_G) (ad : Nat → Nat) (cs : Nat → ClassId) (M : MI) (L : ML) (b : Int32) (x : Int32) (hI : IC M) (hb : 0 ≤ b.toInt ∧ b.toInt < 60) : Ci l yX0_isOf wsX0_isOf ({ frames := 1, cells := 0, slots := 0, locals := 24 }) D ad cs [.ref (ad 3), .int b, .int x] M L (fun r M1 L1 => M1 = M ∧ L1 = L ∧ (r = 0 ∨ r = 1)) := by
  refine enter_i RX0 rfl [(0, .ref (ad 3)), (1, .int b), (2, .int x)] rfl (Nat.le_of_ble_eq_true rfl) (by decide +kernel) rfl ?_
  intro p e s m below meth c C hr
  have hF : ∀ k, True → M k = M k := fun _ _ => rfl
  have hG : ∀ k, True → L k = L k := fun _ _ => rfl
  obtain ⟨hb1, hb2⟩ := hb
  refine g_aload_n C 0 dX0_isOf_0 rfl ?_
  refine g_get C (.ref (ad 4)) 1 in_X0_isOf_0 (List.mem_of_getElem? (i := 1) rfl) (by decide) (ce_ball ad cs _ _) rfl (by decide) rfl rfl dX0_isOf_1 ?_
  refine g_iload_n C 1 dX0_isOf_4 rfl ?_
  refine g_iald C (by decide) (ce_bsort ad cs _ _) (fin' (n := 60) rfl (by omega) (by omega)) dX0_isOf_5 ?_
  refine g_ni (fun v1 ev1 => ?_)
  have tv1 := congrArg Int32.toInt ev1
  refine g_iload_n C 2 dX0_isOf_6 rfl ?_
  refine g_getsN C dX0_isOf_7 rfl ?_
  refine g_callSNi C (n := 3) (As := [.int v1, .int x, .ref (ad 400)]) (st := []) (s_isUnderS l D ad cs _ _ v1 x hI) gX0_isOf_X10_isUnder_n33 rfl rfl rfl C.2.2.2.2.2.2.1.2.2.1 (C.2.2.2.2.1 _ (List.mem_of_getElem? (i := 3) rfl)) (List.mem_of_getElem? (i := 2) rfl) (by decide +kernel) ⟨Nat.le_of_ble_eq_true rfl, Nat.le_of_ble_eq_true rfl⟩ rfl (Nat.le_of_ble_eq_true rfl) ⟨Nat.zero_le _, Nat.zero_le _⟩ rfl dX0_isOf_10 (fun r2 M3 L4 hr2 => ?_)
  obtain ⟨hq1, hq2, hr2⟩ := hr2
  obtain rfl := hq1.symm
  obtain rfl := hq2.symm
  have hz := hr2
  obtain ⟨zar2, zbr2⟩ := z_to hr2
  exact g_zret C hr (by first | rfl | (rcases hz with rfl | rfl <;> rfl)) ⟨rfl, rfl, (by first | exact Or.inl rfl | exact Or.inr rfl | exact hz)⟩ dX0_isOf_13
theorem dX0_hasRoomFor_0 : decode cX0_hasRoomFor 0 = .ok (.aload_n 0, 1) := dw42 (n := 0) (i := 0) kc_cX0_hasRoomFor_0 (by decide +kernel)
theorem dX0_hasRoomFor_1 : decode cX0_hasRoomFor 1 = .ok (.iload_n 1, 1) := dw27 (n := 0) (i := 1) kc_cX0_hasRoomFor_0 (by decide +kernel)
theorem dX0_hasRoomFor_2 : decode cX0_hasRoomFor 2 = .ok (.iconst 2, 1) := dw5 (n := 0) (i := 2) kc_cX0_hasRoomFor_0 (by decide +kernel)
theorem dX0_hasRoomFor_3 : decode cX0_hasRoomFor 3 = .ok (.invokevirtual 37, 3) := dw182 (n := 0) (i := 3) (a := 0) (b := 37) kc_cX0_hasRoomFor_0 (by decide +kernel) (by decide)
set_option maxRecDepth 20000 in
theorem ggX0_hasRoomFor_X0_isOf : GoodIn wsX0_hasRoomFor wsX0_isOf := (gk_code 6 rfl (gk_fieldLink 7 rfl (gk_static 8 rfl (gk_initialized 9 rfl (gk_code 10 rfl (gk_lays 16 rfl (gk_laysFinal 17 rfl (gk_laysFinal 18 rfl (gk_laysFinal 19 rfl (gk_laysFinal 20 rfl (gn)))))))))))
set_option maxRecDepth 20000 in
theorem gX0_hasRoomFor_X0_isOf : GoodIn wsX0_hasRoomFor (wsV RX0 37 RX0 yX0_isOf wsX0_isOf) := goodIn_app (gk_methodLink 2 rfl (gk_instanceMethod 3 rfl (gk_selects 4 rfl (gk_initialized 5 rfl (gn))))) ggX0_hasRoomFor_X0_isOf
theorem dX0_hasRoomFor_6 : decode cX0_hasRoomFor 6 = .ok (.ifCond .eq 7, 3) := dw153 (n := 0) (i := 6) (a := 0) (b := 7) kc_cX0_hasRoomFor_0 (by decide +kernel) (by decide)
theorem dX0_hasRoomFor_13 : decode cX0_hasRoomFor 13 = .ok (.bipush 10, 2) := dw16 (n := 0) (i := 13) (a := 10) kc_cX0_hasRoomFor_0 (by decide +kernel) (by decide)
theorem dX0_hasRoomFor_15 : decode cX0_hasRoomFor 15 = .ok (.istore_n 3, 1) := dw62 (n := 0) (i := 15) kc_cX0_hasRoomFor_0 (by decide +kernel)
theorem dX0_hasRoomFor_16 : decode cX0_hasRoomFor 16 = .ok (.aload_n 0, 1) := dw42 (n := 0) (i := 16) kc_cX0_hasRoomFor_0 (by decide +kernel)
theorem dX0_hasRoomFor_17 : decode cX0_hasRoomFor 17 = .ok (.getfield 22, 3) := dw180 (n := 0) (i := 17) (a := 0) (b := 22) kc_cX0_hasRoomFor_0 (by decide +kernel) (by decide)
theorem in_X0_hasRoomFor_0 : ∀ w ∈ u_ws RX0 TX0 5, w ∈ wsX0_hasRoomFor := fun _ h => List.mem_cons_of_mem _ (List.mem_append_right _ h)
theorem dX0_hasRoomFor_20 : decode cX0_hasRoomFor 20 = .ok (.iload_n 1, 1) := dw27 (n := 0) (i := 20) kc_cX0_hasRoomFor_0 (by decide +kernel)
theorem dX0_hasRoomFor_21 : decode cX0_hasRoomFor 21 = .ok (.iaload, 1) := dw46 (n := 0) (i := 21) kc_cX0_hasRoomFor_0 (by decide +kernel)
theorem dX0_hasRoomFor_22 : decode cX0_hasRoomFor 22 = .ok (.iload_n 3, 1) := dw29 (n := 0) (i := 22) kc_cX0_hasRoomFor_0 (by decide +kernel)
theorem dX0_hasRoomFor_23 : decode cX0_hasRoomFor 23 = .ok (.if_icmp .ge 18, 3) := dw162 (n := 0) (i := 23) (a := 0) (b := 18) kc_cX0_hasRoomFor_0 (by decide +kernel) (by decide)
theorem dX0_hasRoomFor_41 : decode cX0_hasRoomFor 41 = .ok (.iconst 0, 1) := dw3 (n := 32) (i := 9) kc_cX0_hasRoomFor_1 (by decide +kernel)
theorem dX0_hasRoomFor_42 : decode cX0_hasRoomFor 42 = .ok (.ireturn, 1) := dw172 (n := 32) (i := 10) kc_cX0_hasRoomFor_1 (by decide +kernel)
theorem dX0_hasRoomFor_26 : decode cX0_hasRoomFor 26 = .ok (.aload_n 0, 1) := dw42 (n := 0) (i := 26) kc_cX0_hasRoomFor_0 (by decide +kernel)
theorem dX0_hasRoomFor_27 : decode cX0_hasRoomFor 27 = .ok (.iload_n 1, 1) := dw27 (n := 0) (i := 27) kc_cX0_hasRoomFor_0 (by decide +kernel)
theorem dX0_hasRoomFor_28 : decode cX0_hasRoomFor 28 = .ok (.iload_n 2, 1) := dw28 (n := 0) (i := 28) kc_cX0_hasRoomFor_0 (by decide +kernel)
theorem dX0_hasRoomFor_29 : decode cX0_hasRoomFor 29 = .ok (.invokevirtual 41, 3) := dw182 (n := 0) (i := 29) (a := 0) (b := 41) kc_cX0_hasRoomFor_0 (by decide +kernel) (by decide)
set_option maxRecDepth 20000 in
theorem ggX0_hasRoomFor_X0_placeOf : GoodIn wsX0_hasRoomFor wsX0_placeOf := (gk_code 14 rfl (gk_fieldLink 1 rfl (gk_fieldLink 15 rfl (gk_lays 16 rfl (gk_laysFinal 17 rfl (gk_laysFinal 18 rfl (gk_laysFinal 19 rfl (gk_laysFinal 20 rfl (gn)))))))))
set_option maxRecDepth 20000 in
theorem gX0_hasRoomFor_X0_placeOf : GoodIn wsX0_hasRoomFor (wsV RX0 41 RX0 yX0_placeOf wsX0_placeOf) := goodIn_app (gk_methodLink 11 rfl (gk_instanceMethod 12 rfl (gk_selects 13 rfl (gk_initialized 5 rfl (gn))))) ggX0_hasRoomFor_X0_placeOf
theorem dX0_hasRoomFor_32 : decode cX0_hasRoomFor 32 = .ok (.bipush 10, 2) := dw16 (n := 32) (i := 0) (a := 10) kc_cX0_hasRoomFor_1 (by decide +kernel) (by decide)
theorem dX0_hasRoomFor_34 : decode cX0_hasRoomFor 34 = .ok (.if_icmp .ne 7, 3) := dw160 (n := 32) (i := 2) (a := 0) (b := 7) kc_cX0_hasRoomFor_1 (by decide +kernel) (by decide)
theorem dX0_hasRoomFor_37 : decode cX0_hasRoomFor 37 = .ok (.iconst 1, 1) := dw4 (n := 32) (i := 5) kc_cX0_hasRoomFor_1 (by decide +kernel)
theorem dX0_hasRoomFor_38 : decode cX0_hasRoomFor 38 = .ok (.goto 4, 3) := dw167 (n := 32) (i := 6) (a := 0) (b := 4) kc_cX0_hasRoomFor_1 (by decide +kernel) (by decide)
theorem dX0_hasRoomFor_9 : decode cX0_hasRoomFor 9 = .ok (.iconst 1, 1) := dw4 (n := 0) (i := 9) kc_cX0_hasRoomFor_0 (by decide +kernel)
theorem dX0_hasRoomFor_10 : decode cX0_hasRoomFor 10 = .ok (.goto 5, 3) := dw167 (n := 0) (i := 10) (a := 0) (b := 5) kc_cX0_hasRoomFor_0 (by decide +kernel) (by decide)
theorem dX0_papersAt_0 : decode cX0_papersAt 0 = .ok (.aload_n 0, 1) := dw42 (n := 0) (i := 0) kc_cX0_papersAt_0 (by decide +kernel)
theorem dX0_papersAt_1 : decode cX0_papersAt 1 = .ok (.iload_n 1, 1) := dw27 (n := 0) (i := 1) kc_cX0_papersAt_0 (by decide +kernel)
theorem dX0_papersAt_2 : decode cX0_papersAt 2 = .ok (.invokevirtual 45, 3) := dw182 (n := 0) (i := 2) (a := 0) (b := 45) kc_cX0_papersAt_0 (by decide +kernel) (by decide)
set_option maxRecDepth 20000 in
theorem ggX0_papersAt_X0_has : GoodIn wsX0_papersAt wsX0_has := (gk_code 6 rfl (gk_fieldLink 7 rfl (gk_lays 8 rfl (gk_laysFinal 9 rfl (gk_laysFinal 10 rfl (gk_laysFinal 11 rfl (gk_laysFinal 12 rfl (gn))))))))
set_option maxRecDepth 20000 in
theorem gX0_papersAt_X0_has : GoodIn wsX0_papersAt (wsV RX0 45 RX0 yX0_has wsX0_has) := goodIn_app (gk_methodLink 2 rfl (gk_instanceMethod 3 rfl (gk_selects 4 rfl (gk_initialized 5 rfl (gn))))) ggX0_papersAt_X0_has
theorem dX0_papersAt_5 : decode cX0_papersAt 5 = .ok (.ifCond .eq 12, 3) := dw153 (n := 0) (i := 5) (a := 0) (b := 12) kc_cX0_papersAt_0 (by decide +kernel) (by decide)
theorem dX0_papersAt_17 : decode cX0_papersAt 17 = .ok (.iconst 0, 1) := dw3 (n := 0) (i := 17) kc_cX0_papersAt_0 (by decide +kernel)
theorem dX0_papersAt_18 : decode cX0_papersAt 18 = .ok (.ireturn, 1) := dw172 (n := 0) (i := 18) kc_cX0_papersAt_0 (by decide +kernel)
theorem dX0_papersAt_8 : decode cX0_papersAt 8 = .ok (.aload_n 0, 1) := dw42 (n := 0) (i := 8) kc_cX0_papersAt_0 (by decide +kernel)
theorem dX0_papersAt_9 : decode cX0_papersAt 9 = .ok (.getfield 19, 3) := dw180 (n := 0) (i := 9) (a := 0) (b := 19) kc_cX0_papersAt_0 (by decide +kernel) (by decide)
theorem in_X0_papersAt_0 : ∀ w ∈ u_ws RX0 TX0 5, w ∈ wsX0_papersAt := fun _ h => List.mem_cons_of_mem _ (List.mem_append_right _ h)
theorem dX0_papersAt_12 : decode cX0_papersAt 12 = .ok (.iload_n 1, 1) := dw27 (n := 0) (i := 12) kc_cX0_papersAt_0 (by decide +kernel)
theorem dX0_papersAt_13 : decode cX0_papersAt 13 = .ok (.iaload, 1) := dw46 (n := 0) (i := 13) kc_cX0_papersAt_0 (by decide +kernel)
theorem dX0_papersAt_14 : decode cX0_papersAt 14 = .ok (.goto 4, 3) := dw167 (n := 0) (i := 14) (a := 0) (b := 4) kc_cX0_papersAt_0 (by decide +kernel) (by decide)
theorem dX1_hasPlace_0 : decode cX1_hasPlace 0 = .ok (.iload_n 2, 1) := dw28 (n := 0) (i := 0) kc_cX1_hasPlace_0 (by decide +kernel)
theorem dX1_hasPlace_1 : decode cX1_hasPlace 1 = .ok (.ifCond .lt 17, 3) := dw155 (n := 0) (i := 1) (a := 0) (b := 17) kc_cX1_hasPlace_0 (by decide +kernel) (by decide)
theorem dX1_hasPlace_18 : decode cX1_hasPlace 18 = .ok (.iconst 0, 1) := dw3 (n := 0) (i := 18) kc_cX1_hasPlace_0 (by decide +kernel)
theorem dX1_hasPlace_19 : decode cX1_hasPlace 19 = .ok (.ireturn, 1) := dw172 (n := 0) (i := 19) kc_cX1_hasPlace_0 (by decide +kernel)
theorem dX1_hasPlace_4 : decode cX1_hasPlace 4 = .ok (.iload_n 2, 1) := dw28 (n := 0) (i := 4) kc_cX1_hasPlace_0 (by decide +kernel)
theorem dX1_hasPlace_5 : decode cX1_hasPlace 5 = .ok (.aload_n 0, 1) := dw42 (n := 0) (i := 5) kc_cX1_hasPlace_0 (by decide +kernel)
theorem dX1_hasPlace_6 : decode cX1_hasPlace 6 = .ok (.getfield 19, 3) := dw180 (n := 0) (i := 6) (a := 0) (b := 19) kc_cX1_hasPlace_0 (by decide +kernel) (by decide)
theorem in_X1_hasPlace_1 : ∀ w ∈ u_ws RX1 TX1 5, w ∈ wsX1_hasPlace := fun _ h => List.mem_cons_of_mem _ (List.mem_append_right _ h)
theorem dX1_hasPlace_9 : decode cX1_hasPlace 9 = .ok (.iload_n 1, 1) := dw27 (n := 0) (i := 9) kc_cX1_hasPlace_0 (by decide +kernel)
theorem dX1_hasPlace_10 : decode cX1_hasPlace 10 = .ok (.iaload, 1) := dw46 (n := 0) (i := 10) kc_cX1_hasPlace_0 (by decide +kernel)
theorem dX1_hasPlace_11 : decode cX1_hasPlace 11 = .ok (.if_icmp .ge 7, 3) := dw162 (n := 0) (i := 11) (a := 0) (b := 7) kc_cX1_hasPlace_0 (by decide +kernel) (by decide)
theorem dX1_hasPlace_14 : decode cX1_hasPlace 14 = .ok (.iconst 1, 1) := dw4 (n := 0) (i := 14) kc_cX1_hasPlace_0 (by decide +kernel)
theorem dX1_hasPlace_15 : decode cX1_hasPlace 15 = .ok (.goto 4, 3) := dw167 (n := 0) (i := 15) (a := 0) (b := 4) kc_cX1_hasPlace_0 (by decide +kernel) (by decide)
theorem dX1_hasPlaces_0 : decode cX1_hasPlaces 0 = .ok (.iload_n 2, 1) := dw28 (n := 0) (i := 0) kc_cX1_hasPlaces_0 (by decide +kernel)
theorem dX1_hasPlaces_1 : decode cX1_hasPlaces 1 = .ok (.ifCond .lt 33, 3) := dw155 (n := 0) (i := 1) (a := 0) (b := 33) kc_cX1_hasPlaces_0 (by decide +kernel) (by decide)
theorem dX1_hasPlaces_34 : decode cX1_hasPlaces 34 = .ok (.iconst 0, 1) := dw3 (n := 32) (i := 2) kc_cX1_hasPlaces_1 (by decide +kernel)
theorem dX1_hasPlaces_35 : decode cX1_hasPlaces 35 = .ok (.ireturn, 1) := dw172 (n := 32) (i := 3) kc_cX1_hasPlaces_1 (by decide +kernel)
theorem dX1_hasPlaces_4 : decode cX1_hasPlaces 4 = .ok (.iload_n 2, 1) := dw28 (n := 0) (i := 4) kc_cX1_hasPlaces_0 (by decide +kernel)
theorem dX1_hasPlaces_5 : decode cX1_hasPlaces 5 = .ok (.aload_n 0, 1) := dw42 (n := 0) (i := 5) kc_cX1_hasPlaces_0 (by decide +kernel)
theorem dX1_hasPlaces_6 : decode cX1_hasPlaces 6 = .ok (.getfield 19, 3) := dw180 (n := 0) (i := 6) (a := 0) (b := 19) kc_cX1_hasPlaces_0 (by decide +kernel) (by decide)
theorem in_X1_hasPlaces_1 : ∀ w ∈ u_ws RX1 TX1 5, w ∈ wsX1_hasPlaces := fun _ h => List.mem_cons_of_mem _ (List.mem_append_right _ h)
theorem dX1_hasPlaces_9 : decode cX1_hasPlaces 9 = .ok (.iload_n 1, 1) := dw27 (n := 0) (i := 9) kc_cX1_hasPlaces_0 (by decide +kernel)
theorem dX1_hasPlaces_10 : decode cX1_hasPlaces 10 = .ok (.iaload, 1) := dw46 (n := 0) (i := 10) kc_cX1_hasPlaces_0 (by decide +kernel)
theorem dX1_hasPlaces_11 : decode cX1_hasPlaces 11 = .ok (.if_icmp .gt 23, 3) := dw163 (n := 0) (i := 11) (a := 0) (b := 23) kc_cX1_hasPlaces_0 (by decide +kernel) (by decide)
theorem dX1_hasPlaces_14 : decode cX1_hasPlaces 14 = .ok (.iload_n 3, 1) := dw29 (n := 0) (i := 14) kc_cX1_hasPlaces_0 (by decide +kernel)
theorem dX1_hasPlaces_15 : decode cX1_hasPlaces 15 = .ok (.ifCond .lt 19, 3) := dw155 (n := 0) (i := 15) (a := 0) (b := 19) kc_cX1_hasPlaces_0 (by decide +kernel) (by decide)
theorem dX1_hasPlaces_18 : decode cX1_hasPlaces 18 = .ok (.iload_n 3, 1) := dw29 (n := 0) (i := 18) kc_cX1_hasPlaces_0 (by decide +kernel)
theorem dX1_hasPlaces_19 : decode cX1_hasPlaces 19 = .ok (.aload_n 0, 1) := dw42 (n := 0) (i := 19) kc_cX1_hasPlaces_0 (by decide +kernel)
theorem dX1_hasPlaces_20 : decode cX1_hasPlaces 20 = .ok (.getfield 19, 3) := dw180 (n := 0) (i := 20) (a := 0) (b := 19) kc_cX1_hasPlaces_0 (by decide +kernel) (by decide)
theorem dX1_hasPlaces_23 : decode cX1_hasPlaces 23 = .ok (.iload_n 1, 1) := dw27 (n := 0) (i := 23) kc_cX1_hasPlaces_0 (by decide +kernel)
theorem dX1_hasPlaces_24 : decode cX1_hasPlaces 24 = .ok (.iaload, 1) := dw46 (n := 0) (i := 24) kc_cX1_hasPlaces_0 (by decide +kernel)
theorem dX1_hasPlaces_25 : decode cX1_hasPlaces 25 = .ok (.iload_n 2, 1) := dw28 (n := 0) (i := 25) kc_cX1_hasPlaces_0 (by decide +kernel)
theorem dX1_hasPlaces_26 : decode cX1_hasPlaces 26 = .ok (.isub, 1) := dw100 (n := 0) (i := 26) kc_cX1_hasPlaces_0 (by decide +kernel)
theorem dX1_hasPlaces_27 : decode cX1_hasPlaces 27 = .ok (.if_icmp .gt 7, 3) := dw163 (n := 0) (i := 27) (a := 0) (b := 7) kc_cX1_hasPlaces_0 (by decide +kernel) (by decide)
theorem dX1_hasPlaces_30 : decode cX1_hasPlaces 30 = .ok (.iconst 1, 1) := dw4 (n := 0) (i := 30) kc_cX1_hasPlaces_0 (by decide +kernel)
theorem dX1_hasPlaces_31 : decode cX1_hasPlaces 31 = .ok (.goto 4, 3) := dw167 (n := 0) (i := 31) (a := 0) (b := 4) kc_cX1_hasPlaces_0 (by decide +kernel) (by decide)
