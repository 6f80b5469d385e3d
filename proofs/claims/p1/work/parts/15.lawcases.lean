set_option maxHeartbeats 2000000 in
set_option maxRecDepth 100000 in
theorem law_end {p : Program} {l : Launch} {e : Env} {s : State} {m : MethodId} {below : List Frame} {meth : Method} {c : Code} {D : va_G} {ad : Nat → Nat} {cs : Nat → ClassId} {b : Nat} {xs : Nat → Int32} (C : Cx p s m #[Value.ref b] meth c code 4 lw_tbl RL D ad cs) (hr : meth.sig.returnType = ret) (hX : va_X b 6 xs s s.heap) (hbl : b < s.heap.size) (hbA : ¬ Ar ad b) (hnew : ∀ k, k < 297 → s.heap.size ≤ ad k) (M : MI) (L : ML) : G p l e room_1 s m #[Value.ref b] below meth c 297 6915 (lw_Z below #[Value.ref b] s) D ad cs 4 M L 1069 [(3, .int 0), (2, .ref (ad 258)), (1, .ref (ad 0)), (0, .ref b)] [] := by
  refine g_iinc C 0 6 [(3, .int 6), (2, .ref (ad 258)), (1, .ref (ad 0)), (0, .ref b)] dL_law_1069 rfl (by decide) (by decide) rfl ?_
  refine g_goto C 18 dL_law_1072 (by decide) ?_
  refine g_iload_n C 0 dL_law_18 rfl ?_
  refine g_aload_n C 3 dL_law_19 rfl ?_
  refine g_xlen C hX hbl hbA dL_law_20 ?_
  refine g_ti 6 rfl ?_
  refine g_bipush C 6 dL_law_21 (by decide) ?_
  refine g_isub C dL_law_23 ?_
  refine g_ti 0 (by decide) ?_
  refine g_icmp_gt C 1075 dL_law_24 (by decide) (fun _ => ?_) (fun c1 => absurd c1 (by decide))
  refine g_iconst C 1 dL_law_1075 (by decide) ?_
  exact g_law C hnew hr dL_law_1076
set_option maxHeartbeats 2000000 in
set_option maxRecDepth 100000 in
theorem law_c0 {p : Program} {l : Launch} {e : Env} {s : State} {m : MethodId} {below : List Frame} {meth : Method} {c : Code} {D : va_G} {ad : Nat → Nat} {cs : Nat → ClassId} {b : Nat} {xs : Nat → Int32} (C : Cx p s m #[Value.ref b] meth c code 4 lw_tbl RL D ad cs) (hr : meth.sig.returnType = ret) (hX : va_X b 6 xs s s.heap) (hbl : b < s.heap.size) (hbA : ¬ Ar ad b) (hnew : ∀ k, k < 297 → s.heap.size ≤ ad k) : G p l e room_1 s m #[Value.ref b] below meth c 297 6915 (lw_Z below #[Value.ref b] s) D ad cs 4 M0 L0 164 [(3, .int 0), (2, .ref (ad 258)), (1, .ref (ad 0)), (0, .ref b)] [] := by
  refine g_aload_n C 2 dL_law_164 rfl ?_
  refine g_callVi C (n := 0) (As := []) (st := []) (p_X10_stand l D ad cs _ _  (fun _ _ _ => rfl)) gl_X10_stand rfl rfl rfl (by decide +kernel) ⟨Nat.le_of_ble_eq_true rfl, Nat.le_of_ble_eq_true rfl⟩ rfl (Nat.le_of_ble_eq_true rfl) ⟨Nat.le_of_ble_eq_true rfl, Nat.le_of_ble_eq_true rfl⟩ (by decide) (ce_house ad cs _ _) rfl rfl dL_law_165 (fun r1 M2 L3 hr1 => ?_)
  refine g_aload_n C 1 dL_law_168 rfl ?_
  refine g_callVi C (n := 0) (As := []) (st := [.int r1]) (p_X11_stand l D ad cs _ _  (fun k9 h1 _ => hr1.2 k9 h1)) gl_X11_stand rfl rfl rfl (by decide +kernel) ⟨Nat.le_of_ble_eq_true rfl, Nat.le_of_ble_eq_true rfl⟩ rfl (Nat.le_of_ble_eq_true rfl) ⟨Nat.le_of_ble_eq_true rfl, Nat.le_of_ble_eq_true rfl⟩ (by decide) (ce_model ad cs _ _) rfl rfl dL_law_169 (fun r4 M5 L6 hr4 => ?_)
  refine g_icmp_eq C 1069 dL_law_172 (by decide) (fun c7 => ?_) (fun c7 => ?_)
  ·
    exact law_end C hr hX hbl hbA hnew _ _
  ·
    refine g_iconst C 0 dL_law_175 (by decide) ?_
    exact absurd (hr1.1.trans hr4.symm) c7
set_option maxHeartbeats 2000000 in
set_option maxRecDepth 100000 in
theorem law_c1 {p : Program} {l : Launch} {e : Env} {s : State} {m : MethodId} {below : List Frame} {meth : Method} {c : Code} {D : va_G} {ad : Nat → Nat} {cs : Nat → ClassId} {b : Nat} {xs : Nat → Int32} (C : Cx p s m #[Value.ref b] meth c code 4 lw_tbl RL D ad cs) (hr : meth.sig.returnType = ret) (hX : va_X b 6 xs s s.heap) (hbl : b < s.heap.size) (hbA : ¬ Ar ad b) (hnew : ∀ k, k < 297 → s.heap.size ≤ ad k) : G p l e room_1 s m #[Value.ref b] below meth c 297 6915 (lw_Z below #[Value.ref b] s) D ad cs 4 M0 L0 177 [(3, .int 0), (2, .ref (ad 258)), (1, .ref (ad 0)), (0, .ref b)] [] := by
  refine g_aload_n C 2 dL_law_177 rfl ?_
  refine g_aload_n C 3 dL_law_178 rfl ?_
  refine g_iload_n C 0 dL_law_179 rfl ?_
  refine g_iconst C 1 dL_law_180 (by decide) ?_
  refine g_iadd C dL_law_181 ?_
  refine g_ti 1 (by decide) ?_
  refine g_xld C hX hbl hbA (by unfold vp_in; decide) dL_law_182 ?_
  refine g_ti (xs 1) rfl ?_
  refine g_aload_n C 3 dL_law_183 rfl ?_
  refine g_iload_n C 0 dL_law_184 rfl ?_
  refine g_iconst C 2 dL_law_185 (by decide) ?_
  refine g_iadd C dL_law_186 ?_
  refine g_ti 2 (by decide) ?_
  refine g_xld C hX hbl hbA (by unfold vp_in; decide) dL_law_187 ?_
  refine g_ti (xs 2) rfl ?_
  refine g_callVi C (n := 2) (As := [.int ((xs 1)), .int ((xs 2))]) (st := []) (p_X10_draw l D ad cs _ _ ((xs 1)) ((xs 2)) (fun _ _ _ => rfl)) gl_X10_draw rfl rfl rfl (by decide +kernel) ⟨Nat.le_of_ble_eq_true rfl, Nat.le_of_ble_eq_true rfl⟩ rfl (Nat.le_of_ble_eq_true rfl) ⟨Nat.le_of_ble_eq_true rfl, Nat.le_of_ble_eq_true rfl⟩ (by decide) (ce_house ad cs _ _) rfl rfl dL_law_188 (fun r1 M2 L3 hr1 => ?_)
  refine g_aload_n C 1 dL_law_191 rfl ?_
  refine g_aload_n C 3 dL_law_192 rfl ?_
  refine g_iload_n C 0 dL_law_193 rfl ?_
  refine g_iconst C 1 dL_law_194 (by decide) ?_
  refine g_iadd C dL_law_195 ?_
  refine g_ti 1 (by decide) ?_
  refine g_xld C hX hbl hbA (by unfold vp_in; decide) dL_law_196 ?_
  refine g_ti (xs 1) rfl ?_
  refine g_aload_n C 3 dL_law_197 rfl ?_
  refine g_iload_n C 0 dL_law_198 rfl ?_
  refine g_iconst C 2 dL_law_199 (by decide) ?_
  refine g_iadd C dL_law_200 ?_
  refine g_ti 2 (by decide) ?_
  refine g_xld C hX hbl hbA (by unfold vp_in; decide) dL_law_201 ?_
  refine g_ti (xs 2) rfl ?_
  refine g_callVi C (n := 2) (As := [.int ((xs 1)), .int ((xs 2))]) (st := [.int r1]) (p_X11_draw l D ad cs _ _ ((xs 1)) ((xs 2)) (fun k9 h1 _ => hr1.2 k9 h1)) gl_X11_draw rfl rfl rfl (by decide +kernel) ⟨Nat.le_of_ble_eq_true rfl, Nat.le_of_ble_eq_true rfl⟩ rfl (Nat.le_of_ble_eq_true rfl) ⟨Nat.le_of_ble_eq_true rfl, Nat.le_of_ble_eq_true rfl⟩ (by decide) (ce_model ad cs _ _) rfl rfl dL_law_202 (fun r4 M5 L6 hr4 => ?_)
  refine g_icmp_eq C 1069 dL_law_205 (by decide) (fun c7 => ?_) (fun c7 => ?_)
  ·
    exact law_end C hr hX hbl hbA hnew _ _
  ·
    refine g_iconst C 0 dL_law_208 (by decide) ?_
    exact absurd (hr1.1.trans hr4.symm) c7
set_option maxHeartbeats 2000000 in
set_option maxRecDepth 100000 in
theorem law_c2 {p : Program} {l : Launch} {e : Env} {s : State} {m : MethodId} {below : List Frame} {meth : Method} {c : Code} {D : va_G} {ad : Nat → Nat} {cs : Nat → ClassId} {b : Nat} {xs : Nat → Int32} (C : Cx p s m #[Value.ref b] meth c code 4 lw_tbl RL D ad cs) (hr : meth.sig.returnType = ret) (hX : va_X b 6 xs s s.heap) (hbl : b < s.heap.size) (hbA : ¬ Ar ad b) (hnew : ∀ k, k < 297 → s.heap.size ≤ ad k) : G p l e room_1 s m #[Value.ref b] below meth c 297 6915 (lw_Z below #[Value.ref b] s) D ad cs 4 M0 L0 210 [(3, .int 0), (2, .ref (ad 258)), (1, .ref (ad 0)), (0, .ref b)] [] := by
  refine g_aload_n C 2 dL_law_210 rfl ?_
  refine g_aload_n C 3 dL_law_211 rfl ?_
  refine g_iload_n C 0 dL_law_212 rfl ?_
  refine g_iconst C 1 dL_law_213 (by decide) ?_
  refine g_iadd C dL_law_214 ?_
  refine g_ti 1 (by decide) ?_
  refine g_xld C hX hbl hbA (by unfold vp_in; decide) dL_law_215 ?_
  refine g_ti (xs 1) rfl ?_
  refine g_callVi C (n := 1) (As := [.int ((xs 1))]) (st := []) (p_X10_drawn l D ad cs _ _ ((xs 1)) (fun _ _ _ => rfl)) gl_X10_drawn rfl rfl rfl (by decide +kernel) ⟨Nat.le_of_ble_eq_true rfl, Nat.le_of_ble_eq_true rfl⟩ rfl (Nat.le_of_ble_eq_true rfl) ⟨Nat.le_of_ble_eq_true rfl, Nat.le_of_ble_eq_true rfl⟩ (by decide) (ce_house ad cs _ _) rfl rfl dL_law_216 (fun r1 M2 L3 hr1 => ?_)
  refine g_aload_n C 1 dL_law_219 rfl ?_
  refine g_aload_n C 3 dL_law_220 rfl ?_
  refine g_iload_n C 0 dL_law_221 rfl ?_
  refine g_iconst C 1 dL_law_222 (by decide) ?_
  refine g_iadd C dL_law_223 ?_
  refine g_ti 1 (by decide) ?_
  refine g_xld C hX hbl hbA (by unfold vp_in; decide) dL_law_224 ?_
  refine g_ti (xs 1) rfl ?_
  refine g_callVi C (n := 1) (As := [.int ((xs 1))]) (st := [.int r1]) (p_X11_drawn l D ad cs _ _ ((xs 1)) (fun k9 h1 _ => hr1.2 k9 h1)) gl_X11_drawn rfl rfl rfl (by decide +kernel) ⟨Nat.le_of_ble_eq_true rfl, Nat.le_of_ble_eq_true rfl⟩ rfl (Nat.le_of_ble_eq_true rfl) ⟨Nat.le_of_ble_eq_true rfl, Nat.le_of_ble_eq_true rfl⟩ (by decide) (ce_model ad cs _ _) rfl rfl dL_law_225 (fun r4 M5 L6 hr4 => ?_)
  refine g_icmp_eq C 1069 dL_law_228 (by decide) (fun c7 => ?_) (fun c7 => ?_)
  ·
    exact law_end C hr hX hbl hbA hnew _ _
  ·
    refine g_iconst C 0 dL_law_231 (by decide) ?_
    exact absurd (hr1.1.trans hr4.symm) c7
set_option maxHeartbeats 2000000 in
set_option maxRecDepth 100000 in
theorem law_c3 {p : Program} {l : Launch} {e : Env} {s : State} {m : MethodId} {below : List Frame} {meth : Method} {c : Code} {D : va_G} {ad : Nat → Nat} {cs : Nat → ClassId} {b : Nat} {xs : Nat → Int32} (C : Cx p s m #[Value.ref b] meth c code 4 lw_tbl RL D ad cs) (hr : meth.sig.returnType = ret) (hX : va_X b 6 xs s s.heap) (hbl : b < s.heap.size) (hbA : ¬ Ar ad b) (hnew : ∀ k, k < 297 → s.heap.size ≤ ad k) : G p l e room_1 s m #[Value.ref b] below meth c 297 6915 (lw_Z below #[Value.ref b] s) D ad cs 4 M0 L0 233 [(3, .int 0), (2, .ref (ad 258)), (1, .ref (ad 0)), (0, .ref b)] [] := by
  refine g_aload_n C 2 dL_law_233 rfl ?_
  refine g_aload_n C 3 dL_law_234 rfl ?_
  refine g_iload_n C 0 dL_law_235 rfl ?_
  refine g_iconst C 1 dL_law_236 (by decide) ?_
  refine g_iadd C dL_law_237 ?_
  refine g_ti 1 (by decide) ?_
  refine g_xld C hX hbl hbA (by unfold vp_in; decide) dL_law_238 ?_
  refine g_ti (xs 1) rfl ?_
  refine g_aload_n C 3 dL_law_239 rfl ?_
  refine g_iload_n C 0 dL_law_240 rfl ?_
  refine g_iconst C 2 dL_law_241 (by decide) ?_
  refine g_iadd C dL_law_242 ?_
  refine g_ti 2 (by decide) ?_
  refine g_xld C hX hbl hbA (by unfold vp_in; decide) dL_law_243 ?_
  refine g_ti (xs 2) rfl ?_
  refine g_callVi C (n := 2) (As := [.int ((xs 1)), .int ((xs 2))]) (st := []) (p_X10_ballot l D ad cs _ _ ((xs 1)) ((xs 2)) (fun _ _ _ => rfl)) gl_X10_ballot rfl rfl rfl (by decide +kernel) ⟨Nat.le_of_ble_eq_true rfl, Nat.le_of_ble_eq_true rfl⟩ rfl (Nat.le_of_ble_eq_true rfl) ⟨Nat.le_of_ble_eq_true rfl, Nat.le_of_ble_eq_true rfl⟩ (by decide) (ce_house ad cs _ _) rfl rfl dL_law_244 (fun r1 M2 L3 hr1 => ?_)
  refine g_aload_n C 1 dL_law_247 rfl ?_
  refine g_aload_n C 3 dL_law_248 rfl ?_
  refine g_iload_n C 0 dL_law_249 rfl ?_
  refine g_iconst C 1 dL_law_250 (by decide) ?_
  refine g_iadd C dL_law_251 ?_
  refine g_ti 1 (by decide) ?_
  refine g_xld C hX hbl hbA (by unfold vp_in; decide) dL_law_252 ?_
  refine g_ti (xs 1) rfl ?_
  refine g_aload_n C 3 dL_law_253 rfl ?_
  refine g_iload_n C 0 dL_law_254 rfl ?_
  refine g_iconst C 2 dL_law_255 (by decide) ?_
  refine g_iadd C dL_law_256 ?_
  refine g_ti 2 (by decide) ?_
  refine g_xld C hX hbl hbA (by unfold vp_in; decide) dL_law_257 ?_
  refine g_ti (xs 2) rfl ?_
  refine g_callVi C (n := 2) (As := [.int ((xs 1)), .int ((xs 2))]) (st := [.int r1]) (p_X11_ballot l D ad cs _ _ ((xs 1)) ((xs 2)) (fun k9 h1 _ => hr1.2 k9 h1)) gl_X11_ballot rfl rfl rfl (by decide +kernel) ⟨Nat.le_of_ble_eq_true rfl, Nat.le_of_ble_eq_true rfl⟩ rfl (Nat.le_of_ble_eq_true rfl) ⟨Nat.le_of_ble_eq_true rfl, Nat.le_of_ble_eq_true rfl⟩ (by decide) (ce_model ad cs _ _) rfl rfl dL_law_258 (fun r4 M5 L6 hr4 => ?_)
  refine g_icmp_eq C 1069 dL_law_261 (by decide) (fun c7 => ?_) (fun c7 => ?_)
  ·
    exact law_end C hr hX hbl hbA hnew _ _
  ·
    refine g_iconst C 0 dL_law_264 (by decide) ?_
    exact absurd (hr1.1.trans hr4.symm) c7
set_option maxHeartbeats 2000000 in
set_option maxRecDepth 100000 in
theorem law_c4 {p : Program} {l : Launch} {e : Env} {s : State} {m : MethodId} {below : List Frame} {meth : Method} {c : Code} {D : va_G} {ad : Nat → Nat} {cs : Nat → ClassId} {b : Nat} {xs : Nat → Int32} (C : Cx p s m #[Value.ref b] meth c code 4 lw_tbl RL D ad cs) (hr : meth.sig.returnType = ret) (hX : va_X b 6 xs s s.heap) (hbl : b < s.heap.size) (hbA : ¬ Ar ad b) (hnew : ∀ k, k < 297 → s.heap.size ≤ ad k) : G p l e room_1 s m #[Value.ref b] below meth c 297 6915 (lw_Z below #[Value.ref b] s) D ad cs 4 M0 L0 266 [(3, .int 0), (2, .ref (ad 258)), (1, .ref (ad 0)), (0, .ref b)] [] := by
  refine g_aload_n C 2 dL_law_266 rfl ?_
  refine g_aload_n C 3 dL_law_267 rfl ?_
  refine g_iload_n C 0 dL_law_268 rfl ?_
  refine g_iconst C 1 dL_law_269 (by decide) ?_
  refine g_iadd C dL_law_270 ?_
  refine g_ti 1 (by decide) ?_
  refine g_xld C hX hbl hbA (by unfold vp_in; decide) dL_law_271 ?_
  refine g_ti (xs 1) rfl ?_
  refine g_aload_n C 3 dL_law_272 rfl ?_
  refine g_iload_n C 0 dL_law_273 rfl ?_
  refine g_iconst C 2 dL_law_274 (by decide) ?_
  refine g_iadd C dL_law_275 ?_
  refine g_ti 2 (by decide) ?_
  refine g_xld C hX hbl hbA (by unfold vp_in; decide) dL_law_276 ?_
  refine g_ti (xs 2) rfl ?_
  refine g_callVi C (n := 2) (As := [.int ((xs 1)), .int ((xs 2))]) (st := []) (p_X10_rank l D ad cs _ _ ((xs 1)) ((xs 2)) (fun _ _ _ => rfl)) gl_X10_rank rfl rfl rfl (by decide +kernel) ⟨Nat.le_of_ble_eq_true rfl, Nat.le_of_ble_eq_true rfl⟩ rfl (Nat.le_of_ble_eq_true rfl) ⟨Nat.le_of_ble_eq_true rfl, Nat.le_of_ble_eq_true rfl⟩ (by decide) (ce_house ad cs _ _) rfl rfl dL_law_277 (fun r1 M2 L3 hr1 => ?_)
  refine g_aload_n C 1 dL_law_280 rfl ?_
  refine g_aload_n C 3 dL_law_281 rfl ?_
  refine g_iload_n C 0 dL_law_282 rfl ?_
  refine g_iconst C 1 dL_law_283 (by decide) ?_
  refine g_iadd C dL_law_284 ?_
  refine g_ti 1 (by decide) ?_
  refine g_xld C hX hbl hbA (by unfold vp_in; decide) dL_law_285 ?_
  refine g_ti (xs 1) rfl ?_
  refine g_aload_n C 3 dL_law_286 rfl ?_
  refine g_iload_n C 0 dL_law_287 rfl ?_
  refine g_iconst C 2 dL_law_288 (by decide) ?_
  refine g_iadd C dL_law_289 ?_
  refine g_ti 2 (by decide) ?_
  refine g_xld C hX hbl hbA (by unfold vp_in; decide) dL_law_290 ?_
  refine g_ti (xs 2) rfl ?_
  refine g_callVi C (n := 2) (As := [.int ((xs 1)), .int ((xs 2))]) (st := [.int r1]) (p_X11_rank l D ad cs _ _ ((xs 1)) ((xs 2)) (fun k9 h1 _ => hr1.2 k9 h1)) gl_X11_rank rfl rfl rfl (by decide +kernel) ⟨Nat.le_of_ble_eq_true rfl, Nat.le_of_ble_eq_true rfl⟩ rfl (Nat.le_of_ble_eq_true rfl) ⟨Nat.le_of_ble_eq_true rfl, Nat.le_of_ble_eq_true rfl⟩ (by decide) (ce_model ad cs _ _) rfl rfl dL_law_291 (fun r4 M5 L6 hr4 => ?_)
  refine g_icmp_eq C 1069 dL_law_294 (by decide) (fun c7 => ?_) (fun c7 => ?_)
  ·
    exact law_end C hr hX hbl hbA hnew _ _
  ·
    refine g_iconst C 0 dL_law_297 (by decide) ?_
    exact absurd (hr1.1.trans hr4.symm) c7
set_option maxHeartbeats 2000000 in
set_option maxRecDepth 100000 in
theorem law_c5 {p : Program} {l : Launch} {e : Env} {s : State} {m : MethodId} {below : List Frame} {meth : Method} {c : Code} {D : va_G} {ad : Nat → Nat} {cs : Nat → ClassId} {b : Nat} {xs : Nat → Int32} (C : Cx p s m #[Value.ref b] meth c code 4 lw_tbl RL D ad cs) (hr : meth.sig.returnType = ret) (hX : va_X b 6 xs s s.heap) (hbl : b < s.heap.size) (hbA : ¬ Ar ad b) (hnew : ∀ k, k < 297 → s.heap.size ≤ ad k) : G p l e room_1 s m #[Value.ref b] below meth c 297 6915 (lw_Z below #[Value.ref b] s) D ad cs 4 M0 L0 299 [(3, .int 0), (2, .ref (ad 258)), (1, .ref (ad 0)), (0, .ref b)] [] := by
  refine g_aload_n C 2 dL_law_299 rfl ?_
  refine g_aload_n C 3 dL_law_300 rfl ?_
  refine g_iload_n C 0 dL_law_301 rfl ?_
  refine g_iconst C 1 dL_law_302 (by decide) ?_
  refine g_iadd C dL_law_303 ?_
  refine g_ti 1 (by decide) ?_
  refine g_xld C hX hbl hbA (by unfold vp_in; decide) dL_law_304 ?_
  refine g_ti (xs 1) rfl ?_
  refine g_aload_n C 3 dL_law_305 rfl ?_
  refine g_iload_n C 0 dL_law_306 rfl ?_
  refine g_iconst C 2 dL_law_307 (by decide) ?_
  refine g_iadd C dL_law_308 ?_
  refine g_ti 2 (by decide) ?_
  refine g_xld C hX hbl hbA (by unfold vp_in; decide) dL_law_309 ?_
  refine g_ti (xs 2) rfl ?_
  refine g_aload_n C 3 dL_law_310 rfl ?_
  refine g_iload_n C 0 dL_law_311 rfl ?_
  refine g_iconst C 3 dL_law_312 (by decide) ?_
  refine g_iadd C dL_law_313 ?_
  refine g_ti 3 (by decide) ?_
  refine g_xld C hX hbl hbA (by unfold vp_in; decide) dL_law_314 ?_
  refine g_ti (xs 3) rfl ?_
  refine g_callVi C (n := 3) (As := [.int ((xs 1)), .int ((xs 2)), .int ((xs 3))]) (st := []) (p_X10_score l D ad cs _ _ ((xs 1)) ((xs 2)) ((xs 3)) (fun _ _ _ => rfl)) gl_X10_score rfl rfl rfl (by decide +kernel) ⟨Nat.le_of_ble_eq_true rfl, Nat.le_of_ble_eq_true rfl⟩ rfl (Nat.le_of_ble_eq_true rfl) ⟨Nat.le_of_ble_eq_true rfl, Nat.le_of_ble_eq_true rfl⟩ (by decide) (ce_house ad cs _ _) rfl rfl dL_law_315 (fun r1 M2 L3 hr1 => ?_)
  refine g_aload_n C 1 dL_law_318 rfl ?_
  refine g_aload_n C 3 dL_law_319 rfl ?_
  refine g_iload_n C 0 dL_law_320 rfl ?_
  refine g_iconst C 1 dL_law_321 (by decide) ?_
  refine g_iadd C dL_law_322 ?_
  refine g_ti 1 (by decide) ?_
  refine g_xld C hX hbl hbA (by unfold vp_in; decide) dL_law_323 ?_
  refine g_ti (xs 1) rfl ?_
  refine g_aload_n C 3 dL_law_324 rfl ?_
  refine g_iload_n C 0 dL_law_325 rfl ?_
  refine g_iconst C 2 dL_law_326 (by decide) ?_
  refine g_iadd C dL_law_327 ?_
  refine g_ti 2 (by decide) ?_
  refine g_xld C hX hbl hbA (by unfold vp_in; decide) dL_law_328 ?_
  refine g_ti (xs 2) rfl ?_
  refine g_aload_n C 3 dL_law_329 rfl ?_
  refine g_iload_n C 0 dL_law_330 rfl ?_
  refine g_iconst C 3 dL_law_331 (by decide) ?_
  refine g_iadd C dL_law_332 ?_
  refine g_ti 3 (by decide) ?_
  refine g_xld C hX hbl hbA (by unfold vp_in; decide) dL_law_333 ?_
  refine g_ti (xs 3) rfl ?_
  refine g_callVi C (n := 3) (As := [.int ((xs 1)), .int ((xs 2)), .int ((xs 3))]) (st := [.int r1]) (p_X11_score l D ad cs _ _ ((xs 1)) ((xs 2)) ((xs 3)) (fun k9 h1 _ => hr1.2 k9 h1)) gl_X11_score rfl rfl rfl (by decide +kernel) ⟨Nat.le_of_ble_eq_true rfl, Nat.le_of_ble_eq_true rfl⟩ rfl (Nat.le_of_ble_eq_true rfl) ⟨Nat.le_of_ble_eq_true rfl, Nat.le_of_ble_eq_true rfl⟩ (by decide) (ce_model ad cs _ _) rfl rfl dL_law_334 (fun r4 M5 L6 hr4 => ?_)
  refine g_icmp_eq C 1069 dL_law_337 (by decide) (fun c7 => ?_) (fun c7 => ?_)
  ·
    exact law_end C hr hX hbl hbA hnew _ _
  ·
    refine g_iconst C 0 dL_law_340 (by decide) ?_
    exact absurd (hr1.1.trans hr4.symm) c7
set_option maxHeartbeats 2000000 in
set_option maxRecDepth 100000 in
theorem law_c6 {p : Program} {l : Launch} {e : Env} {s : State} {m : MethodId} {below : List Frame} {meth : Method} {c : Code} {D : va_G} {ad : Nat → Nat} {cs : Nat → ClassId} {b : Nat} {xs : Nat → Int32} (C : Cx p s m #[Value.ref b] meth c code 4 lw_tbl RL D ad cs) (hr : meth.sig.returnType = ret) (hX : va_X b 6 xs s s.heap) (hbl : b < s.heap.size) (hbA : ¬ Ar ad b) (hnew : ∀ k, k < 297 → s.heap.size ≤ ad k) : G p l e room_1 s m #[Value.ref b] below meth c 297 6915 (lw_Z below #[Value.ref b] s) D ad cs 4 M0 L0 342 [(3, .int 0), (2, .ref (ad 258)), (1, .ref (ad 0)), (0, .ref b)] [] := by
  refine g_aload_n C 2 dL_law_342 rfl ?_
  refine g_aload_n C 3 dL_law_343 rfl ?_
  refine g_iload_n C 0 dL_law_344 rfl ?_
  refine g_iconst C 1 dL_law_345 (by decide) ?_
  refine g_iadd C dL_law_346 ?_
  refine g_ti 1 (by decide) ?_
  refine g_xld C hX hbl hbA (by unfold vp_in; decide) dL_law_347 ?_
  refine g_ti (xs 1) rfl ?_
  refine g_aload_n C 3 dL_law_348 rfl ?_
  refine g_iload_n C 0 dL_law_349 rfl ?_
  refine g_iconst C 2 dL_law_350 (by decide) ?_
  refine g_iadd C dL_law_351 ?_
  refine g_ti 2 (by decide) ?_
  refine g_xld C hX hbl hbA (by unfold vp_in; decide) dL_law_352 ?_
  refine g_ti (xs 2) rfl ?_
  refine g_callVi C (n := 2) (As := [.int ((xs 1)), .int ((xs 2))]) (st := []) (p_X10_told l D ad cs _ _ ((xs 1)) ((xs 2)) (fun _ _ _ => rfl)) gl_X10_told rfl rfl rfl (by decide +kernel) ⟨Nat.le_of_ble_eq_true rfl, Nat.le_of_ble_eq_true rfl⟩ rfl (Nat.le_of_ble_eq_true rfl) ⟨Nat.le_of_ble_eq_true rfl, Nat.le_of_ble_eq_true rfl⟩ (by decide) (ce_house ad cs _ _) rfl rfl dL_law_353 (fun r1 M2 L3 hr1 => ?_)
  refine g_aload_n C 1 dL_law_356 rfl ?_
  refine g_aload_n C 3 dL_law_357 rfl ?_
  refine g_iload_n C 0 dL_law_358 rfl ?_
  refine g_iconst C 1 dL_law_359 (by decide) ?_
  refine g_iadd C dL_law_360 ?_
  refine g_ti 1 (by decide) ?_
  refine g_xld C hX hbl hbA (by unfold vp_in; decide) dL_law_361 ?_
  refine g_ti (xs 1) rfl ?_
  refine g_aload_n C 3 dL_law_362 rfl ?_
  refine g_iload_n C 0 dL_law_363 rfl ?_
  refine g_iconst C 2 dL_law_364 (by decide) ?_
  refine g_iadd C dL_law_365 ?_
  refine g_ti 2 (by decide) ?_
  refine g_xld C hX hbl hbA (by unfold vp_in; decide) dL_law_366 ?_
  refine g_ti (xs 2) rfl ?_
  refine g_callVi C (n := 2) (As := [.int ((xs 1)), .int ((xs 2))]) (st := [.int r1]) (p_X11_told l D ad cs _ _ ((xs 1)) ((xs 2)) (fun k9 h1 _ => hr1.2 k9 h1)) gl_X11_told rfl rfl rfl (by decide +kernel) ⟨Nat.le_of_ble_eq_true rfl, Nat.le_of_ble_eq_true rfl⟩ rfl (Nat.le_of_ble_eq_true rfl) ⟨Nat.le_of_ble_eq_true rfl, Nat.le_of_ble_eq_true rfl⟩ (by decide) (ce_model ad cs _ _) rfl rfl dL_law_367 (fun r4 M5 L6 hr4 => ?_)
  refine g_icmp_eq C 1069 dL_law_370 (by decide) (fun c7 => ?_) (fun c7 => ?_)
  ·
    exact law_end C hr hX hbl hbA hnew _ _
  ·
    refine g_iconst C 0 dL_law_373 (by decide) ?_
    exact absurd (hr1.1.trans hr4.symm) c7
set_option maxHeartbeats 2000000 in
set_option maxRecDepth 100000 in
theorem law_c7 {p : Program} {l : Launch} {e : Env} {s : State} {m : MethodId} {below : List Frame} {meth : Method} {c : Code} {D : va_G} {ad : Nat → Nat} {cs : Nat → ClassId} {b : Nat} {xs : Nat → Int32} (C : Cx p s m #[Value.ref b] meth c code 4 lw_tbl RL D ad cs) (hr : meth.sig.returnType = ret) (hX : va_X b 6 xs s s.heap) (hbl : b < s.heap.size) (hbA : ¬ Ar ad b) (hnew : ∀ k, k < 297 → s.heap.size ≤ ad k) : G p l e room_1 s m #[Value.ref b] below meth c 297 6915 (lw_Z below #[Value.ref b] s) D ad cs 4 M0 L0 375 [(3, .int 0), (2, .ref (ad 258)), (1, .ref (ad 0)), (0, .ref b)] [] := by
  refine g_aload_n C 2 dL_law_375 rfl ?_
  refine g_aload_n C 3 dL_law_376 rfl ?_
  refine g_iload_n C 0 dL_law_377 rfl ?_
  refine g_iconst C 1 dL_law_378 (by decide) ?_
  refine g_iadd C dL_law_379 ?_
  refine g_ti 1 (by decide) ?_
  refine g_xld C hX hbl hbA (by unfold vp_in; decide) dL_law_380 ?_
  refine g_ti (xs 1) rfl ?_
  refine g_aload_n C 3 dL_law_381 rfl ?_
  refine g_iload_n C 0 dL_law_382 rfl ?_
  refine g_iconst C 2 dL_law_383 (by decide) ?_
  refine g_iadd C dL_law_384 ?_
  refine g_ti 2 (by decide) ?_
  refine g_xld C hX hbl hbA (by unfold vp_in; decide) dL_law_385 ?_
  refine g_ti (xs 2) rfl ?_
  refine g_callVi C (n := 2) (As := [.int ((xs 1)), .int ((xs 2))]) (st := []) (p_X10_is l D ad cs _ _ ((xs 1)) ((xs 2)) (fun _ _ _ => rfl)) gl_X10_is rfl rfl rfl (by decide +kernel) ⟨Nat.le_of_ble_eq_true rfl, Nat.le_of_ble_eq_true rfl⟩ rfl (Nat.le_of_ble_eq_true rfl) ⟨Nat.le_of_ble_eq_true rfl, Nat.le_of_ble_eq_true rfl⟩ (by decide) (ce_house ad cs _ _) rfl rfl dL_law_386 (fun r1 M2 L3 hr1 => ?_)
  refine g_aload_n C 1 dL_law_389 rfl ?_
  refine g_aload_n C 3 dL_law_390 rfl ?_
  refine g_iload_n C 0 dL_law_391 rfl ?_
  refine g_iconst C 1 dL_law_392 (by decide) ?_
  refine g_iadd C dL_law_393 ?_
  refine g_ti 1 (by decide) ?_
  refine g_xld C hX hbl hbA (by unfold vp_in; decide) dL_law_394 ?_
  refine g_ti (xs 1) rfl ?_
  refine g_aload_n C 3 dL_law_395 rfl ?_
  refine g_iload_n C 0 dL_law_396 rfl ?_
  refine g_iconst C 2 dL_law_397 (by decide) ?_
  refine g_iadd C dL_law_398 ?_
  refine g_ti 2 (by decide) ?_
  refine g_xld C hX hbl hbA (by unfold vp_in; decide) dL_law_399 ?_
  refine g_ti (xs 2) rfl ?_
  refine g_callVi C (n := 2) (As := [.int ((xs 1)), .int ((xs 2))]) (st := [.int r1]) (p_X11_is l D ad cs _ _ ((xs 1)) ((xs 2)) (fun k9 h1 _ => hr1.2 k9 h1)) gl_X11_is rfl rfl rfl (by decide +kernel) ⟨Nat.le_of_ble_eq_true rfl, Nat.le_of_ble_eq_true rfl⟩ rfl (Nat.le_of_ble_eq_true rfl) ⟨Nat.le_of_ble_eq_true rfl, Nat.le_of_ble_eq_true rfl⟩ (by decide) (ce_model ad cs _ _) rfl rfl dL_law_400 (fun r4 M5 L6 hr4 => ?_)
  refine g_icmp_eq C 1069 dL_law_403 (by decide) (fun c7 => ?_) (fun c7 => ?_)
  ·
    exact law_end C hr hX hbl hbA hnew _ _
  ·
    refine g_iconst C 0 dL_law_406 (by decide) ?_
    exact absurd (hr1.1.trans hr4.symm) c7
set_option maxHeartbeats 2000000 in
set_option maxRecDepth 100000 in
theorem law_c8 {p : Program} {l : Launch} {e : Env} {s : State} {m : MethodId} {below : List Frame} {meth : Method} {c : Code} {D : va_G} {ad : Nat → Nat} {cs : Nat → ClassId} {b : Nat} {xs : Nat → Int32} (C : Cx p s m #[Value.ref b] meth c code 4 lw_tbl RL D ad cs) (hr : meth.sig.returnType = ret) (hX : va_X b 6 xs s s.heap) (hbl : b < s.heap.size) (hbA : ¬ Ar ad b) (hnew : ∀ k, k < 297 → s.heap.size ≤ ad k) : G p l e room_1 s m #[Value.ref b] below meth c 297 6915 (lw_Z below #[Value.ref b] s) D ad cs 4 M0 L0 408 [(3, .int 0), (2, .ref (ad 258)), (1, .ref (ad 0)), (0, .ref b)] [] := by
  refine g_aload_n C 2 dL_law_408 rfl ?_
  refine g_aload_n C 3 dL_law_409 rfl ?_
  refine g_iload_n C 0 dL_law_410 rfl ?_
  refine g_iconst C 1 dL_law_411 (by decide) ?_
  refine g_iadd C dL_law_412 ?_
  refine g_ti 1 (by decide) ?_
  refine g_xld C hX hbl hbA (by unfold vp_in; decide) dL_law_413 ?_
  refine g_ti (xs 1) rfl ?_
  refine g_aload_n C 3 dL_law_414 rfl ?_
  refine g_iload_n C 0 dL_law_415 rfl ?_
  refine g_iconst C 2 dL_law_416 (by decide) ?_
  refine g_iadd C dL_law_417 ?_
  refine g_ti 2 (by decide) ?_
  refine g_xld C hX hbl hbA (by unfold vp_in; decide) dL_law_418 ?_
  refine g_ti (xs 2) rfl ?_
  refine g_callVi C (n := 2) (As := [.int ((xs 1)), .int ((xs 2))]) (st := []) (p_X10_box l D ad cs _ _ ((xs 1)) ((xs 2)) (fun _ _ _ => rfl)) gl_X10_box rfl rfl rfl (by decide +kernel) ⟨Nat.le_of_ble_eq_true rfl, Nat.le_of_ble_eq_true rfl⟩ rfl (Nat.le_of_ble_eq_true rfl) ⟨Nat.le_of_ble_eq_true rfl, Nat.le_of_ble_eq_true rfl⟩ (by decide) (ce_house ad cs _ _) rfl rfl dL_law_419 (fun r1 M2 L3 hr1 => ?_)
  refine g_aload_n C 1 dL_law_422 rfl ?_
  refine g_aload_n C 3 dL_law_423 rfl ?_
  refine g_iload_n C 0 dL_law_424 rfl ?_
  refine g_iconst C 1 dL_law_425 (by decide) ?_
  refine g_iadd C dL_law_426 ?_
  refine g_ti 1 (by decide) ?_
  refine g_xld C hX hbl hbA (by unfold vp_in; decide) dL_law_427 ?_
  refine g_ti (xs 1) rfl ?_
  refine g_aload_n C 3 dL_law_428 rfl ?_
  refine g_iload_n C 0 dL_law_429 rfl ?_
  refine g_iconst C 2 dL_law_430 (by decide) ?_
  refine g_iadd C dL_law_431 ?_
  refine g_ti 2 (by decide) ?_
  refine g_xld C hX hbl hbA (by unfold vp_in; decide) dL_law_432 ?_
  refine g_ti (xs 2) rfl ?_
  refine g_callVi C (n := 2) (As := [.int ((xs 1)), .int ((xs 2))]) (st := [.int r1]) (p_X11_box l D ad cs _ _ ((xs 1)) ((xs 2)) (fun k9 h1 _ => hr1.2 k9 h1)) gl_X11_box rfl rfl rfl (by decide +kernel) ⟨Nat.le_of_ble_eq_true rfl, Nat.le_of_ble_eq_true rfl⟩ rfl (Nat.le_of_ble_eq_true rfl) ⟨Nat.le_of_ble_eq_true rfl, Nat.le_of_ble_eq_true rfl⟩ (by decide) (ce_model ad cs _ _) rfl rfl dL_law_433 (fun r4 M5 L6 hr4 => ?_)
  refine g_icmp_eq C 1069 dL_law_436 (by decide) (fun c7 => ?_) (fun c7 => ?_)
  ·
    exact law_end C hr hX hbl hbA hnew _ _
  ·
    refine g_iconst C 0 dL_law_439 (by decide) ?_
    exact absurd (hr1.1.trans hr4.symm) c7
set_option maxHeartbeats 2000000 in
set_option maxRecDepth 100000 in
theorem law_c9 {p : Program} {l : Launch} {e : Env} {s : State} {m : MethodId} {below : List Frame} {meth : Method} {c : Code} {D : va_G} {ad : Nat → Nat} {cs : Nat → ClassId} {b : Nat} {xs : Nat → Int32} (C : Cx p s m #[Value.ref b] meth c code 4 lw_tbl RL D ad cs) (hr : meth.sig.returnType = ret) (hX : va_X b 6 xs s s.heap) (hbl : b < s.heap.size) (hbA : ¬ Ar ad b) (hnew : ∀ k, k < 297 → s.heap.size ≤ ad k) : G p l e room_1 s m #[Value.ref b] below meth c 297 6915 (lw_Z below #[Value.ref b] s) D ad cs 4 M0 L0 441 [(3, .int 0), (2, .ref (ad 258)), (1, .ref (ad 0)), (0, .ref b)] [] := by
  refine g_aload_n C 2 dL_law_441 rfl ?_
  refine g_aload_n C 3 dL_law_442 rfl ?_
  refine g_iload_n C 0 dL_law_443 rfl ?_
  refine g_iconst C 1 dL_law_444 (by decide) ?_
  refine g_iadd C dL_law_445 ?_
  refine g_ti 1 (by decide) ?_
  refine g_xld C hX hbl hbA (by unfold vp_in; decide) dL_law_446 ?_
  refine g_ti (xs 1) rfl ?_
  refine g_aload_n C 3 dL_law_447 rfl ?_
  refine g_iload_n C 0 dL_law_448 rfl ?_
  refine g_iconst C 2 dL_law_449 (by decide) ?_
  refine g_iadd C dL_law_450 ?_
  refine g_ti 2 (by decide) ?_
  refine g_xld C hX hbl hbA (by unfold vp_in; decide) dL_law_451 ?_
  refine g_ti (xs 2) rfl ?_
  refine g_aload_n C 3 dL_law_452 rfl ?_
  refine g_iload_n C 0 dL_law_453 rfl ?_
  refine g_iconst C 3 dL_law_454 (by decide) ?_
  refine g_iadd C dL_law_455 ?_
  refine g_ti 3 (by decide) ?_
  refine g_xld C hX hbl hbA (by unfold vp_in; decide) dL_law_456 ?_
  refine g_ti (xs 3) rfl ?_
  refine g_callVi C (n := 3) (As := [.int ((xs 1)), .int ((xs 2)), .int ((xs 3))]) (st := []) (p_X10_put l D ad cs _ _ ((xs 1)) ((xs 2)) ((xs 3)) (fun _ _ _ => rfl)) gl_X10_put rfl rfl rfl (by decide +kernel) ⟨Nat.le_of_ble_eq_true rfl, Nat.le_of_ble_eq_true rfl⟩ rfl (Nat.le_of_ble_eq_true rfl) ⟨Nat.le_of_ble_eq_true rfl, Nat.le_of_ble_eq_true rfl⟩ (by decide) (ce_house ad cs _ _) rfl rfl dL_law_457 (fun r1 M2 L3 hr1 => ?_)
  refine g_aload_n C 1 dL_law_460 rfl ?_
  refine g_aload_n C 3 dL_law_461 rfl ?_
  refine g_iload_n C 0 dL_law_462 rfl ?_
  refine g_iconst C 1 dL_law_463 (by decide) ?_
  refine g_iadd C dL_law_464 ?_
  refine g_ti 1 (by decide) ?_
  refine g_xld C hX hbl hbA (by unfold vp_in; decide) dL_law_465 ?_
  refine g_ti (xs 1) rfl ?_
  refine g_aload_n C 3 dL_law_466 rfl ?_
  refine g_iload_n C 0 dL_law_467 rfl ?_
  refine g_iconst C 2 dL_law_468 (by decide) ?_
  refine g_iadd C dL_law_469 ?_
  refine g_ti 2 (by decide) ?_
  refine g_xld C hX hbl hbA (by unfold vp_in; decide) dL_law_470 ?_
  refine g_ti (xs 2) rfl ?_
  refine g_aload_n C 3 dL_law_471 rfl ?_
  refine g_iload_n C 0 dL_law_472 rfl ?_
  refine g_iconst C 3 dL_law_473 (by decide) ?_
  refine g_iadd C dL_law_474 ?_
  refine g_ti 3 (by decide) ?_
  refine g_xld C hX hbl hbA (by unfold vp_in; decide) dL_law_475 ?_
  refine g_ti (xs 3) rfl ?_
  refine g_callVi C (n := 3) (As := [.int ((xs 1)), .int ((xs 2)), .int ((xs 3))]) (st := [.int r1]) (p_X11_put l D ad cs _ _ ((xs 1)) ((xs 2)) ((xs 3)) (fun k9 h1 _ => hr1.2 k9 h1)) gl_X11_put rfl rfl rfl (by decide +kernel) ⟨Nat.le_of_ble_eq_true rfl, Nat.le_of_ble_eq_true rfl⟩ rfl (Nat.le_of_ble_eq_true rfl) ⟨Nat.le_of_ble_eq_true rfl, Nat.le_of_ble_eq_true rfl⟩ (by decide) (ce_model ad cs _ _) rfl rfl dL_law_476 (fun r4 M5 L6 hr4 => ?_)
  refine g_icmp_eq C 1069 dL_law_479 (by decide) (fun c7 => ?_) (fun c7 => ?_)
  ·
    exact law_end C hr hX hbl hbA hnew _ _
  ·
    refine g_iconst C 0 dL_law_482 (by decide) ?_
    exact absurd (hr1.1.trans hr4.symm) c7
set_option maxHeartbeats 2000000 in
set_option maxRecDepth 100000 in
theorem law_c10 {p : Program} {l : Launch} {e : Env} {s : State} {m : MethodId} {below : List Frame} {meth : Method} {c : Code} {D : va_G} {ad : Nat → Nat} {cs : Nat → ClassId} {b : Nat} {xs : Nat → Int32} (C : Cx p s m #[Value.ref b] meth c code 4 lw_tbl RL D ad cs) (hr : meth.sig.returnType = ret) (hX : va_X b 6 xs s s.heap) (hbl : b < s.heap.size) (hbA : ¬ Ar ad b) (hnew : ∀ k, k < 297 → s.heap.size ≤ ad k) : G p l e room_1 s m #[Value.ref b] below meth c 297 6915 (lw_Z below #[Value.ref b] s) D ad cs 4 M0 L0 484 [(3, .int 0), (2, .ref (ad 258)), (1, .ref (ad 0)), (0, .ref b)] [] := by
  refine g_aload_n C 2 dL_law_484 rfl ?_
  refine g_aload_n C 3 dL_law_485 rfl ?_
  refine g_iload_n C 0 dL_law_486 rfl ?_
  refine g_iconst C 1 dL_law_487 (by decide) ?_
  refine g_iadd C dL_law_488 ?_
  refine g_ti 1 (by decide) ?_
  refine g_xld C hX hbl hbA (by unfold vp_in; decide) dL_law_489 ?_
  refine g_ti (xs 1) rfl ?_
  refine g_aload_n C 3 dL_law_490 rfl ?_
  refine g_iload_n C 0 dL_law_491 rfl ?_
  refine g_iconst C 2 dL_law_492 (by decide) ?_
  refine g_iadd C dL_law_493 ?_
  refine g_ti 2 (by decide) ?_
  refine g_xld C hX hbl hbA (by unfold vp_in; decide) dL_law_494 ?_
  refine g_ti (xs 2) rfl ?_
  refine g_aload_n C 3 dL_law_495 rfl ?_
  refine g_iload_n C 0 dL_law_496 rfl ?_
  refine g_iconst C 3 dL_law_497 (by decide) ?_
  refine g_iadd C dL_law_498 ?_
  refine g_ti 3 (by decide) ?_
  refine g_xld C hX hbl hbA (by unfold vp_in; decide) dL_law_499 ?_
  refine g_ti (xs 3) rfl ?_
  refine g_aload_n C 3 dL_law_500 rfl ?_
  refine g_iload_n C 0 dL_law_501 rfl ?_
  refine g_iconst C 4 dL_law_502 (by decide) ?_
  refine g_iadd C dL_law_503 ?_
  refine g_ti 4 (by decide) ?_
  refine g_xld C hX hbl hbA (by unfold vp_in; decide) dL_law_504 ?_
  refine g_ti (xs 4) rfl ?_
  refine g_aload_n C 3 dL_law_505 rfl ?_
  refine g_iload_n C 0 dL_law_506 rfl ?_
  refine g_iconst C 5 dL_law_507 (by decide) ?_
  refine g_iadd C dL_law_508 ?_
  refine g_ti 5 (by decide) ?_
  refine g_xld C hX hbl hbA (by unfold vp_in; decide) dL_law_509 ?_
  refine g_ti (xs 5) rfl ?_
  refine g_callVi C (n := 5) (As := [.int ((xs 1)), .int ((xs 2)), .int ((xs 3)), .int ((xs 4)), .int ((xs 5))]) (st := []) (p_X10_pour l D ad cs _ _ ((xs 1)) ((xs 2)) ((xs 3)) ((xs 4)) ((xs 5)) (fun _ _ _ => rfl)) gl_X10_pour rfl rfl rfl (by decide +kernel) ⟨Nat.le_of_ble_eq_true rfl, Nat.le_of_ble_eq_true rfl⟩ rfl (Nat.le_of_ble_eq_true rfl) ⟨Nat.le_of_ble_eq_true rfl, Nat.le_of_ble_eq_true rfl⟩ (by decide) (ce_house ad cs _ _) rfl rfl dL_law_510 (fun r1 M2 L3 hr1 => ?_)
  refine g_aload_n C 1 dL_law_513 rfl ?_
  refine g_aload_n C 3 dL_law_514 rfl ?_
  refine g_iload_n C 0 dL_law_515 rfl ?_
  refine g_iconst C 1 dL_law_516 (by decide) ?_
  refine g_iadd C dL_law_517 ?_
  refine g_ti 1 (by decide) ?_
  refine g_xld C hX hbl hbA (by unfold vp_in; decide) dL_law_518 ?_
  refine g_ti (xs 1) rfl ?_
  refine g_aload_n C 3 dL_law_519 rfl ?_
  refine g_iload_n C 0 dL_law_520 rfl ?_
  refine g_iconst C 2 dL_law_521 (by decide) ?_
  refine g_iadd C dL_law_522 ?_
  refine g_ti 2 (by decide) ?_
  refine g_xld C hX hbl hbA (by unfold vp_in; decide) dL_law_523 ?_
  refine g_ti (xs 2) rfl ?_
  refine g_aload_n C 3 dL_law_524 rfl ?_
  refine g_iload_n C 0 dL_law_525 rfl ?_
  refine g_iconst C 3 dL_law_526 (by decide) ?_
  refine g_iadd C dL_law_527 ?_
  refine g_ti 3 (by decide) ?_
  refine g_xld C hX hbl hbA (by unfold vp_in; decide) dL_law_528 ?_
  refine g_ti (xs 3) rfl ?_
  refine g_aload_n C 3 dL_law_529 rfl ?_
  refine g_iload_n C 0 dL_law_530 rfl ?_
  refine g_iconst C 4 dL_law_531 (by decide) ?_
  refine g_iadd C dL_law_532 ?_
  refine g_ti 4 (by decide) ?_
  refine g_xld C hX hbl hbA (by unfold vp_in; decide) dL_law_533 ?_
  refine g_ti (xs 4) rfl ?_
  refine g_aload_n C 3 dL_law_534 rfl ?_
  refine g_iload_n C 0 dL_law_535 rfl ?_
  refine g_iconst C 5 dL_law_536 (by decide) ?_
  refine g_iadd C dL_law_537 ?_
  refine g_ti 5 (by decide) ?_
  refine g_xld C hX hbl hbA (by unfold vp_in; decide) dL_law_538 ?_
  refine g_ti (xs 5) rfl ?_
  refine g_callVi C (n := 5) (As := [.int ((xs 1)), .int ((xs 2)), .int ((xs 3)), .int ((xs 4)), .int ((xs 5))]) (st := [.int r1]) (p_X11_pour l D ad cs _ _ ((xs 1)) ((xs 2)) ((xs 3)) ((xs 4)) ((xs 5)) (fun k9 h1 _ => hr1.2 k9 h1)) gl_X11_pour rfl rfl rfl (by decide +kernel) ⟨Nat.le_of_ble_eq_true rfl, Nat.le_of_ble_eq_true rfl⟩ rfl (Nat.le_of_ble_eq_true rfl) ⟨Nat.le_of_ble_eq_true rfl, Nat.le_of_ble_eq_true rfl⟩ (by decide) (ce_model ad cs _ _) rfl rfl dL_law_539 (fun r4 M5 L6 hr4 => ?_)
  refine g_icmp_eq C 1069 dL_law_542 (by decide) (fun c7 => ?_) (fun c7 => ?_)
  ·
    exact law_end C hr hX hbl hbA hnew _ _
  ·
    refine g_iconst C 0 dL_law_545 (by decide) ?_
    exact absurd (hr1.1.trans hr4.symm) c7
set_option maxHeartbeats 2000000 in
set_option maxRecDepth 100000 in
theorem law_c11 {p : Program} {l : Launch} {e : Env} {s : State} {m : MethodId} {below : List Frame} {meth : Method} {c : Code} {D : va_G} {ad : Nat → Nat} {cs : Nat → ClassId} {b : Nat} {xs : Nat → Int32} (C : Cx p s m #[Value.ref b] meth c code 4 lw_tbl RL D ad cs) (hr : meth.sig.returnType = ret) (hX : va_X b 6 xs s s.heap) (hbl : b < s.heap.size) (hbA : ¬ Ar ad b) (hnew : ∀ k, k < 297 → s.heap.size ≤ ad k) : G p l e room_1 s m #[Value.ref b] below meth c 297 6915 (lw_Z below #[Value.ref b] s) D ad cs 4 M0 L0 547 [(3, .int 0), (2, .ref (ad 258)), (1, .ref (ad 0)), (0, .ref b)] [] := by
  refine g_aload_n C 2 dL_law_547 rfl ?_
  refine g_aload_n C 3 dL_law_548 rfl ?_
  refine g_iload_n C 0 dL_law_549 rfl ?_
  refine g_iconst C 1 dL_law_550 (by decide) ?_
  refine g_iadd C dL_law_551 ?_
  refine g_ti 1 (by decide) ?_
  refine g_xld C hX hbl hbA (by unfold vp_in; decide) dL_law_552 ?_
  refine g_ti (xs 1) rfl ?_
  refine g_aload_n C 3 dL_law_553 rfl ?_
  refine g_iload_n C 0 dL_law_554 rfl ?_
  refine g_iconst C 2 dL_law_555 (by decide) ?_
  refine g_iadd C dL_law_556 ?_
  refine g_ti 2 (by decide) ?_
  refine g_xld C hX hbl hbA (by unfold vp_in; decide) dL_law_557 ?_
  refine g_ti (xs 2) rfl ?_
  refine g_callVi C (n := 2) (As := [.int ((xs 1)), .int ((xs 2))]) (st := []) (p_X10_at l D ad cs _ _ ((xs 1)) ((xs 2)) (fun _ _ _ => rfl)) gl_X10_at rfl rfl rfl (by decide +kernel) ⟨Nat.le_of_ble_eq_true rfl, Nat.le_of_ble_eq_true rfl⟩ rfl (Nat.le_of_ble_eq_true rfl) ⟨Nat.le_of_ble_eq_true rfl, Nat.le_of_ble_eq_true rfl⟩ (by decide) (ce_house ad cs _ _) rfl rfl dL_law_558 (fun r1 M2 L3 hr1 => ?_)
  refine g_aload_n C 1 dL_law_561 rfl ?_
  refine g_aload_n C 3 dL_law_562 rfl ?_
  refine g_iload_n C 0 dL_law_563 rfl ?_
  refine g_iconst C 1 dL_law_564 (by decide) ?_
  refine g_iadd C dL_law_565 ?_
  refine g_ti 1 (by decide) ?_
  refine g_xld C hX hbl hbA (by unfold vp_in; decide) dL_law_566 ?_
  refine g_ti (xs 1) rfl ?_
  refine g_aload_n C 3 dL_law_567 rfl ?_
  refine g_iload_n C 0 dL_law_568 rfl ?_
  refine g_iconst C 2 dL_law_569 (by decide) ?_
  refine g_iadd C dL_law_570 ?_
  refine g_ti 2 (by decide) ?_
  refine g_xld C hX hbl hbA (by unfold vp_in; decide) dL_law_571 ?_
  refine g_ti (xs 2) rfl ?_
  refine g_callVi C (n := 2) (As := [.int ((xs 1)), .int ((xs 2))]) (st := [.int r1]) (p_X11_at l D ad cs _ _ ((xs 1)) ((xs 2)) (fun k9 h1 _ => hr1.2 k9 h1)) gl_X11_at rfl rfl rfl (by decide +kernel) ⟨Nat.le_of_ble_eq_true rfl, Nat.le_of_ble_eq_true rfl⟩ rfl (Nat.le_of_ble_eq_true rfl) ⟨Nat.le_of_ble_eq_true rfl, Nat.le_of_ble_eq_true rfl⟩ (by decide) (ce_model ad cs _ _) rfl rfl dL_law_572 (fun r4 M5 L6 hr4 => ?_)
  refine g_icmp_eq C 1069 dL_law_575 (by decide) (fun c7 => ?_) (fun c7 => ?_)
  ·
    exact law_end C hr hX hbl hbA hnew _ _
  ·
    refine g_iconst C 0 dL_law_578 (by decide) ?_
    exact absurd (hr1.1.trans hr4.symm) c7
set_option maxHeartbeats 2000000 in
set_option maxRecDepth 100000 in
theorem law_c12 {p : Program} {l : Launch} {e : Env} {s : State} {m : MethodId} {below : List Frame} {meth : Method} {c : Code} {D : va_G} {ad : Nat → Nat} {cs : Nat → ClassId} {b : Nat} {xs : Nat → Int32} (C : Cx p s m #[Value.ref b] meth c code 4 lw_tbl RL D ad cs) (hr : meth.sig.returnType = ret) (hX : va_X b 6 xs s s.heap) (hbl : b < s.heap.size) (hbA : ¬ Ar ad b) (hnew : ∀ k, k < 297 → s.heap.size ≤ ad k) : G p l e room_1 s m #[Value.ref b] below meth c 297 6915 (lw_Z below #[Value.ref b] s) D ad cs 4 M0 L0 580 [(3, .int 0), (2, .ref (ad 258)), (1, .ref (ad 0)), (0, .ref b)] [] := by
  refine g_aload_n C 2 dL_law_580 rfl ?_
  refine g_aload_n C 3 dL_law_581 rfl ?_
  refine g_iload_n C 0 dL_law_582 rfl ?_
  refine g_iconst C 1 dL_law_583 (by decide) ?_
  refine g_iadd C dL_law_584 ?_
  refine g_ti 1 (by decide) ?_
  refine g_xld C hX hbl hbA (by unfold vp_in; decide) dL_law_585 ?_
  refine g_ti (xs 1) rfl ?_
  refine g_aload_n C 3 dL_law_586 rfl ?_
  refine g_iload_n C 0 dL_law_587 rfl ?_
  refine g_iconst C 2 dL_law_588 (by decide) ?_
  refine g_iadd C dL_law_589 ?_
  refine g_ti 2 (by decide) ?_
  refine g_xld C hX hbl hbA (by unfold vp_in; decide) dL_law_590 ?_
  refine g_ti (xs 2) rfl ?_
  refine g_callVi C (n := 2) (As := [.int ((xs 1)), .int ((xs 2))]) (st := []) (p_X10_share l D ad cs _ _ ((xs 1)) ((xs 2)) (fun _ _ _ => rfl)) gl_X10_share rfl rfl rfl (by decide +kernel) ⟨Nat.le_of_ble_eq_true rfl, Nat.le_of_ble_eq_true rfl⟩ rfl (Nat.le_of_ble_eq_true rfl) ⟨Nat.le_of_ble_eq_true rfl, Nat.le_of_ble_eq_true rfl⟩ (by decide) (ce_house ad cs _ _) rfl rfl dL_law_591 (fun r1 M2 L3 hr1 => ?_)
  refine g_aload_n C 1 dL_law_594 rfl ?_
  refine g_aload_n C 3 dL_law_595 rfl ?_
  refine g_iload_n C 0 dL_law_596 rfl ?_
  refine g_iconst C 1 dL_law_597 (by decide) ?_
  refine g_iadd C dL_law_598 ?_
  refine g_ti 1 (by decide) ?_
  refine g_xld C hX hbl hbA (by unfold vp_in; decide) dL_law_599 ?_
  refine g_ti (xs 1) rfl ?_
  refine g_aload_n C 3 dL_law_600 rfl ?_
  refine g_iload_n C 0 dL_law_601 rfl ?_
  refine g_iconst C 2 dL_law_602 (by decide) ?_
  refine g_iadd C dL_law_603 ?_
  refine g_ti 2 (by decide) ?_
  refine g_xld C hX hbl hbA (by unfold vp_in; decide) dL_law_604 ?_
  refine g_ti (xs 2) rfl ?_
  refine g_callVi C (n := 2) (As := [.int ((xs 1)), .int ((xs 2))]) (st := [.int r1]) (p_X11_share l D ad cs _ _ ((xs 1)) ((xs 2)) (fun k9 h1 _ => hr1.2 k9 h1)) gl_X11_share rfl rfl rfl (by decide +kernel) ⟨Nat.le_of_ble_eq_true rfl, Nat.le_of_ble_eq_true rfl⟩ rfl (Nat.le_of_ble_eq_true rfl) ⟨Nat.le_of_ble_eq_true rfl, Nat.le_of_ble_eq_true rfl⟩ (by decide) (ce_model ad cs _ _) rfl rfl dL_law_605 (fun r4 M5 L6 hr4 => ?_)
  refine g_icmp_eq C 1069 dL_law_608 (by decide) (fun c7 => ?_) (fun c7 => ?_)
  ·
    exact law_end C hr hX hbl hbA hnew _ _
  ·
    refine g_iconst C 0 dL_law_611 (by decide) ?_
    exact absurd (hr1.1.trans hr4.symm) c7
set_option maxHeartbeats 2000000 in
set_option maxRecDepth 100000 in
theorem law_c13 {p : Program} {l : Launch} {e : Env} {s : State} {m : MethodId} {below : List Frame} {meth : Method} {c : Code} {D : va_G} {ad : Nat → Nat} {cs : Nat → ClassId} {b : Nat} {xs : Nat → Int32} (C : Cx p s m #[Value.ref b] meth c code 4 lw_tbl RL D ad cs) (hr : meth.sig.returnType = ret) (hX : va_X b 6 xs s s.heap) (hbl : b < s.heap.size) (hbA : ¬ Ar ad b) (hnew : ∀ k, k < 297 → s.heap.size ≤ ad k) : G p l e room_1 s m #[Value.ref b] below meth c 297 6915 (lw_Z below #[Value.ref b] s) D ad cs 4 M0 L0 613 [(3, .int 0), (2, .ref (ad 258)), (1, .ref (ad 0)), (0, .ref b)] [] := by
  refine g_aload_n C 2 dL_law_613 rfl ?_
  refine g_aload_n C 3 dL_law_614 rfl ?_
  refine g_iload_n C 0 dL_law_615 rfl ?_
  refine g_iconst C 1 dL_law_616 (by decide) ?_
  refine g_iadd C dL_law_617 ?_
  refine g_ti 1 (by decide) ?_
  refine g_xld C hX hbl hbA (by unfold vp_in; decide) dL_law_618 ?_
  refine g_ti (xs 1) rfl ?_
  refine g_aload_n C 3 dL_law_619 rfl ?_
  refine g_iload_n C 0 dL_law_620 rfl ?_
  refine g_iconst C 2 dL_law_621 (by decide) ?_
  refine g_iadd C dL_law_622 ?_
  refine g_ti 2 (by decide) ?_
  refine g_xld C hX hbl hbA (by unfold vp_in; decide) dL_law_623 ?_
  refine g_ti (xs 2) rfl ?_
  refine g_callVi C (n := 2) (As := [.int ((xs 1)), .int ((xs 2))]) (st := []) (p_X10_weight l D ad cs _ _ ((xs 1)) ((xs 2)) (fun _ _ _ => rfl)) gl_X10_weight rfl rfl rfl (by decide +kernel) ⟨Nat.le_of_ble_eq_true rfl, Nat.le_of_ble_eq_true rfl⟩ rfl (Nat.le_of_ble_eq_true rfl) ⟨Nat.le_of_ble_eq_true rfl, Nat.le_of_ble_eq_true rfl⟩ (by decide) (ce_house ad cs _ _) rfl rfl dL_law_624 (fun r1 M2 L3 hr1 => ?_)
  refine g_aload_n C 1 dL_law_627 rfl ?_
  refine g_aload_n C 3 dL_law_628 rfl ?_
  refine g_iload_n C 0 dL_law_629 rfl ?_
  refine g_iconst C 1 dL_law_630 (by decide) ?_
  refine g_iadd C dL_law_631 ?_
  refine g_ti 1 (by decide) ?_
  refine g_xld C hX hbl hbA (by unfold vp_in; decide) dL_law_632 ?_
  refine g_ti (xs 1) rfl ?_
  refine g_aload_n C 3 dL_law_633 rfl ?_
  refine g_iload_n C 0 dL_law_634 rfl ?_
  refine g_iconst C 2 dL_law_635 (by decide) ?_
  refine g_iadd C dL_law_636 ?_
  refine g_ti 2 (by decide) ?_
  refine g_xld C hX hbl hbA (by unfold vp_in; decide) dL_law_637 ?_
  refine g_ti (xs 2) rfl ?_
  refine g_callVi C (n := 2) (As := [.int ((xs 1)), .int ((xs 2))]) (st := [.int r1]) (p_X11_weight l D ad cs _ _ ((xs 1)) ((xs 2)) (fun k9 h1 _ => hr1.2 k9 h1)) gl_X11_weight rfl rfl rfl (by decide +kernel) ⟨Nat.le_of_ble_eq_true rfl, Nat.le_of_ble_eq_true rfl⟩ rfl (Nat.le_of_ble_eq_true rfl) ⟨Nat.le_of_ble_eq_true rfl, Nat.le_of_ble_eq_true rfl⟩ (by decide) (ce_model ad cs _ _) rfl rfl dL_law_638 (fun r4 M5 L6 hr4 => ?_)
  refine g_icmp_eq C 1069 dL_law_641 (by decide) (fun c7 => ?_) (fun c7 => ?_)
  ·
    exact law_end C hr hX hbl hbA hnew _ _
  ·
    refine g_iconst C 0 dL_law_644 (by decide) ?_
    exact absurd (hr1.1.trans hr4.symm) c7
set_option maxHeartbeats 2000000 in
set_option maxRecDepth 100000 in
theorem law_c14 {p : Program} {l : Launch} {e : Env} {s : State} {m : MethodId} {below : List Frame} {meth : Method} {c : Code} {D : va_G} {ad : Nat → Nat} {cs : Nat → ClassId} {b : Nat} {xs : Nat → Int32} (C : Cx p s m #[Value.ref b] meth c code 4 lw_tbl RL D ad cs) (hr : meth.sig.returnType = ret) (hX : va_X b 6 xs s s.heap) (hbl : b < s.heap.size) (hbA : ¬ Ar ad b) (hnew : ∀ k, k < 297 → s.heap.size ≤ ad k) : G p l e room_1 s m #[Value.ref b] below meth c 297 6915 (lw_Z below #[Value.ref b] s) D ad cs 4 M0 L0 646 [(3, .int 0), (2, .ref (ad 258)), (1, .ref (ad 0)), (0, .ref b)] [] := by
  refine g_aload_n C 2 dL_law_646 rfl ?_
  refine g_aload_n C 3 dL_law_647 rfl ?_
  refine g_iload_n C 0 dL_law_648 rfl ?_
  refine g_iconst C 1 dL_law_649 (by decide) ?_
  refine g_iadd C dL_law_650 ?_
  refine g_ti 1 (by decide) ?_
  refine g_xld C hX hbl hbA (by unfold vp_in; decide) dL_law_651 ?_
  refine g_ti (xs 1) rfl ?_
  refine g_aload_n C 3 dL_law_652 rfl ?_
  refine g_iload_n C 0 dL_law_653 rfl ?_
  refine g_iconst C 2 dL_law_654 (by decide) ?_
  refine g_iadd C dL_law_655 ?_
  refine g_ti 2 (by decide) ?_
  refine g_xld C hX hbl hbA (by unfold vp_in; decide) dL_law_656 ?_
  refine g_ti (xs 2) rfl ?_
  refine g_aload_n C 3 dL_law_657 rfl ?_
  refine g_iload_n C 0 dL_law_658 rfl ?_
  refine g_iconst C 3 dL_law_659 (by decide) ?_
  refine g_iadd C dL_law_660 ?_
  refine g_ti 3 (by decide) ?_
  refine g_xld C hX hbl hbA (by unfold vp_in; decide) dL_law_661 ?_
  refine g_ti (xs 3) rfl ?_
  refine g_aload_n C 3 dL_law_662 rfl ?_
  refine g_iload_n C 0 dL_law_663 rfl ?_
  refine g_iconst C 4 dL_law_664 (by decide) ?_
  refine g_iadd C dL_law_665 ?_
  refine g_ti 4 (by decide) ?_
  refine g_xld C hX hbl hbA (by unfold vp_in; decide) dL_law_666 ?_
  refine g_ti (xs 4) rfl ?_
  refine g_callVi C (n := 4) (As := [.int ((xs 1)), .int ((xs 2)), .int ((xs 3)), .int ((xs 4))]) (st := []) (p_X10_method l D ad cs _ _ ((xs 1)) ((xs 2)) ((xs 3)) ((xs 4)) (fun _ _ _ => rfl)) gl_X10_method rfl rfl rfl (by decide +kernel) ⟨Nat.le_of_ble_eq_true rfl, Nat.le_of_ble_eq_true rfl⟩ rfl (Nat.le_of_ble_eq_true rfl) ⟨Nat.le_of_ble_eq_true rfl, Nat.le_of_ble_eq_true rfl⟩ (by decide) (ce_house ad cs _ _) rfl rfl dL_law_667 (fun r1 M2 L3 hr1 => ?_)
  refine g_aload_n C 1 dL_law_670 rfl ?_
  refine g_aload_n C 3 dL_law_671 rfl ?_
  refine g_iload_n C 0 dL_law_672 rfl ?_
  refine g_iconst C 1 dL_law_673 (by decide) ?_
  refine g_iadd C dL_law_674 ?_
  refine g_ti 1 (by decide) ?_
  refine g_xld C hX hbl hbA (by unfold vp_in; decide) dL_law_675 ?_
  refine g_ti (xs 1) rfl ?_
  refine g_aload_n C 3 dL_law_676 rfl ?_
  refine g_iload_n C 0 dL_law_677 rfl ?_
  refine g_iconst C 2 dL_law_678 (by decide) ?_
  refine g_iadd C dL_law_679 ?_
  refine g_ti 2 (by decide) ?_
  refine g_xld C hX hbl hbA (by unfold vp_in; decide) dL_law_680 ?_
  refine g_ti (xs 2) rfl ?_
  refine g_aload_n C 3 dL_law_681 rfl ?_
  refine g_iload_n C 0 dL_law_682 rfl ?_
  refine g_iconst C 3 dL_law_683 (by decide) ?_
  refine g_iadd C dL_law_684 ?_
  refine g_ti 3 (by decide) ?_
  refine g_xld C hX hbl hbA (by unfold vp_in; decide) dL_law_685 ?_
  refine g_ti (xs 3) rfl ?_
  refine g_aload_n C 3 dL_law_686 rfl ?_
  refine g_iload_n C 0 dL_law_687 rfl ?_
  refine g_iconst C 4 dL_law_688 (by decide) ?_
  refine g_iadd C dL_law_689 ?_
  refine g_ti 4 (by decide) ?_
  refine g_xld C hX hbl hbA (by unfold vp_in; decide) dL_law_690 ?_
  refine g_ti (xs 4) rfl ?_
  refine g_callVi C (n := 4) (As := [.int ((xs 1)), .int ((xs 2)), .int ((xs 3)), .int ((xs 4))]) (st := [.int r1]) (p_X11_method l D ad cs _ _ ((xs 1)) ((xs 2)) ((xs 3)) ((xs 4)) (fun k9 h1 _ => hr1.2 k9 h1)) gl_X11_method rfl rfl rfl (by decide +kernel) ⟨Nat.le_of_ble_eq_true rfl, Nat.le_of_ble_eq_true rfl⟩ rfl (Nat.le_of_ble_eq_true rfl) ⟨Nat.le_of_ble_eq_true rfl, Nat.le_of_ble_eq_true rfl⟩ (by decide) (ce_model ad cs _ _) rfl rfl dL_law_691 (fun r4 M5 L6 hr4 => ?_)
  refine g_icmp_eq C 1069 dL_law_694 (by decide) (fun c7 => ?_) (fun c7 => ?_)
  ·
    exact law_end C hr hX hbl hbA hnew _ _
  ·
    refine g_iconst C 0 dL_law_697 (by decide) ?_
    exact absurd (hr1.1.trans hr4.symm) c7
set_option maxHeartbeats 2000000 in
set_option maxRecDepth 100000 in
theorem law_c15 {p : Program} {l : Launch} {e : Env} {s : State} {m : MethodId} {below : List Frame} {meth : Method} {c : Code} {D : va_G} {ad : Nat → Nat} {cs : Nat → ClassId} {b : Nat} {xs : Nat → Int32} (C : Cx p s m #[Value.ref b] meth c code 4 lw_tbl RL D ad cs) (hr : meth.sig.returnType = ret) (hX : va_X b 6 xs s s.heap) (hbl : b < s.heap.size) (hbA : ¬ Ar ad b) (hnew : ∀ k, k < 297 → s.heap.size ≤ ad k) : G p l e room_1 s m #[Value.ref b] below meth c 297 6915 (lw_Z below #[Value.ref b] s) D ad cs 4 M0 L0 699 [(3, .int 0), (2, .ref (ad 258)), (1, .ref (ad 0)), (0, .ref b)] [] := by
  refine g_aload_n C 2 dL_law_699 rfl ?_
  refine g_aload_n C 3 dL_law_700 rfl ?_
  refine g_iload_n C 0 dL_law_701 rfl ?_
  refine g_iconst C 1 dL_law_702 (by decide) ?_
  refine g_iadd C dL_law_703 ?_
  refine g_ti 1 (by decide) ?_
  refine g_xld C hX hbl hbA (by unfold vp_in; decide) dL_law_704 ?_
  refine g_ti (xs 1) rfl ?_
  refine g_aload_n C 3 dL_law_705 rfl ?_
  refine g_iload_n C 0 dL_law_706 rfl ?_
  refine g_iconst C 2 dL_law_707 (by decide) ?_
  refine g_iadd C dL_law_708 ?_
  refine g_ti 2 (by decide) ?_
  refine g_xld C hX hbl hbA (by unfold vp_in; decide) dL_law_709 ?_
  refine g_ti (xs 2) rfl ?_
  refine g_callVi C (n := 2) (As := [.int ((xs 1)), .int ((xs 2))]) (st := []) (p_X10_methodOf l D ad cs _ _ ((xs 1)) ((xs 2)) (fun _ _ _ => rfl)) gl_X10_methodOf rfl rfl rfl (by decide +kernel) ⟨Nat.le_of_ble_eq_true rfl, Nat.le_of_ble_eq_true rfl⟩ rfl (Nat.le_of_ble_eq_true rfl) ⟨Nat.le_of_ble_eq_true rfl, Nat.le_of_ble_eq_true rfl⟩ (by decide) (ce_house ad cs _ _) rfl rfl dL_law_710 (fun r1 M2 L3 hr1 => ?_)
  refine g_aload_n C 1 dL_law_713 rfl ?_
  refine g_aload_n C 3 dL_law_714 rfl ?_
  refine g_iload_n C 0 dL_law_715 rfl ?_
  refine g_iconst C 1 dL_law_716 (by decide) ?_
  refine g_iadd C dL_law_717 ?_
  refine g_ti 1 (by decide) ?_
  refine g_xld C hX hbl hbA (by unfold vp_in; decide) dL_law_718 ?_
  refine g_ti (xs 1) rfl ?_
  refine g_aload_n C 3 dL_law_719 rfl ?_
  refine g_iload_n C 0 dL_law_720 rfl ?_
  refine g_iconst C 2 dL_law_721 (by decide) ?_
  refine g_iadd C dL_law_722 ?_
  refine g_ti 2 (by decide) ?_
  refine g_xld C hX hbl hbA (by unfold vp_in; decide) dL_law_723 ?_
  refine g_ti (xs 2) rfl ?_
  refine g_callVi C (n := 2) (As := [.int ((xs 1)), .int ((xs 2))]) (st := [.int r1]) (p_X11_methodOf l D ad cs _ _ ((xs 1)) ((xs 2)) (fun k9 h1 _ => hr1.2 k9 h1)) gl_X11_methodOf rfl rfl rfl (by decide +kernel) ⟨Nat.le_of_ble_eq_true rfl, Nat.le_of_ble_eq_true rfl⟩ rfl (Nat.le_of_ble_eq_true rfl) ⟨Nat.le_of_ble_eq_true rfl, Nat.le_of_ble_eq_true rfl⟩ (by decide) (ce_model ad cs _ _) rfl rfl dL_law_724 (fun r4 M5 L6 hr4 => ?_)
  refine g_icmp_eq C 1069 dL_law_727 (by decide) (fun c7 => ?_) (fun c7 => ?_)
  ·
    exact law_end C hr hX hbl hbA hnew _ _
  ·
    refine g_iconst C 0 dL_law_730 (by decide) ?_
    exact absurd (hr1.1.trans hr4.symm) c7
set_option maxHeartbeats 2000000 in
set_option maxRecDepth 100000 in
theorem law_c16 {p : Program} {l : Launch} {e : Env} {s : State} {m : MethodId} {below : List Frame} {meth : Method} {c : Code} {D : va_G} {ad : Nat → Nat} {cs : Nat → ClassId} {b : Nat} {xs : Nat → Int32} (C : Cx p s m #[Value.ref b] meth c code 4 lw_tbl RL D ad cs) (hr : meth.sig.returnType = ret) (hX : va_X b 6 xs s s.heap) (hbl : b < s.heap.size) (hbA : ¬ Ar ad b) (hnew : ∀ k, k < 297 → s.heap.size ≤ ad k) : G p l e room_1 s m #[Value.ref b] below meth c 297 6915 (lw_Z below #[Value.ref b] s) D ad cs 4 M0 L0 732 [(3, .int 0), (2, .ref (ad 258)), (1, .ref (ad 0)), (0, .ref b)] [] := by
  refine g_aload_n C 2 dL_law_732 rfl ?_
  refine g_aload_n C 3 dL_law_733 rfl ?_
  refine g_iload_n C 0 dL_law_734 rfl ?_
  refine g_iconst C 1 dL_law_735 (by decide) ?_
  refine g_iadd C dL_law_736 ?_
  refine g_ti 1 (by decide) ?_
  refine g_xld C hX hbl hbA (by unfold vp_in; decide) dL_law_737 ?_
  refine g_ti (xs 1) rfl ?_
  refine g_aload_n C 3 dL_law_738 rfl ?_
  refine g_iload_n C 0 dL_law_739 rfl ?_
  refine g_iconst C 2 dL_law_740 (by decide) ?_
  refine g_iadd C dL_law_741 ?_
  refine g_ti 2 (by decide) ?_
  refine g_xld C hX hbl hbA (by unfold vp_in; decide) dL_law_742 ?_
  refine g_ti (xs 2) rfl ?_
  refine g_callVi C (n := 2) (As := [.int ((xs 1)), .int ((xs 2))]) (st := []) (p_X10_under l D ad cs _ _ ((xs 1)) ((xs 2)) (fun _ _ _ => rfl)) gl_X10_under rfl rfl rfl (by decide +kernel) ⟨Nat.le_of_ble_eq_true rfl, Nat.le_of_ble_eq_true rfl⟩ rfl (Nat.le_of_ble_eq_true rfl) ⟨Nat.le_of_ble_eq_true rfl, Nat.le_of_ble_eq_true rfl⟩ (by decide) (ce_house ad cs _ _) rfl rfl dL_law_743 (fun r1 M2 L3 hr1 => ?_)
  refine g_aload_n C 1 dL_law_746 rfl ?_
  refine g_aload_n C 3 dL_law_747 rfl ?_
  refine g_iload_n C 0 dL_law_748 rfl ?_
  refine g_iconst C 1 dL_law_749 (by decide) ?_
  refine g_iadd C dL_law_750 ?_
  refine g_ti 1 (by decide) ?_
  refine g_xld C hX hbl hbA (by unfold vp_in; decide) dL_law_751 ?_
  refine g_ti (xs 1) rfl ?_
  refine g_aload_n C 3 dL_law_752 rfl ?_
  refine g_iload_n C 0 dL_law_753 rfl ?_
  refine g_iconst C 2 dL_law_754 (by decide) ?_
  refine g_iadd C dL_law_755 ?_
  refine g_ti 2 (by decide) ?_
  refine g_xld C hX hbl hbA (by unfold vp_in; decide) dL_law_756 ?_
  refine g_ti (xs 2) rfl ?_
  refine g_callVi C (n := 2) (As := [.int ((xs 1)), .int ((xs 2))]) (st := [.int r1]) (p_X11_under l D ad cs _ _ ((xs 1)) ((xs 2)) (fun k9 h1 _ => hr1.2 k9 h1)) gl_X11_under rfl rfl rfl (by decide +kernel) ⟨Nat.le_of_ble_eq_true rfl, Nat.le_of_ble_eq_true rfl⟩ rfl (Nat.le_of_ble_eq_true rfl) ⟨Nat.le_of_ble_eq_true rfl, Nat.le_of_ble_eq_true rfl⟩ (by decide) (ce_model ad cs _ _) rfl rfl dL_law_757 (fun r4 M5 L6 hr4 => ?_)
  refine g_icmp_eq C 1069 dL_law_760 (by decide) (fun c7 => ?_) (fun c7 => ?_)
  ·
    exact law_end C hr hX hbl hbA hnew _ _
  ·
    refine g_iconst C 0 dL_law_763 (by decide) ?_
    exact absurd (hr1.1.trans hr4.symm) c7
set_option maxHeartbeats 2000000 in
set_option maxRecDepth 100000 in
theorem law_c17 {p : Program} {l : Launch} {e : Env} {s : State} {m : MethodId} {below : List Frame} {meth : Method} {c : Code} {D : va_G} {ad : Nat → Nat} {cs : Nat → ClassId} {b : Nat} {xs : Nat → Int32} (C : Cx p s m #[Value.ref b] meth c code 4 lw_tbl RL D ad cs) (hr : meth.sig.returnType = ret) (hX : va_X b 6 xs s s.heap) (hbl : b < s.heap.size) (hbA : ¬ Ar ad b) (hnew : ∀ k, k < 297 → s.heap.size ≤ ad k) : G p l e room_1 s m #[Value.ref b] below meth c 297 6915 (lw_Z below #[Value.ref b] s) D ad cs 4 M0 L0 765 [(3, .int 0), (2, .ref (ad 258)), (1, .ref (ad 0)), (0, .ref b)] [] := by
  refine g_aload_n C 2 dL_law_765 rfl ?_
  refine g_aload_n C 3 dL_law_766 rfl ?_
  refine g_iload_n C 0 dL_law_767 rfl ?_
  refine g_iconst C 1 dL_law_768 (by decide) ?_
  refine g_iadd C dL_law_769 ?_
  refine g_ti 1 (by decide) ?_
  refine g_xld C hX hbl hbA (by unfold vp_in; decide) dL_law_770 ?_
  refine g_ti (xs 1) rfl ?_
  refine g_callVi C (n := 1) (As := [.int ((xs 1))]) (st := []) (p_X10_start l D ad cs _ _ ((xs 1)) (fun _ _ _ => rfl)) gl_X10_start rfl rfl rfl (by decide +kernel) ⟨Nat.le_of_ble_eq_true rfl, Nat.le_of_ble_eq_true rfl⟩ rfl (Nat.le_of_ble_eq_true rfl) ⟨Nat.le_of_ble_eq_true rfl, Nat.le_of_ble_eq_true rfl⟩ (by decide) (ce_house ad cs _ _) rfl rfl dL_law_771 (fun r1 M2 L3 hr1 => ?_)
  refine g_aload_n C 1 dL_law_774 rfl ?_
  refine g_aload_n C 3 dL_law_775 rfl ?_
  refine g_iload_n C 0 dL_law_776 rfl ?_
  refine g_iconst C 1 dL_law_777 (by decide) ?_
  refine g_iadd C dL_law_778 ?_
  refine g_ti 1 (by decide) ?_
  refine g_xld C hX hbl hbA (by unfold vp_in; decide) dL_law_779 ?_
  refine g_ti (xs 1) rfl ?_
  refine g_callVi C (n := 1) (As := [.int ((xs 1))]) (st := [.int r1]) (p_X11_start l D ad cs _ _ ((xs 1)) (fun k9 h1 _ => hr1.2 k9 h1)) gl_X11_start rfl rfl rfl (by decide +kernel) ⟨Nat.le_of_ble_eq_true rfl, Nat.le_of_ble_eq_true rfl⟩ rfl (Nat.le_of_ble_eq_true rfl) ⟨Nat.le_of_ble_eq_true rfl, Nat.le_of_ble_eq_true rfl⟩ (by decide) (ce_model ad cs _ _) rfl rfl dL_law_780 (fun r4 M5 L6 hr4 => ?_)
  refine g_icmp_eq C 1069 dL_law_783 (by decide) (fun c7 => ?_) (fun c7 => ?_)
  ·
    exact law_end C hr hX hbl hbA hnew _ _
  ·
    refine g_iconst C 0 dL_law_786 (by decide) ?_
    exact absurd (hr1.1.trans hr4.symm) c7
set_option maxHeartbeats 2000000 in
set_option maxRecDepth 100000 in
theorem law_c18 {p : Program} {l : Launch} {e : Env} {s : State} {m : MethodId} {below : List Frame} {meth : Method} {c : Code} {D : va_G} {ad : Nat → Nat} {cs : Nat → ClassId} {b : Nat} {xs : Nat → Int32} (C : Cx p s m #[Value.ref b] meth c code 4 lw_tbl RL D ad cs) (hr : meth.sig.returnType = ret) (hX : va_X b 6 xs s s.heap) (hbl : b < s.heap.size) (hbA : ¬ Ar ad b) (hnew : ∀ k, k < 297 → s.heap.size ≤ ad k) : G p l e room_1 s m #[Value.ref b] below meth c 297 6915 (lw_Z below #[Value.ref b] s) D ad cs 4 M0 L0 788 [(3, .int 0), (2, .ref (ad 258)), (1, .ref (ad 0)), (0, .ref b)] [] := by
  refine g_aload_n C 2 dL_law_788 rfl ?_
  refine g_aload_n C 3 dL_law_789 rfl ?_
  refine g_iload_n C 0 dL_law_790 rfl ?_
  refine g_iconst C 1 dL_law_791 (by decide) ?_
  refine g_iadd C dL_law_792 ?_
  refine g_ti 1 (by decide) ?_
  refine g_xld C hX hbl hbA (by unfold vp_in; decide) dL_law_793 ?_
  refine g_ti (xs 1) rfl ?_
  refine g_callVi C (n := 1) (As := [.int ((xs 1))]) (st := []) (p_X10_find l D ad cs _ _ ((xs 1)) (fun _ _ _ => rfl)) gl_X10_find rfl rfl rfl (by decide +kernel) ⟨Nat.le_of_ble_eq_true rfl, Nat.le_of_ble_eq_true rfl⟩ rfl (Nat.le_of_ble_eq_true rfl) ⟨Nat.le_of_ble_eq_true rfl, Nat.le_of_ble_eq_true rfl⟩ (by decide) (ce_house ad cs _ _) rfl rfl dL_law_794 (fun r1 M2 L3 hr1 => ?_)
  refine g_aload_n C 1 dL_law_797 rfl ?_
  refine g_aload_n C 3 dL_law_798 rfl ?_
  refine g_iload_n C 0 dL_law_799 rfl ?_
  refine g_iconst C 1 dL_law_800 (by decide) ?_
  refine g_iadd C dL_law_801 ?_
  refine g_ti 1 (by decide) ?_
  refine g_xld C hX hbl hbA (by unfold vp_in; decide) dL_law_802 ?_
  refine g_ti (xs 1) rfl ?_
  refine g_callVi C (n := 1) (As := [.int ((xs 1))]) (st := [.int r1]) (p_X11_find l D ad cs _ _ ((xs 1)) (fun k9 h1 _ => hr1.2 k9 h1)) gl_X11_find rfl rfl rfl (by decide +kernel) ⟨Nat.le_of_ble_eq_true rfl, Nat.le_of_ble_eq_true rfl⟩ rfl (Nat.le_of_ble_eq_true rfl) ⟨Nat.le_of_ble_eq_true rfl, Nat.le_of_ble_eq_true rfl⟩ (by decide) (ce_model ad cs _ _) rfl rfl dL_law_803 (fun r4 M5 L6 hr4 => ?_)
  refine g_icmp_eq C 1069 dL_law_806 (by decide) (fun c7 => ?_) (fun c7 => ?_)
  ·
    exact law_end C hr hX hbl hbA hnew _ _
  ·
    refine g_iconst C 0 dL_law_809 (by decide) ?_
    exact absurd (hr1.1.trans hr4.symm) c7
set_option maxHeartbeats 2000000 in
set_option maxRecDepth 100000 in
theorem law_c19 {p : Program} {l : Launch} {e : Env} {s : State} {m : MethodId} {below : List Frame} {meth : Method} {c : Code} {D : va_G} {ad : Nat → Nat} {cs : Nat → ClassId} {b : Nat} {xs : Nat → Int32} (C : Cx p s m #[Value.ref b] meth c code 4 lw_tbl RL D ad cs) (hr : meth.sig.returnType = ret) (hX : va_X b 6 xs s s.heap) (hbl : b < s.heap.size) (hbA : ¬ Ar ad b) (hnew : ∀ k, k < 297 → s.heap.size ≤ ad k) : G p l e room_1 s m #[Value.ref b] below meth c 297 6915 (lw_Z below #[Value.ref b] s) D ad cs 4 M0 L0 811 [(3, .int 0), (2, .ref (ad 258)), (1, .ref (ad 0)), (0, .ref b)] [] := by
  refine g_aload_n C 2 dL_law_811 rfl ?_
  refine g_aload_n C 3 dL_law_812 rfl ?_
  refine g_iload_n C 0 dL_law_813 rfl ?_
  refine g_iconst C 1 dL_law_814 (by decide) ?_
  refine g_iadd C dL_law_815 ?_
  refine g_ti 1 (by decide) ?_
  refine g_xld C hX hbl hbA (by unfold vp_in; decide) dL_law_816 ?_
  refine g_ti (xs 1) rfl ?_
  refine g_aload_n C 3 dL_law_817 rfl ?_
  refine g_iload_n C 0 dL_law_818 rfl ?_
  refine g_iconst C 2 dL_law_819 (by decide) ?_
  refine g_iadd C dL_law_820 ?_
  refine g_ti 2 (by decide) ?_
  refine g_xld C hX hbl hbA (by unfold vp_in; decide) dL_law_821 ?_
  refine g_ti (xs 2) rfl ?_
  refine g_aload_n C 3 dL_law_822 rfl ?_
  refine g_iload_n C 0 dL_law_823 rfl ?_
  refine g_iconst C 3 dL_law_824 (by decide) ?_
  refine g_iadd C dL_law_825 ?_
  refine g_ti 3 (by decide) ?_
  refine g_xld C hX hbl hbA (by unfold vp_in; decide) dL_law_826 ?_
  refine g_ti (xs 3) rfl ?_
  refine g_callVi C (n := 3) (As := [.int ((xs 1)), .int ((xs 2)), .int ((xs 3))]) (st := []) (p_X10_count l D ad cs _ _ ((xs 1)) ((xs 2)) ((xs 3)) (fun _ _ _ => rfl)) gl_X10_count rfl rfl rfl (by decide +kernel) ⟨Nat.le_of_ble_eq_true rfl, Nat.le_of_ble_eq_true rfl⟩ rfl (Nat.le_of_ble_eq_true rfl) ⟨Nat.le_of_ble_eq_true rfl, Nat.le_of_ble_eq_true rfl⟩ (by decide) (ce_house ad cs _ _) rfl rfl dL_law_827 (fun r1 M2 L3 hr1 => ?_)
  refine g_aload_n C 1 dL_law_830 rfl ?_
  refine g_aload_n C 3 dL_law_831 rfl ?_
  refine g_iload_n C 0 dL_law_832 rfl ?_
  refine g_iconst C 1 dL_law_833 (by decide) ?_
  refine g_iadd C dL_law_834 ?_
  refine g_ti 1 (by decide) ?_
  refine g_xld C hX hbl hbA (by unfold vp_in; decide) dL_law_835 ?_
  refine g_ti (xs 1) rfl ?_
  refine g_aload_n C 3 dL_law_836 rfl ?_
  refine g_iload_n C 0 dL_law_837 rfl ?_
  refine g_iconst C 2 dL_law_838 (by decide) ?_
  refine g_iadd C dL_law_839 ?_
  refine g_ti 2 (by decide) ?_
  refine g_xld C hX hbl hbA (by unfold vp_in; decide) dL_law_840 ?_
  refine g_ti (xs 2) rfl ?_
  refine g_aload_n C 3 dL_law_841 rfl ?_
  refine g_iload_n C 0 dL_law_842 rfl ?_
  refine g_iconst C 3 dL_law_843 (by decide) ?_
  refine g_iadd C dL_law_844 ?_
  refine g_ti 3 (by decide) ?_
  refine g_xld C hX hbl hbA (by unfold vp_in; decide) dL_law_845 ?_
  refine g_ti (xs 3) rfl ?_
  refine g_callVi C (n := 3) (As := [.int ((xs 1)), .int ((xs 2)), .int ((xs 3))]) (st := [.int r1]) (p_X11_count l D ad cs _ _ ((xs 1)) ((xs 2)) ((xs 3)) (fun k9 h1 _ => hr1.2 k9 h1)) gl_X11_count rfl rfl rfl (by decide +kernel) ⟨Nat.le_of_ble_eq_true rfl, Nat.le_of_ble_eq_true rfl⟩ rfl (Nat.le_of_ble_eq_true rfl) ⟨Nat.le_of_ble_eq_true rfl, Nat.le_of_ble_eq_true rfl⟩ (by decide) (ce_model ad cs _ _) rfl rfl dL_law_846 (fun r4 M5 L6 hr4 => ?_)
  refine g_icmp_eq C 1069 dL_law_849 (by decide) (fun c7 => ?_) (fun c7 => ?_)
  ·
    exact law_end C hr hX hbl hbA hnew _ _
  ·
    refine g_iconst C 0 dL_law_852 (by decide) ?_
    exact absurd (hr1.1.trans hr4.symm) c7
set_option maxHeartbeats 2000000 in
set_option maxRecDepth 100000 in
theorem law_c20 {p : Program} {l : Launch} {e : Env} {s : State} {m : MethodId} {below : List Frame} {meth : Method} {c : Code} {D : va_G} {ad : Nat → Nat} {cs : Nat → ClassId} {b : Nat} {xs : Nat → Int32} (C : Cx p s m #[Value.ref b] meth c code 4 lw_tbl RL D ad cs) (hr : meth.sig.returnType = ret) (hX : va_X b 6 xs s s.heap) (hbl : b < s.heap.size) (hbA : ¬ Ar ad b) (hnew : ∀ k, k < 297 → s.heap.size ≤ ad k) : G p l e room_1 s m #[Value.ref b] below meth c 297 6915 (lw_Z below #[Value.ref b] s) D ad cs 4 M0 L0 854 [(3, .int 0), (2, .ref (ad 258)), (1, .ref (ad 0)), (0, .ref b)] [] := by
  refine g_aload_n C 2 dL_law_854 rfl ?_
  refine g_callVi C (n := 0) (As := []) (st := []) (p_X10_where l D ad cs _ _  (fun _ _ _ => rfl)) gl_X10_where rfl rfl rfl (by decide +kernel) ⟨Nat.le_of_ble_eq_true rfl, Nat.le_of_ble_eq_true rfl⟩ rfl (Nat.le_of_ble_eq_true rfl) ⟨Nat.le_of_ble_eq_true rfl, Nat.le_of_ble_eq_true rfl⟩ (by decide) (ce_house ad cs _ _) rfl rfl dL_law_855 (fun r1 M2 L3 hr1 => ?_)
  refine g_aload_n C 1 dL_law_858 rfl ?_
  refine g_callVi C (n := 0) (As := []) (st := [.int r1]) (p_X11_where l D ad cs _ _  (fun k9 h1 _ => hr1.2 k9 h1)) gl_X11_where rfl rfl rfl (by decide +kernel) ⟨Nat.le_of_ble_eq_true rfl, Nat.le_of_ble_eq_true rfl⟩ rfl (Nat.le_of_ble_eq_true rfl) ⟨Nat.le_of_ble_eq_true rfl, Nat.le_of_ble_eq_true rfl⟩ (by decide) (ce_model ad cs _ _) rfl rfl dL_law_859 (fun r4 M5 L6 hr4 => ?_)
  refine g_icmp_eq C 1069 dL_law_862 (by decide) (fun c7 => ?_) (fun c7 => ?_)
  ·
    exact law_end C hr hX hbl hbA hnew _ _
  ·
    refine g_iconst C 0 dL_law_865 (by decide) ?_
    exact absurd (hr1.1.trans hr4.symm) c7
set_option maxHeartbeats 2000000 in
set_option maxRecDepth 100000 in
theorem law_c21 {p : Program} {l : Launch} {e : Env} {s : State} {m : MethodId} {below : List Frame} {meth : Method} {c : Code} {D : va_G} {ad : Nat → Nat} {cs : Nat → ClassId} {b : Nat} {xs : Nat → Int32} (C : Cx p s m #[Value.ref b] meth c code 4 lw_tbl RL D ad cs) (hr : meth.sig.returnType = ret) (hX : va_X b 6 xs s s.heap) (hbl : b < s.heap.size) (hbA : ¬ Ar ad b) (hnew : ∀ k, k < 297 → s.heap.size ≤ ad k) : G p l e room_1 s m #[Value.ref b] below meth c 297 6915 (lw_Z below #[Value.ref b] s) D ad cs 4 M0 L0 867 [(3, .int 0), (2, .ref (ad 258)), (1, .ref (ad 0)), (0, .ref b)] [] := by
  refine g_aload_n C 2 dL_law_867 rfl ?_
  refine g_aload_n C 3 dL_law_868 rfl ?_
  refine g_iload_n C 0 dL_law_869 rfl ?_
  refine g_iconst C 1 dL_law_870 (by decide) ?_
  refine g_iadd C dL_law_871 ?_
  refine g_ti 1 (by decide) ?_
  refine g_xld C hX hbl hbA (by unfold vp_in; decide) dL_law_872 ?_
  refine g_ti (xs 1) rfl ?_
  refine g_callVi C (n := 1) (As := [.int ((xs 1))]) (st := []) (p_X10_seat l D ad cs _ _ ((xs 1)) (fun _ _ _ => rfl)) gl_X10_seat rfl rfl rfl (by decide +kernel) ⟨Nat.le_of_ble_eq_true rfl, Nat.le_of_ble_eq_true rfl⟩ rfl (Nat.le_of_ble_eq_true rfl) ⟨Nat.le_of_ble_eq_true rfl, Nat.le_of_ble_eq_true rfl⟩ (by decide) (ce_house ad cs _ _) rfl rfl dL_law_873 (fun r1 M2 L3 hr1 => ?_)
  refine g_aload_n C 1 dL_law_876 rfl ?_
  refine g_aload_n C 3 dL_law_877 rfl ?_
  refine g_iload_n C 0 dL_law_878 rfl ?_
  refine g_iconst C 1 dL_law_879 (by decide) ?_
  refine g_iadd C dL_law_880 ?_
  refine g_ti 1 (by decide) ?_
  refine g_xld C hX hbl hbA (by unfold vp_in; decide) dL_law_881 ?_
  refine g_ti (xs 1) rfl ?_
  refine g_callVi C (n := 1) (As := [.int ((xs 1))]) (st := [.int r1]) (p_X11_seat l D ad cs _ _ ((xs 1)) (fun k9 h1 _ => hr1.2 k9 h1)) gl_X11_seat rfl rfl rfl (by decide +kernel) ⟨Nat.le_of_ble_eq_true rfl, Nat.le_of_ble_eq_true rfl⟩ rfl (Nat.le_of_ble_eq_true rfl) ⟨Nat.le_of_ble_eq_true rfl, Nat.le_of_ble_eq_true rfl⟩ (by decide) (ce_model ad cs _ _) rfl rfl dL_law_882 (fun r4 M5 L6 hr4 => ?_)
  refine g_icmp_eq C 1069 dL_law_885 (by decide) (fun c7 => ?_) (fun c7 => ?_)
  ·
    exact law_end C hr hX hbl hbA hnew _ _
  ·
    refine g_iconst C 0 dL_law_888 (by decide) ?_
    exact absurd (hr1.1.trans hr4.symm) c7
set_option maxHeartbeats 2000000 in
set_option maxRecDepth 100000 in
theorem law_c22 {p : Program} {l : Launch} {e : Env} {s : State} {m : MethodId} {below : List Frame} {meth : Method} {c : Code} {D : va_G} {ad : Nat → Nat} {cs : Nat → ClassId} {b : Nat} {xs : Nat → Int32} (C : Cx p s m #[Value.ref b] meth c code 4 lw_tbl RL D ad cs) (hr : meth.sig.returnType = ret) (hX : va_X b 6 xs s s.heap) (hbl : b < s.heap.size) (hbA : ¬ Ar ad b) (hnew : ∀ k, k < 297 → s.heap.size ≤ ad k) : G p l e room_1 s m #[Value.ref b] below meth c 297 6915 (lw_Z below #[Value.ref b] s) D ad cs 4 M0 L0 890 [(3, .int 0), (2, .ref (ad 258)), (1, .ref (ad 0)), (0, .ref b)] [] := by
  refine g_aload_n C 2 dL_law_890 rfl ?_
  refine g_callVi C (n := 0) (As := []) (st := []) (p_X10_rounds l D ad cs _ _  (fun _ _ _ => rfl)) gl_X10_rounds rfl rfl rfl (by decide +kernel) ⟨Nat.le_of_ble_eq_true rfl, Nat.le_of_ble_eq_true rfl⟩ rfl (Nat.le_of_ble_eq_true rfl) ⟨Nat.le_of_ble_eq_true rfl, Nat.le_of_ble_eq_true rfl⟩ (by decide) (ce_house ad cs _ _) rfl rfl dL_law_891 (fun r1 M2 L3 hr1 => ?_)
  refine g_aload_n C 1 dL_law_894 rfl ?_
  refine g_callVi C (n := 0) (As := []) (st := [.int r1]) (p_X11_rounds l D ad cs _ _  (fun k9 h1 _ => hr1.2 k9 h1)) gl_X11_rounds rfl rfl rfl (by decide +kernel) ⟨Nat.le_of_ble_eq_true rfl, Nat.le_of_ble_eq_true rfl⟩ rfl (Nat.le_of_ble_eq_true rfl) ⟨Nat.le_of_ble_eq_true rfl, Nat.le_of_ble_eq_true rfl⟩ (by decide) (ce_model ad cs _ _) rfl rfl dL_law_895 (fun r4 M5 L6 hr4 => ?_)
  refine g_icmp_eq C 1069 dL_law_898 (by decide) (fun c7 => ?_) (fun c7 => ?_)
  ·
    exact law_end C hr hX hbl hbA hnew _ _
  ·
    refine g_iconst C 0 dL_law_901 (by decide) ?_
    exact absurd (hr1.1.trans hr4.symm) c7
set_option maxHeartbeats 2000000 in
set_option maxRecDepth 100000 in
theorem law_c23 {p : Program} {l : Launch} {e : Env} {s : State} {m : MethodId} {below : List Frame} {meth : Method} {c : Code} {D : va_G} {ad : Nat → Nat} {cs : Nat → ClassId} {b : Nat} {xs : Nat → Int32} (C : Cx p s m #[Value.ref b] meth c code 4 lw_tbl RL D ad cs) (hr : meth.sig.returnType = ret) (hX : va_X b 6 xs s s.heap) (hbl : b < s.heap.size) (hbA : ¬ Ar ad b) (hnew : ∀ k, k < 297 → s.heap.size ≤ ad k) : G p l e room_1 s m #[Value.ref b] below meth c 297 6915 (lw_Z below #[Value.ref b] s) D ad cs 4 M0 L0 903 [(3, .int 0), (2, .ref (ad 258)), (1, .ref (ad 0)), (0, .ref b)] [] := by
  refine g_aload_n C 2 dL_law_903 rfl ?_
  refine g_aload_n C 3 dL_law_904 rfl ?_
  refine g_iload_n C 0 dL_law_905 rfl ?_
  refine g_iconst C 1 dL_law_906 (by decide) ?_
  refine g_iadd C dL_law_907 ?_
  refine g_ti 1 (by decide) ?_
  refine g_xld C hX hbl hbA (by unfold vp_in; decide) dL_law_908 ?_
  refine g_ti (xs 1) rfl ?_
  refine g_aload_n C 3 dL_law_909 rfl ?_
  refine g_iload_n C 0 dL_law_910 rfl ?_
  refine g_iconst C 2 dL_law_911 (by decide) ?_
  refine g_iadd C dL_law_912 ?_
  refine g_ti 2 (by decide) ?_
  refine g_xld C hX hbl hbA (by unfold vp_in; decide) dL_law_913 ?_
  refine g_ti (xs 2) rfl ?_
  refine g_callVi C (n := 2) (As := [.int ((xs 1)), .int ((xs 2))]) (st := []) (p_X10_round l D ad cs _ _ ((xs 1)) ((xs 2)) (fun _ _ _ => rfl)) gl_X10_round rfl rfl rfl (by decide +kernel) ⟨Nat.le_of_ble_eq_true rfl, Nat.le_of_ble_eq_true rfl⟩ rfl (Nat.le_of_ble_eq_true rfl) ⟨Nat.le_of_ble_eq_true rfl, Nat.le_of_ble_eq_true rfl⟩ (by decide) (ce_house ad cs _ _) rfl rfl dL_law_914 (fun r1 M2 L3 hr1 => ?_)
  refine g_aload_n C 1 dL_law_917 rfl ?_
  refine g_aload_n C 3 dL_law_918 rfl ?_
  refine g_iload_n C 0 dL_law_919 rfl ?_
  refine g_iconst C 1 dL_law_920 (by decide) ?_
  refine g_iadd C dL_law_921 ?_
  refine g_ti 1 (by decide) ?_
  refine g_xld C hX hbl hbA (by unfold vp_in; decide) dL_law_922 ?_
  refine g_ti (xs 1) rfl ?_
  refine g_aload_n C 3 dL_law_923 rfl ?_
  refine g_iload_n C 0 dL_law_924 rfl ?_
  refine g_iconst C 2 dL_law_925 (by decide) ?_
  refine g_iadd C dL_law_926 ?_
  refine g_ti 2 (by decide) ?_
  refine g_xld C hX hbl hbA (by unfold vp_in; decide) dL_law_927 ?_
  refine g_ti (xs 2) rfl ?_
  refine g_callVi C (n := 2) (As := [.int ((xs 1)), .int ((xs 2))]) (st := [.int r1]) (p_X11_round l D ad cs _ _ ((xs 1)) ((xs 2)) (fun k9 h1 _ => hr1.2 k9 h1)) gl_X11_round rfl rfl rfl (by decide +kernel) ⟨Nat.le_of_ble_eq_true rfl, Nat.le_of_ble_eq_true rfl⟩ rfl (Nat.le_of_ble_eq_true rfl) ⟨Nat.le_of_ble_eq_true rfl, Nat.le_of_ble_eq_true rfl⟩ (by decide) (ce_model ad cs _ _) rfl rfl dL_law_928 (fun r4 M5 L6 hr4 => ?_)
  refine g_icmp_eq C 1069 dL_law_931 (by decide) (fun c7 => ?_) (fun c7 => ?_)
  ·
    exact law_end C hr hX hbl hbA hnew _ _
  ·
    refine g_iconst C 0 dL_law_934 (by decide) ?_
    exact absurd (hr1.1.trans hr4.symm) c7
set_option maxHeartbeats 2000000 in
set_option maxRecDepth 100000 in
theorem law_c24 {p : Program} {l : Launch} {e : Env} {s : State} {m : MethodId} {below : List Frame} {meth : Method} {c : Code} {D : va_G} {ad : Nat → Nat} {cs : Nat → ClassId} {b : Nat} {xs : Nat → Int32} (C : Cx p s m #[Value.ref b] meth c code 4 lw_tbl RL D ad cs) (hr : meth.sig.returnType = ret) (hX : va_X b 6 xs s s.heap) (hbl : b < s.heap.size) (hbA : ¬ Ar ad b) (hnew : ∀ k, k < 297 → s.heap.size ≤ ad k) : G p l e room_1 s m #[Value.ref b] below meth c 297 6915 (lw_Z below #[Value.ref b] s) D ad cs 4 M0 L0 936 [(3, .int 0), (2, .ref (ad 258)), (1, .ref (ad 0)), (0, .ref b)] [] := by
  refine g_aload_n C 2 dL_law_936 rfl ?_
  refine g_aload_n C 3 dL_law_937 rfl ?_
  refine g_iload_n C 0 dL_law_938 rfl ?_
  refine g_iconst C 1 dL_law_939 (by decide) ?_
  refine g_iadd C dL_law_940 ?_
  refine g_ti 1 (by decide) ?_
  refine g_xld C hX hbl hbA (by unfold vp_in; decide) dL_law_941 ?_
  refine g_ti (xs 1) rfl ?_
  refine g_aload_n C 3 dL_law_942 rfl ?_
  refine g_iload_n C 0 dL_law_943 rfl ?_
  refine g_iconst C 2 dL_law_944 (by decide) ?_
  refine g_iadd C dL_law_945 ?_
  refine g_ti 2 (by decide) ?_
  refine g_xld C hX hbl hbA (by unfold vp_in; decide) dL_law_946 ?_
  refine g_ti (xs 2) rfl ?_
  refine g_aload_n C 3 dL_law_947 rfl ?_
  refine g_iload_n C 0 dL_law_948 rfl ?_
  refine g_iconst C 3 dL_law_949 (by decide) ?_
  refine g_iadd C dL_law_950 ?_
  refine g_ti 3 (by decide) ?_
  refine g_xld C hX hbl hbA (by unfold vp_in; decide) dL_law_951 ?_
  refine g_ti (xs 3) rfl ?_
  refine g_if_eq C 959 dL_law_952 (by decide) (fun c1 => ?_) (fun c1 => ?_)
  ·
    refine g_iconst C 0 dL_law_959 (by decide) ?_
    refine g_callVl C (n := 3) (As := [.int ((xs 1)), .int ((xs 2)), .int 0]) (st := []) (p_X10_tally l D ad cs _ _ ((xs 1)) ((xs 2)) 0 (fun _ _ _ => rfl)) gl_X10_tally rfl rfl rfl (by decide +kernel) ⟨Nat.le_of_ble_eq_true rfl, Nat.le_of_ble_eq_true rfl⟩ rfl (Nat.le_of_ble_eq_true rfl) ⟨Nat.le_of_ble_eq_true rfl, Nat.le_of_ble_eq_true rfl⟩ (by decide) (ce_house ad cs _ _) rfl rfl dL_law_960 (fun r2 M3 L4 hr2 => ?_)
    refine g_tl (-1) hr2.1 ?_
    refine g_aload_n C 1 dL_law_963 rfl ?_
    refine g_aload_n C 3 dL_law_964 rfl ?_
    refine g_iload_n C 0 dL_law_965 rfl ?_
    refine g_iconst C 1 dL_law_966 (by decide) ?_
    refine g_iadd C dL_law_967 ?_
    refine g_ti 1 (by decide) ?_
    refine g_xld C hX hbl hbA (by unfold vp_in; decide) dL_law_968 ?_
    refine g_ti (xs 1) rfl ?_
    refine g_aload_n C 3 dL_law_969 rfl ?_
    refine g_iload_n C 0 dL_law_970 rfl ?_
    refine g_iconst C 2 dL_law_971 (by decide) ?_
    refine g_iadd C dL_law_972 ?_
    refine g_ti 2 (by decide) ?_
    refine g_xld C hX hbl hbA (by unfold vp_in; decide) dL_law_973 ?_
    refine g_ti (xs 2) rfl ?_
    refine g_aload_n C 3 dL_law_974 rfl ?_
    refine g_iload_n C 0 dL_law_975 rfl ?_
    refine g_iconst C 3 dL_law_976 (by decide) ?_
    refine g_iadd C dL_law_977 ?_
    refine g_ti 3 (by decide) ?_
    refine g_xld C hX hbl hbA (by unfold vp_in; decide) dL_law_978 ?_
    refine g_ti (xs 3) rfl ?_
    refine g_if_eq C 986 dL_law_979 (by decide) (fun c5 => ?_) (fun c5 => ?_)
    ·
      refine g_iconst C 0 dL_law_986 (by decide) ?_
      refine g_callVl C (n := 3) (As := [.int ((xs 1)), .int ((xs 2)), .int 0]) (st := [.long ((-1))]) (p_X11_tally l D ad cs _ _ ((xs 1)) ((xs 2)) 0 (fun k9 h1 _ => hr2.2 k9 h1)) gl_X11_tally rfl rfl rfl (by decide +kernel) ⟨Nat.le_of_ble_eq_true rfl, Nat.le_of_ble_eq_true rfl⟩ rfl (Nat.le_of_ble_eq_true rfl) ⟨Nat.le_of_ble_eq_true rfl, Nat.le_of_ble_eq_true rfl⟩ (by decide) (ce_model ad cs _ _) rfl rfl dL_law_987 (fun r6 M7 L8 hr6 => ?_)
      refine g_tl (-1) hr6 ?_
      refine g_lcmp C dL_law_990 ?_
      refine g_ti 0 (by decide) ?_
      refine g_if_eq C 1069 dL_law_991 (by decide) (fun _ => ?_) (fun c9 => absurd c9 (by decide))
      exact law_end C hr hX hbl hbA hnew _ _
    ·
      refine g_iconst C 1 dL_law_982 (by decide) ?_
      refine g_goto C 987 dL_law_983 (by decide) ?_
      refine g_callVl C (n := 3) (As := [.int ((xs 1)), .int ((xs 2)), .int 1]) (st := [.long ((-1))]) (p_X11_tally l D ad cs _ _ ((xs 1)) ((xs 2)) 1 (fun k9 h1 _ => hr2.2 k9 h1)) gl_X11_tally rfl rfl rfl (by decide +kernel) ⟨Nat.le_of_ble_eq_true rfl, Nat.le_of_ble_eq_true rfl⟩ rfl (Nat.le_of_ble_eq_true rfl) ⟨Nat.le_of_ble_eq_true rfl, Nat.le_of_ble_eq_true rfl⟩ (by decide) (ce_model ad cs _ _) rfl rfl dL_law_987 (fun r10 M11 L12 hr10 => ?_)
      refine g_tl (-1) hr10 ?_
      refine g_lcmp C dL_law_990 ?_
      refine g_ti 0 (by decide) ?_
      refine g_if_eq C 1069 dL_law_991 (by decide) (fun _ => ?_) (fun c13 => absurd c13 (by decide))
      exact law_end C hr hX hbl hbA hnew _ _
  ·
    refine g_iconst C 1 dL_law_955 (by decide) ?_
    refine g_goto C 960 dL_law_956 (by decide) ?_
    refine g_callVl C (n := 3) (As := [.int ((xs 1)), .int ((xs 2)), .int 1]) (st := []) (p_X10_tally l D ad cs _ _ ((xs 1)) ((xs 2)) 1 (fun _ _ _ => rfl)) gl_X10_tally rfl rfl rfl (by decide +kernel) ⟨Nat.le_of_ble_eq_true rfl, Nat.le_of_ble_eq_true rfl⟩ rfl (Nat.le_of_ble_eq_true rfl) ⟨Nat.le_of_ble_eq_true rfl, Nat.le_of_ble_eq_true rfl⟩ (by decide) (ce_house ad cs _ _) rfl rfl dL_law_960 (fun r14 M15 L16 hr14 => ?_)
    refine g_tl (-1) hr14.1 ?_
    refine g_aload_n C 1 dL_law_963 rfl ?_
    refine g_aload_n C 3 dL_law_964 rfl ?_
    refine g_iload_n C 0 dL_law_965 rfl ?_
    refine g_iconst C 1 dL_law_966 (by decide) ?_
    refine g_iadd C dL_law_967 ?_
    refine g_ti 1 (by decide) ?_
    refine g_xld C hX hbl hbA (by unfold vp_in; decide) dL_law_968 ?_
    refine g_ti (xs 1) rfl ?_
    refine g_aload_n C 3 dL_law_969 rfl ?_
    refine g_iload_n C 0 dL_law_970 rfl ?_
    refine g_iconst C 2 dL_law_971 (by decide) ?_
    refine g_iadd C dL_law_972 ?_
    refine g_ti 2 (by decide) ?_
    refine g_xld C hX hbl hbA (by unfold vp_in; decide) dL_law_973 ?_
    refine g_ti (xs 2) rfl ?_
    refine g_aload_n C 3 dL_law_974 rfl ?_
    refine g_iload_n C 0 dL_law_975 rfl ?_
    refine g_iconst C 3 dL_law_976 (by decide) ?_
    refine g_iadd C dL_law_977 ?_
    refine g_ti 3 (by decide) ?_
    refine g_xld C hX hbl hbA (by unfold vp_in; decide) dL_law_978 ?_
    refine g_ti (xs 3) rfl ?_
    refine g_if_eq C 986 dL_law_979 (by decide) (fun c17 => ?_) (fun c17 => ?_)
    ·
      refine g_iconst C 0 dL_law_986 (by decide) ?_
      refine g_callVl C (n := 3) (As := [.int ((xs 1)), .int ((xs 2)), .int 0]) (st := [.long ((-1))]) (p_X11_tally l D ad cs _ _ ((xs 1)) ((xs 2)) 0 (fun k9 h1 _ => hr14.2 k9 h1)) gl_X11_tally rfl rfl rfl (by decide +kernel) ⟨Nat.le_of_ble_eq_true rfl, Nat.le_of_ble_eq_true rfl⟩ rfl (Nat.le_of_ble_eq_true rfl) ⟨Nat.le_of_ble_eq_true rfl, Nat.le_of_ble_eq_true rfl⟩ (by decide) (ce_model ad cs _ _) rfl rfl dL_law_987 (fun r18 M19 L20 hr18 => ?_)
      refine g_tl (-1) hr18 ?_
      refine g_lcmp C dL_law_990 ?_
      refine g_ti 0 (by decide) ?_
      refine g_if_eq C 1069 dL_law_991 (by decide) (fun _ => ?_) (fun c21 => absurd c21 (by decide))
      exact law_end C hr hX hbl hbA hnew _ _
    ·
      refine g_iconst C 1 dL_law_982 (by decide) ?_
      refine g_goto C 987 dL_law_983 (by decide) ?_
      refine g_callVl C (n := 3) (As := [.int ((xs 1)), .int ((xs 2)), .int 1]) (st := [.long ((-1))]) (p_X11_tally l D ad cs _ _ ((xs 1)) ((xs 2)) 1 (fun k9 h1 _ => hr14.2 k9 h1)) gl_X11_tally rfl rfl rfl (by decide +kernel) ⟨Nat.le_of_ble_eq_true rfl, Nat.le_of_ble_eq_true rfl⟩ rfl (Nat.le_of_ble_eq_true rfl) ⟨Nat.le_of_ble_eq_true rfl, Nat.le_of_ble_eq_true rfl⟩ (by decide) (ce_model ad cs _ _) rfl rfl dL_law_987 (fun r22 M23 L24 hr22 => ?_)
      refine g_tl (-1) hr22 ?_
      refine g_lcmp C dL_law_990 ?_
      refine g_ti 0 (by decide) ?_
      refine g_if_eq C 1069 dL_law_991 (by decide) (fun _ => ?_) (fun c25 => absurd c25 (by decide))
      exact law_end C hr hX hbl hbA hnew _ _
set_option maxHeartbeats 2000000 in
set_option maxRecDepth 100000 in
theorem law_c25 {p : Program} {l : Launch} {e : Env} {s : State} {m : MethodId} {below : List Frame} {meth : Method} {c : Code} {D : va_G} {ad : Nat → Nat} {cs : Nat → ClassId} {b : Nat} {xs : Nat → Int32} (C : Cx p s m #[Value.ref b] meth c code 4 lw_tbl RL D ad cs) (hr : meth.sig.returnType = ret) (hX : va_X b 6 xs s s.heap) (hbl : b < s.heap.size) (hbA : ¬ Ar ad b) (hnew : ∀ k, k < 297 → s.heap.size ≤ ad k) : G p l e room_1 s m #[Value.ref b] below meth c 297 6915 (lw_Z below #[Value.ref b] s) D ad cs 4 M0 L0 996 [(3, .int 0), (2, .ref (ad 258)), (1, .ref (ad 0)), (0, .ref b)] [] := by
  refine g_aload_n C 2 dL_law_996 rfl ?_
  refine g_aload_n C 3 dL_law_997 rfl ?_
  refine g_iload_n C 0 dL_law_998 rfl ?_
  refine g_iconst C 1 dL_law_999 (by decide) ?_
  refine g_iadd C dL_law_1000 ?_
  refine g_ti 1 (by decide) ?_
  refine g_xld C hX hbl hbA (by unfold vp_in; decide) dL_law_1001 ?_
  refine g_ti (xs 1) rfl ?_
  refine g_callVi C (n := 1) (As := [.int ((xs 1))]) (st := []) (p_X10_many l D ad cs _ _ ((xs 1)) (fun _ _ _ => rfl)) gl_X10_many rfl rfl rfl (by decide +kernel) ⟨Nat.le_of_ble_eq_true rfl, Nat.le_of_ble_eq_true rfl⟩ rfl (Nat.le_of_ble_eq_true rfl) ⟨Nat.le_of_ble_eq_true rfl, Nat.le_of_ble_eq_true rfl⟩ (by decide) (ce_house ad cs _ _) rfl rfl dL_law_1002 (fun r1 M2 L3 hr1 => ?_)
  refine g_aload_n C 1 dL_law_1005 rfl ?_
  refine g_aload_n C 3 dL_law_1006 rfl ?_
  refine g_iload_n C 0 dL_law_1007 rfl ?_
  refine g_iconst C 1 dL_law_1008 (by decide) ?_
  refine g_iadd C dL_law_1009 ?_
  refine g_ti 1 (by decide) ?_
  refine g_xld C hX hbl hbA (by unfold vp_in; decide) dL_law_1010 ?_
  refine g_ti (xs 1) rfl ?_
  refine g_callVi C (n := 1) (As := [.int ((xs 1))]) (st := [.int r1]) (p_X11_many l D ad cs _ _ ((xs 1)) (fun k9 h1 _ => hr1.2 k9 h1)) gl_X11_many rfl rfl rfl (by decide +kernel) ⟨Nat.le_of_ble_eq_true rfl, Nat.le_of_ble_eq_true rfl⟩ rfl (Nat.le_of_ble_eq_true rfl) ⟨Nat.le_of_ble_eq_true rfl, Nat.le_of_ble_eq_true rfl⟩ (by decide) (ce_model ad cs _ _) rfl rfl dL_law_1011 (fun r4 M5 L6 hr4 => ?_)
  refine g_icmp_eq C 1069 dL_law_1014 (by decide) (fun c7 => ?_) (fun c7 => ?_)
  ·
    exact law_end C hr hX hbl hbA hnew _ _
  ·
    refine g_iconst C 0 dL_law_1017 (by decide) ?_
    exact absurd (hr1.1.trans hr4.symm) c7
set_option maxHeartbeats 2000000 in
set_option maxRecDepth 100000 in
theorem law_c26 {p : Program} {l : Launch} {e : Env} {s : State} {m : MethodId} {below : List Frame} {meth : Method} {c : Code} {D : va_G} {ad : Nat → Nat} {cs : Nat → ClassId} {b : Nat} {xs : Nat → Int32} (C : Cx p s m #[Value.ref b] meth c code 4 lw_tbl RL D ad cs) (hr : meth.sig.returnType = ret) (hX : va_X b 6 xs s s.heap) (hbl : b < s.heap.size) (hbA : ¬ Ar ad b) (hnew : ∀ k, k < 297 → s.heap.size ≤ ad k) : G p l e room_1 s m #[Value.ref b] below meth c 297 6915 (lw_Z below #[Value.ref b] s) D ad cs 4 M0 L0 1019 [(3, .int 0), (2, .ref (ad 258)), (1, .ref (ad 0)), (0, .ref b)] [] := by
  refine g_aload_n C 2 dL_law_1019 rfl ?_
  refine g_callVi C (n := 0) (As := []) (st := []) (p_X10_finding l D ad cs _ _  (fun _ _ _ => rfl)) gl_X10_finding rfl rfl rfl (by decide +kernel) ⟨Nat.le_of_ble_eq_true rfl, Nat.le_of_ble_eq_true rfl⟩ rfl (Nat.le_of_ble_eq_true rfl) ⟨Nat.le_of_ble_eq_true rfl, Nat.le_of_ble_eq_true rfl⟩ (by decide) (ce_house ad cs _ _) rfl rfl dL_law_1020 (fun r1 M2 L3 hr1 => ?_)
  refine g_aload_n C 1 dL_law_1023 rfl ?_
  refine g_callVi C (n := 0) (As := []) (st := [.int r1]) (p_X11_finding l D ad cs _ _  (fun k9 h1 _ => hr1.2 k9 h1)) gl_X11_finding rfl rfl rfl (by decide +kernel) ⟨Nat.le_of_ble_eq_true rfl, Nat.le_of_ble_eq_true rfl⟩ rfl (Nat.le_of_ble_eq_true rfl) ⟨Nat.le_of_ble_eq_true rfl, Nat.le_of_ble_eq_true rfl⟩ (by decide) (ce_model ad cs _ _) rfl rfl dL_law_1024 (fun r4 M5 L6 hr4 => ?_)
  refine g_icmp_eq C 1069 dL_law_1027 (by decide) (fun c7 => ?_) (fun c7 => ?_)
  ·
    exact law_end C hr hX hbl hbA hnew _ _
  ·
    refine g_iconst C 0 dL_law_1030 (by decide) ?_
    exact absurd (hr1.1.trans hr4.symm) c7
set_option maxHeartbeats 2000000 in
set_option maxRecDepth 100000 in
theorem law_c27 {p : Program} {l : Launch} {e : Env} {s : State} {m : MethodId} {below : List Frame} {meth : Method} {c : Code} {D : va_G} {ad : Nat → Nat} {cs : Nat → ClassId} {b : Nat} {xs : Nat → Int32} (C : Cx p s m #[Value.ref b] meth c code 4 lw_tbl RL D ad cs) (hr : meth.sig.returnType = ret) (hX : va_X b 6 xs s s.heap) (hbl : b < s.heap.size) (hbA : ¬ Ar ad b) (hnew : ∀ k, k < 297 → s.heap.size ≤ ad k) : G p l e room_1 s m #[Value.ref b] below meth c 297 6915 (lw_Z below #[Value.ref b] s) D ad cs 4 M0 L0 1032 [(3, .int 0), (2, .ref (ad 258)), (1, .ref (ad 0)), (0, .ref b)] [] := by
  refine g_aload_n C 2 dL_law_1032 rfl ?_
  refine g_aload_n C 3 dL_law_1033 rfl ?_
  refine g_iload_n C 0 dL_law_1034 rfl ?_
  refine g_iconst C 1 dL_law_1035 (by decide) ?_
  refine g_iadd C dL_law_1036 ?_
  refine g_ti 1 (by decide) ?_
  refine g_xld C hX hbl hbA (by unfold vp_in; decide) dL_law_1037 ?_
  refine g_ti (xs 1) rfl ?_
  refine g_callVi C (n := 1) (As := [.int ((xs 1))]) (st := []) (p_X10_findings l D ad cs _ _ ((xs 1)) (fun _ _ _ => rfl)) gl_X10_findings rfl rfl rfl (by decide +kernel) ⟨Nat.le_of_ble_eq_true rfl, Nat.le_of_ble_eq_true rfl⟩ rfl (Nat.le_of_ble_eq_true rfl) ⟨Nat.le_of_ble_eq_true rfl, Nat.le_of_ble_eq_true rfl⟩ (by decide) (ce_house ad cs _ _) rfl rfl dL_law_1038 (fun r1 M2 L3 hr1 => ?_)
  refine g_aload_n C 1 dL_law_1041 rfl ?_
  refine g_aload_n C 3 dL_law_1042 rfl ?_
  refine g_iload_n C 0 dL_law_1043 rfl ?_
  refine g_iconst C 1 dL_law_1044 (by decide) ?_
  refine g_iadd C dL_law_1045 ?_
  refine g_ti 1 (by decide) ?_
  refine g_xld C hX hbl hbA (by unfold vp_in; decide) dL_law_1046 ?_
  refine g_ti (xs 1) rfl ?_
  refine g_callVi C (n := 1) (As := [.int ((xs 1))]) (st := [.int r1]) (p_X11_findings l D ad cs _ _ ((xs 1)) (fun k9 h1 _ => hr1.2 k9 h1)) gl_X11_findings rfl rfl rfl (by decide +kernel) ⟨Nat.le_of_ble_eq_true rfl, Nat.le_of_ble_eq_true rfl⟩ rfl (Nat.le_of_ble_eq_true rfl) ⟨Nat.le_of_ble_eq_true rfl, Nat.le_of_ble_eq_true rfl⟩ (by decide) (ce_model ad cs _ _) rfl rfl dL_law_1047 (fun r4 M5 L6 hr4 => ?_)
  refine g_icmp_eq C 1069 dL_law_1050 (by decide) (fun c7 => ?_) (fun c7 => ?_)
  ·
    exact law_end C hr hX hbl hbA hnew _ _
  ·
    refine g_iconst C 0 dL_law_1053 (by decide) ?_
    exact absurd (hr1.1.trans hr4.symm) c7
set_option maxHeartbeats 2000000 in
set_option maxRecDepth 100000 in
theorem law_c28 {p : Program} {l : Launch} {e : Env} {s : State} {m : MethodId} {below : List Frame} {meth : Method} {c : Code} {D : va_G} {ad : Nat → Nat} {cs : Nat → ClassId} {b : Nat} {xs : Nat → Int32} (C : Cx p s m #[Value.ref b] meth c code 4 lw_tbl RL D ad cs) (hr : meth.sig.returnType = ret) (hX : va_X b 6 xs s s.heap) (hbl : b < s.heap.size) (hbA : ¬ Ar ad b) (hnew : ∀ k, k < 297 → s.heap.size ≤ ad k) : G p l e room_1 s m #[Value.ref b] below meth c 297 6915 (lw_Z below #[Value.ref b] s) D ad cs 4 M0 L0 1055 [(3, .int 0), (2, .ref (ad 258)), (1, .ref (ad 0)), (0, .ref b)] [] := by
  refine g_aload_n C 2 dL_law_1055 rfl ?_
  refine g_callVl C (n := 0) (As := []) (st := []) (p_X10_digest l D ad cs _ _  (fun _ _ _ => rfl)) gl_X10_digest rfl rfl rfl (by decide +kernel) ⟨Nat.le_of_ble_eq_true rfl, Nat.le_of_ble_eq_true rfl⟩ rfl (Nat.le_of_ble_eq_true rfl) ⟨Nat.le_of_ble_eq_true rfl, Nat.le_of_ble_eq_true rfl⟩ (by decide) (ce_house ad cs _ _) rfl rfl dL_law_1056 (fun r1 M2 L3 hr1 => ?_)
  refine g_tl 17 hr1.1 ?_
  refine g_aload_n C 1 dL_law_1059 rfl ?_
  refine g_callVl C (n := 0) (As := []) (st := [.long 17]) (p_X11_digest l D ad cs _ _  (fun k9 h1 _ => hr1.2 k9 h1)) gl_X11_digest rfl rfl rfl (by decide +kernel) ⟨Nat.le_of_ble_eq_true rfl, Nat.le_of_ble_eq_true rfl⟩ rfl (Nat.le_of_ble_eq_true rfl) ⟨Nat.le_of_ble_eq_true rfl, Nat.le_of_ble_eq_true rfl⟩ (by decide) (ce_model ad cs _ _) rfl rfl dL_law_1060 (fun r4 M5 L6 hr4 => ?_)
  refine g_tl 17 hr4 ?_
  refine g_lcmp C dL_law_1063 ?_
  refine g_ti 0 (by decide) ?_
  refine g_if_eq C 1069 dL_law_1064 (by decide) (fun _ => ?_) (fun c7 => absurd c7 (by decide))
  exact law_end C hr hX hbl hbA hnew _ _
