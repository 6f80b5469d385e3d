/-! what stays between the calls -/
def JM (M : MI) : Prop := IR M ∧ AI (vR M) ∧ tr01 (vR M 13) (M 274) ∧ AI2 (vR M)
def JV (M : MI) : Prop := IC M ∧ JM M ∧ vC M = vR M
theorem vC_lo {M M1 : MI} (h : ∀ k i, k < 258 → M1 k i = M k i) : vC M1 = vC M := vC_fr (fun k hk => funext (fun i => h k i (by omega)))
theorem JM_mid {M M1 : MI} (h : JM M) (hk : ∀ k i, 258 ≤ k → M1 k i = M k i) : JM M1 ∧ vR M1 = vR M := by
  have hV : vR M1 = vR M := vR_fr (fun k i hq => hk k i (by omega))
  have h4 : M1 274 = M 274 := funext (fun i => hk 274 i (by decide))
  refine ⟨⟨h.1.of (fun k hq => funext (fun i => hk k i hq)), ?_, ?_, ?_⟩, hV⟩
  · rw [hV]; exact h.2.1
  · rw [hV, h4]; exact h.2.2.1
  · rw [hV]; exact h.2.2.2
theorem pair {A : VW → Int32 × VW} {M M1 M2 : MI} {r r2 : Int32} (h : vC M = vR M) (hV : vR M1 = vR M) (hC : vC M2 = vC M1) (h1 : A (vC M) = (r, vC M1)) (h2 : A (vR M1) = (r2, vR M2)) : r = r2 ∧ vC M2 = vR M2 := by
  rw [hV, ← h, h1] at h2
  exact ⟨congrArg Prod.fst h2, hC.trans (congrArg Prod.snd h2)⟩
theorem tr_k {M M1 : MI} (h : tr01 (vR M 13) (M 274)) (e : M1 273 = M 273) (e2 : M1 274 = M 274) : tr01 (vR M1 13) (M1 274) := by
  have e13 : vR M1 13 = vR M 13 := by funext i; exact congrFun e i
  rw [e13, e2]; exact h
theorem JM_rank {M : MI} (h : JM M) {b c : Int32} (hb : hasB (vR M) b) (hc : hasC (vR M) c) (hp : (placeV (vR M) b c).toInt = -9) : (vR M 4 b.toNatClampNeg).toInt < 10 := by
  have nb := ixn hb.1
  have h60 : (vR M 0 1).toInt ≤ 60 := (h.1 258 4).2
  have h10 : (vR M 0 0).toInt ≤ 10 := (h.1 258 2).2
  have hb2 := hb.2
  have hc2 := hc.2
  exact rank_lt h.2.1 (fun i => h.1 264 i) b.toNatClampNeg (by omega) (h.1 263 _) c ⟨hc.1, by omega⟩ hp
theorem JM_share {M : MI} (h : JM M) {x i : Int32} (hl : (lacksV (vR M) x i).toInt = 0) : (sumP (vR M) x.toNatClampNeg (vR M 7 x.toNatClampNeg).toNatClampNeg).toInt ≠ 0 := share_ne h.2.1 (fun b => h.1 262 b) (fun x => h.1 266 x) x i hl
theorem c_S {M : MI} (h : JV M) : ∀ b, 0 ≤ (vC M 2 b).toInt ∧ (vC M 2 b).toInt ≤ 3 := by rw [h.2.2]; exact h.2.1.2.2.2.1
theorem c_XS {M : MI} (h : JV M) : ∀ x, 0 ≤ (vC M 6 x).toInt ∧ (vC M 6 x).toInt ≤ 3 := by rw [h.2.2]; exact h.2.1.2.2.2.2.1
theorem c_K {M : MI} (h : JV M) : ∀ m, 0 ≤ (vC M 9 m).toInt ∧ (vC M 9 m).toInt ≤ 8 := by rw [h.2.2]; exact h.2.1.2.2.2.2.2.1
theorem c_N {M : MI} (h : JV M) : NOv (vC M) := by rw [h.2.2]; exact h.2.1.2.1.2.1
theorem c_B {M : MI} (h : JV M) : b012 (vC M 13) := by rw [h.2.2]; exact h.2.1.2.1.2.2.1
theorem c_8 {M : MI} (h : JV M) : ∀ i : Nat, (vC M 8 i).toInt = -9 ∨ (0 ≤ (vC M 8 i).toInt ∧ (vC M 8 i).toInt < (vC M 0 1).toInt) := by rw [h.2.2]; exact h.2.1.2.1.2.2.2.2.1
theorem c_8n {M : MI} (h : JV M) : ∀ i : Nat, (vC M 0 2).toInt ≤ ((i / 40 : Nat) : Int) → vC M 8 i = -9 := by
  rw [h.2.2]
  intro i hi
  have e : (M 258 9).toInt = (vR M 0 2).toInt := rfl
  show (if ((i / 40 : Nat) : Int) < (M 258 9).toInt then M 267 i else -9) = -9
  rw [if_neg (by omega)]
theorem c_P {M : MI} (h : JV M) {b c : Int32} : hasB (vC M) b → hasC (vC M) c → (placeV (vC M) b c).toInt = -9 → (vC M 4 b.toNatClampNeg).toInt < 10 := by
  rw [h.2.2]; exact fun hb hc hp => JM_rank h.2.1 hb hc hp
theorem c_O {M : MI} (h : JV M) {b : Int32} : hasB (vC M) b → (vC M 2 b.toNatClampNeg).toInt = 2 → (vC M 4 b.toNatClampNeg).toInt ≤ 1 := by
  rw [h.2.2]
  intro hb hs
  have nb := ixn hb.1
  have h60 : (vR M 0 1).toInt ≤ 60 := (h.2.1.1 258 4).2
  have hb2 := hb.2
  exact h.2.1.2.2.2.2.2.2.1 b.toNatClampNeg (by omega) hs
theorem c_Sh {M : MI} (h : JV M) {x y : Int32} : hasX (vC M) x → (lacksV (vC M) x y).toInt = 0 → 0 < (sumP (vC M) x.toNatClampNeg (vC M 7 x.toNatClampNeg).toNatClampNeg).toInt := by
  rw [h.2.2]
  intro _ hl
  have h7 := h.2.1.1 266 x.toNatClampNeg
  have e7 : 0 ≤ (vR M 7 x.toNatClampNeg).toInt ∧ (vR M 7 x.toNatClampNeg).toInt ≤ 40 := h7
  have n7 := ixn e7.1
  have hs := (sumP_b (V := vR M) (x := x.toNatClampNeg) (fun b => h.2.1.1 262 b) (vR M 7 x.toNatClampNeg).toNatClampNeg (by omega)).1
  have hn := JM_share h.2.1 hl
  omega
theorem c_Sm {M : MI} (h : JV M) {b : Int32} : hasB (vC M) b → (vC M 2 b.toNatClampNeg).toInt = 3 → sumM (vC M) b.toNatClampNeg 10 = sumM (vC M) b.toNatClampNeg (vC M 0 0).toNatClampNeg := by
  rw [h.2.2]
  intro hb hs
  have nb := ixn hb.1
  have h60 : (vR M 0 1).toInt ≤ 60 := (h.2.1.1 258 4).2
  have h0 : 0 ≤ (vR M 0 0).toInt := (h.2.1.1 258 2).1
  have h10 : (vR M 0 0).toInt ≤ 10 := (h.2.1.1 258 2).2
  have n0 := ixn h0
  have hb2 := hb.2
  have w := sumM_k (V := vR M) (b := b.toNatClampNeg) (m := (vR M 0 0).toNatClampNeg) (10 - (vR M 0 0).toNatClampNeg) (fun k h1 h2 => h.2.1.2.2.2.2.2.2.2.1 b.toNatClampNeg (by omega) hs k (by omega) (by omega))
  rw [show (vR M 0 0).toNatClampNeg + (10 - (vR M 0 0).toNatClampNeg) = 10 by omega] at w
  exact w
theorem rel0 : vC M0 = vR M0 := by
  funext k i
  by_cases k8 : k = 8
  · subst k8
    show (if i < 320 ∧ ((i % 40 : Nat) : Int) < (0 : Int32).toInt then M0 (73 + i / 40) (i % 40) else -9) = (if ((i / 40 : Nat) : Int) < (0 : Int32).toInt then M0 267 i else -9)
    rw [show (0 : Int32).toInt = 0 by decide, if_neg (by omega), if_neg (by omega)]
  · by_cases k5 : k = 5
    · subst k5
      show (if i < 600 then M0 (8 + i / 10) (i % 10) else 0) = 0
      by_cases q : i < 600
      · rw [if_pos q, M0_z (by omega) (by omega)]
      · rw [if_neg q]
    · unfold vC vR
      rw [if_neg k8, if_neg k8, if_neg k5, if_neg k5]
      rfl
theorem JV0 : JV M0 := by
  refine ⟨IC0, ⟨IR0, ⟨?_, ?_, ?_, ?_, ?_, ?_, ?_, ?_⟩, ?_, ?_⟩, rel0⟩
  · intro c hc; exact absurd hc (by show ¬ (c : Int) < 0; omega)
  · intro c hc; exact absurd hc (by show ¬ (c : Int) < 0; omega)
  · intro i; exact ⟨(by decide : 0 ≤ (0 : Int32).toInt), (by decide : (0 : Int32).toInt ≤ 2)⟩
  · intro c hc; exact absurd hc (by show ¬ (c : Int) < 0; omega)
  · intro i
    refine Or.inl ?_
    show (if ((i / 40 : Nat) : Int) < (0 : Int32).toInt then (0 : Int32) else -9).toInt = -9
    rw [if_neg (by show ¬ ((i / 40 : Nat) : Int) < 0; omega)]
    decide
  · intro b _ i j _ hj; exact absurd hj (by show ¬ (j : Int) < 0; omega)
  · intro b _ _; exact (by decide : (0 : Int32).toInt = 0)
  · intro b _ _; exact (by decide : (0 : Int32).toInt = 0)
  · intro i; show (0 : Int32) = if (0 : Int32).toInt = 0 then 0 else 1; decide
  · exact ⟨fun b => ⟨(by decide : 0 ≤ (0 : Int32).toInt), (by decide : (0 : Int32).toInt ≤ 3)⟩, fun b => ⟨(by decide : 0 ≤ (0 : Int32).toInt), (by decide : (0 : Int32).toInt ≤ 3)⟩, fun b => ⟨(by decide : 0 ≤ (0 : Int32).toInt), (by decide : (0 : Int32).toInt ≤ 8)⟩, fun b _ _ => (by decide : (0 : Int32).toInt ≤ 1), fun b _ _ k _ _ => rfl, fun b _ _ k _ => rfl⟩
def JW (M : MI) : Prop := JV M ∧ AI3 (vR M) ∧ JL M
theorem c_P3 {M : MI} (h : JV M) : ∀ b, 0 ≤ (vC M 3 b).toInt ∧ (vC M 3 b).toInt ≤ 100000 := by rw [h.2.2]; exact fun b => h.2.1.1 262 b
theorem c_A3 {M : MI} (h : JV M) (h3 : AI3 (vR M)) : ∀ b : Nat, b < 60 → ∀ i : Nat, (i : Int) < (vC M 4 b).toInt → (vC M 5 (10 * b + i)).toInt < (vC M 0 0).toInt := by rw [h.2.2]; exact h3.2.1
theorem c_ds {M : MI} (h : JV M) : ∀ b : Nat, b < 60 → ∀ i j : Nat, i < j → (j : Int) < (vC M 4 b).toInt → (vC M 5 (10 * b + i)).toInt ≠ (vC M 5 (10 * b + j)).toInt := by rw [h.2.2]; exact h.2.1.2.1.2.2.2.2.2.1
theorem m_l4 {M : MI} (h : JM M) (h3 : AI3 (vR M)) : ∀ b : Nat, b < 60 → (vR M 4 b).toInt ≤ (vR M 0 0).toInt := fun b hb => AI3_on h3 h.2.1 (h.1 258 2).1 (fun i => h.1 264 i) b hb
theorem c_l4 {M : MI} (h : JV M) (h3 : AI3 (vR M)) : ∀ b : Nat, b < 60 → (vC M 4 b).toInt ≤ (vC M 0 0).toInt := by rw [h.2.2]; exact m_l4 h.2.1 h3
theorem m_rl {M : MI} (h : JM M) (h3 : AI3 (vR M)) : ∀ i, i < (M 258 2).toNatClampNeg → (M 260 i).toInt < ((M 258 2).toNatClampNeg : Int) := by
  intro i hi
  have h0 : 0 ≤ (M 258 2).toInt := (h.1 258 2).1
  have n0 := ixn h0
  have q : (M 260 i).toInt < (M 258 2).toInt := h3.1 i (by show (i : Int) < (M 258 2).toInt; omega)
  omega
theorem c_rl {M : MI} (h : JV M) (h3 : AI3 (vR M)) : ∀ i, i < (M 1 0).toNatClampNeg → (M 2 i).toInt < ((M 1 0).toNatClampNeg : Int) := by
  have e0 : M 1 0 = vC M 0 0 := rfl
  have e1 : M 2 = vC M 1 := rfl
  rw [e0, e1, h.2.2]
  exact m_rl h.2.1 h3
theorem c_D {M : MI} (h : JV M) : DP (vC M) := by rw [h.2.2]; exact h.2.1.2.1.1
theorem c_h8 {M : MI} (h : JV M) (h3 : AI3 (vR M)) {x : Int32} : hasM (vC M) x → (startV (vC M) x 13 x.toNatClampNeg).toInt = 1 → (vC M 9 x.toNatClampNeg).toInt ≠ 8 := by
  rw [h.2.2]
  exact fun hx hs => AI3_8 h3 h.2.1.2.1.2.1 hs hx
theorem m_8 {M : MI} (h : JM M) : ∀ i : Nat, (vR M 8 i).toInt = -9 ∨ (0 ≤ (vR M 8 i).toInt ∧ (vR M 8 i).toInt ≤ 59) := by
  intro i
  have q := h.2.1.2.2.2.2.1 i
  have q2 : (vR M 0 1).toInt ≤ 60 := (h.1 258 4).2
  omega
theorem JW0 : JW M0 := by
  refine ⟨JV0, ⟨?_, ?_, ?_⟩, ?_, [], [], ?_, ?_⟩
  · intro i hi; exact absurd hi (by show ¬ (i : Int) < 0; omega)
  · intro b _ i hi; exact absurd hi (by show ¬ (i : Int) < 0; omega)
  · intro m hm; exact absurd hm (by show ¬ (0 : Int32).toInt = 1; decide)
  · show ¬ M0 0 8 = M0 0 9
    decide
  · first | exact Or.inl ⟨by decide, by decide, fun i hi => absurd hi (Nat.not_lt_zero i), by decide, fun i hi => absurd hi (Nat.not_lt_zero i)⟩ | exact Or.inr ⟨by decide, by decide, fun i hi => absurd hi (Nat.not_lt_zero i), by decide, fun i hi => absurd hi (Nat.not_lt_zero i)⟩
  · exact ⟨by decide, fun i hi => absurd hi (Nat.not_lt_zero i), by decide, fun i hi => absurd hi (Nat.not_lt_zero i)⟩
set_option maxHeartbeats 4000000 in
set_option maxRecDepth 100000 in
theorem law_c0 {p : Program} {l : Launch} {e : Env} {s : State} {m : MethodId} {below : List Frame} {meth : Method} {c : Code} {D : va_G} {ad : Nat → Nat} {cs : Nat → ClassId} {b : Nat} {xs : Nat → Int32} (C : Cx p s m #[Value.ref b] meth c code 4 lw_tbl RL D ad cs) (hr : meth.sig.returnType = ret) {N : Nat} (hN : N ≤ 3072) (hX : va_X b N xs s s.heap) (hbl : b < s.heap.size) (hbA : ¬ Ar ad b) (hnew : ∀ k, k < 297 → s.heap.size ≤ ad k) {i : Int32} (hi0 : 0 ≤ i.toInt) (hi1 : i.toInt + 6 ≤ (N : Int)) (M : MI) (L : ML) (hW : JW M) (K : ∀ M9 L9, JW M9 → G p l e room_1 s m #[Value.ref b] below meth c 297 6915 (lw_Z below #[Value.ref b] s) D ad cs 4 M9 L9 1067 [(3, .int i), (2, .ref (ad 258)), (1, .ref (ad 0)), (0, .ref b)] []) : G p l e room_1 s m #[Value.ref b] below meth c 297 6915 (lw_Z below #[Value.ref b] s) D ad cs 4 M L 164 [(3, .int i), (2, .ref (ad 258)), (1, .ref (ad 0)), (0, .ref b)] [] := by
  obtain ⟨hJ, h3, hL⟩ := hW
  refine g_aload_n C 2 dL_law_164 rfl ?_
  refine g_callVi C (n := 0) (As := []) (st := []) (v_X10_stand l D ad cs _ _  hJ.1 ) gl_X10_stand rfl rfl rfl (by decide +kernel) ⟨Nat.le_of_ble_eq_true rfl, Nat.le_of_ble_eq_true rfl⟩ rfl (Nat.le_of_ble_eq_true rfl) ⟨Nat.le_of_ble_eq_true rfl, Nat.le_of_ble_eq_true rfl⟩ (by decide) (ce_house ad cs _ _) rfl rfl dL_law_165 (fun r1 M2 L3 hr1 => ?_)
  obtain ⟨hans, hI1, hF1, hG1⟩ := hr1
  obtain ⟨hm, hv⟩ := JM_mid hJ.2.1 (fun k i hk => hF1 k i (by omega))
  have h3m : AI3 (vR M2) := by rw [hv]; exact h3
  refine g_pop C dL_law_168 rfl ?_
  refine g_aload_n C 1 dL_law_169 rfl ?_
  refine g_callVi C (n := 0) (As := []) (st := []) (s_X11_stand l D ad cs _ _  hm.1 ) gl_X11_stand rfl rfl rfl (by decide +kernel) ⟨Nat.le_of_ble_eq_true rfl, Nat.le_of_ble_eq_true rfl⟩ rfl (Nat.le_of_ble_eq_true rfl) ⟨Nat.le_of_ble_eq_true rfl, Nat.le_of_ble_eq_true rfl⟩ (by decide) (ce_model ad cs _ _) rfl rfl dL_law_170 (fun r4 M5 L6 hr4 => ?_)
  obtain ⟨hA, hI2, hF2, hG2⟩ := hr4
  have hc2 : vC M5 = vC M2 := vC_lo (fun k i hk => hF2 k i (by omega))
  obtain ⟨heq, hrel⟩ := pair (A := fun V => A_stand V ) hJ.2.2 hv hc2 hans hA
  have h3 : AI3 (vR M5) := by have h9 := AI3_stand h3m (hm.1 258 2).1 (hm.1 258 2).2 ; rw [hA] at h9; exact h9
  have hL : JL M5 := JL_k (fun k i hk => (hF2 k i (by omega)).trans (hF1 k i (by omega))) hL
  have hJ : JV M5 := ⟨hI1.of (fun k hq => funext (fun i => hF2 k i (by omega))), ⟨hI2, (by have h9 := AI_stand hm.2.1 (hm.1 258 2).1 (hm.1 258 2).2 ; rw [hA] at h9; exact h9), (tr_k hm.2.2.1 (funext (fun i => hF2 273 i (by omega))) (funext (fun i => hF2 274 i (by omega)))), (by have h9 := AI2_stand hm.2.2.2 (hm.1 258 2).1 (hm.1 258 2).2 ; rw [hA] at h9; exact h9)⟩, hrel⟩
  refine g_pop C dL_law_173 rfl ?_
  refine g_goto C 1067 dL_law_174 (by decide) ?_
  exact K _ _ ⟨hJ, h3, hL⟩
set_option maxHeartbeats 4000000 in
set_option maxRecDepth 100000 in
theorem law_c1 {p : Program} {l : Launch} {e : Env} {s : State} {m : MethodId} {below : List Frame} {meth : Method} {c : Code} {D : va_G} {ad : Nat → Nat} {cs : Nat → ClassId} {b : Nat} {xs : Nat → Int32} (C : Cx p s m #[Value.ref b] meth c code 4 lw_tbl RL D ad cs) (hr : meth.sig.returnType = ret) {N : Nat} (hN : N ≤ 3072) (hX : va_X b N xs s s.heap) (hbl : b < s.heap.size) (hbA : ¬ Ar ad b) (hnew : ∀ k, k < 297 → s.heap.size ≤ ad k) {i : Int32} (hi0 : 0 ≤ i.toInt) (hi1 : i.toInt + 6 ≤ (N : Int)) (M : MI) (L : ML) (hW : JW M) (K : ∀ M9 L9, JW M9 → G p l e room_1 s m #[Value.ref b] below meth c 297 6915 (lw_Z below #[Value.ref b] s) D ad cs 4 M9 L9 1067 [(3, .int i), (2, .ref (ad 258)), (1, .ref (ad 0)), (0, .ref b)] []) : G p l e room_1 s m #[Value.ref b] below meth c 297 6915 (lw_Z below #[Value.ref b] s) D ad cs 4 M L 177 [(3, .int i), (2, .ref (ad 258)), (1, .ref (ad 0)), (0, .ref b)] [] := by
  obtain ⟨hJ, h3, hL⟩ := hW
  refine g_aload_n C 2 dL_law_177 rfl ?_
  refine g_aload_n C 3 dL_law_178 rfl ?_
  refine g_iload_n C 0 dL_law_179 rfl ?_
  refine g_iconst C 1 dL_law_180 (by decide) ?_
  refine g_iadd C dL_law_181 ?_
  refine g_ni (fun v1 ev1 => ?_)
  have fv1 := fadd rfl (by decide : (1 : Int32).toInt = 1) ev1 (by omega) (by omega)
  refine g_xld C hX hbl hbA (fin' (n := N) rfl (by omega) (by omega)) dL_law_182 ?_
  refine g_ni (fun v2 ev2 => ?_)
  refine g_aload_n C 3 dL_law_183 rfl ?_
  refine g_iload_n C 0 dL_law_184 rfl ?_
  refine g_iconst C 2 dL_law_185 (by decide) ?_
  refine g_iadd C dL_law_186 ?_
  refine g_ni (fun v3 ev3 => ?_)
  have fv3 := fadd rfl (by decide : (2 : Int32).toInt = 2) ev3 (by omega) (by omega)
  refine g_xld C hX hbl hbA (fin' (n := N) rfl (by omega) (by omega)) dL_law_187 ?_
  refine g_ni (fun v4 ev4 => ?_)
  refine g_callVi C (n := 2) (As := [.int v2, .int v4]) (st := []) (v_X10_draw l D ad cs _ _ v2 v4 hJ.1 ) gl_X10_draw rfl rfl rfl (by decide +kernel) ⟨Nat.le_of_ble_eq_true rfl, Nat.le_of_ble_eq_true rfl⟩ rfl (Nat.le_of_ble_eq_true rfl) ⟨Nat.le_of_ble_eq_true rfl, Nat.le_of_ble_eq_true rfl⟩ (by decide) (ce_house ad cs _ _) rfl rfl dL_law_188 (fun r5 M6 L7 hr5 => ?_)
  obtain ⟨hans, hI1, hF1, hG1⟩ := hr5
  obtain ⟨hm, hv⟩ := JM_mid hJ.2.1 (fun k i hk => hF1 k i (by omega))
  have h3m : AI3 (vR M6) := by rw [hv]; exact h3
  refine g_pop C dL_law_191 rfl ?_
  refine g_aload_n C 1 dL_law_192 rfl ?_
  refine g_aload_n C 3 dL_law_193 rfl ?_
  refine g_iload_n C 0 dL_law_194 rfl ?_
  refine g_iconst C 1 dL_law_195 (by decide) ?_
  refine g_iadd C dL_law_196 ?_
  refine g_ti v1 (by rw [ev1]) ?_
  refine g_xld C hX hbl hbA (fin' (n := N) rfl (by omega) (by omega)) dL_law_197 ?_
  refine g_ti v2 (by rw [ev2]) ?_
  refine g_aload_n C 3 dL_law_198 rfl ?_
  refine g_iload_n C 0 dL_law_199 rfl ?_
  refine g_iconst C 2 dL_law_200 (by decide) ?_
  refine g_iadd C dL_law_201 ?_
  refine g_ti v3 (by rw [ev3]) ?_
  refine g_xld C hX hbl hbA (fin' (n := N) rfl (by omega) (by omega)) dL_law_202 ?_
  refine g_ti v4 (by rw [ev4]) ?_
  refine g_callVi C (n := 2) (As := [.int v2, .int v4]) (st := []) (s_X11_draw l D ad cs _ _ v2 v4 hm.1 ) gl_X11_draw rfl rfl rfl (by decide +kernel) ⟨Nat.le_of_ble_eq_true rfl, Nat.le_of_ble_eq_true rfl⟩ rfl (Nat.le_of_ble_eq_true rfl) ⟨Nat.le_of_ble_eq_true rfl, Nat.le_of_ble_eq_true rfl⟩ (by decide) (ce_model ad cs _ _) rfl rfl dL_law_203 (fun r8 M9 L10 hr8 => ?_)
  obtain ⟨hA, hI2, hF2, hG2⟩ := hr8
  have hc2 : vC M9 = vC M6 := vC_lo (fun k i hk => hF2 k i (by omega))
  obtain ⟨heq, hrel⟩ := pair (A := fun V => A_draw V v2 v4) hJ.2.2 hv hc2 hans hA
  have h3 : AI3 (vR M9) := by have h9 := AI3_draw h3m v2 v4; rw [hA] at h9; exact h9
  have hL : JL M9 := JL_k (fun k i hk => (hF2 k i (by omega)).trans (hF1 k i (by omega))) hL
  have hJ : JV M9 := ⟨hI1.of (fun k hq => funext (fun i => hF2 k i (by omega))), ⟨hI2, (by have h9 := AI_draw hm.2.1 v2 v4; rw [hA] at h9; exact h9), (tr_k hm.2.2.1 (funext (fun i => hF2 273 i (by omega))) (funext (fun i => hF2 274 i (by omega)))), (by have h9 := AI2_draw hm.2.2.2 v2 v4; rw [hA] at h9; exact h9)⟩, hrel⟩
  refine g_pop C dL_law_206 rfl ?_
  refine g_goto C 1067 dL_law_207 (by decide) ?_
  exact K _ _ ⟨hJ, h3, hL⟩
set_option maxHeartbeats 4000000 in
set_option maxRecDepth 100000 in
theorem law_c2 {p : Program} {l : Launch} {e : Env} {s : State} {m : MethodId} {below : List Frame} {meth : Method} {c : Code} {D : va_G} {ad : Nat → Nat} {cs : Nat → ClassId} {b : Nat} {xs : Nat → Int32} (C : Cx p s m #[Value.ref b] meth c code 4 lw_tbl RL D ad cs) (hr : meth.sig.returnType = ret) {N : Nat} (hN : N ≤ 3072) (hX : va_X b N xs s s.heap) (hbl : b < s.heap.size) (hbA : ¬ Ar ad b) (hnew : ∀ k, k < 297 → s.heap.size ≤ ad k) {i : Int32} (hi0 : 0 ≤ i.toInt) (hi1 : i.toInt + 6 ≤ (N : Int)) (M : MI) (L : ML) (hW : JW M) (K : ∀ M9 L9, JW M9 → G p l e room_1 s m #[Value.ref b] below meth c 297 6915 (lw_Z below #[Value.ref b] s) D ad cs 4 M9 L9 1067 [(3, .int i), (2, .ref (ad 258)), (1, .ref (ad 0)), (0, .ref b)] []) : G p l e room_1 s m #[Value.ref b] below meth c 297 6915 (lw_Z below #[Value.ref b] s) D ad cs 4 M L 210 [(3, .int i), (2, .ref (ad 258)), (1, .ref (ad 0)), (0, .ref b)] [] := by
  obtain ⟨hJ, h3, hL⟩ := hW
  refine g_aload_n C 2 dL_law_210 rfl ?_
  refine g_aload_n C 3 dL_law_211 rfl ?_
  refine g_iload_n C 0 dL_law_212 rfl ?_
  refine g_iconst C 1 dL_law_213 (by decide) ?_
  refine g_iadd C dL_law_214 ?_
  refine g_ni (fun v1 ev1 => ?_)
  have fv1 := fadd rfl (by decide : (1 : Int32).toInt = 1) ev1 (by omega) (by omega)
  refine g_xld C hX hbl hbA (fin' (n := N) rfl (by omega) (by omega)) dL_law_215 ?_
  refine g_ni (fun v2 ev2 => ?_)
  refine g_callVi C (n := 1) (As := [.int v2]) (st := []) (v_X10_drawn l D ad cs _ _ v2 hJ.1 ) gl_X10_drawn rfl rfl rfl (by decide +kernel) ⟨Nat.le_of_ble_eq_true rfl, Nat.le_of_ble_eq_true rfl⟩ rfl (Nat.le_of_ble_eq_true rfl) ⟨Nat.le_of_ble_eq_true rfl, Nat.le_of_ble_eq_true rfl⟩ (by decide) (ce_house ad cs _ _) rfl rfl dL_law_216 (fun r3 M4 L5 hr3 => ?_)
  obtain ⟨hq1, hq2, hans⟩ := hr3
  obtain rfl := hq1.symm
  obtain rfl := hq2.symm
  refine g_pop C dL_law_219 rfl ?_
  refine g_aload_n C 1 dL_law_220 rfl ?_
  refine g_aload_n C 3 dL_law_221 rfl ?_
  refine g_iload_n C 0 dL_law_222 rfl ?_
  refine g_iconst C 1 dL_law_223 (by decide) ?_
  refine g_iadd C dL_law_224 ?_
  refine g_ti v1 (by rw [ev1]) ?_
  refine g_xld C hX hbl hbA (fin' (n := N) rfl (by omega) (by omega)) dL_law_225 ?_
  refine g_ti v2 (by rw [ev2]) ?_
  refine g_callVi C (n := 1) (As := [.int v2]) (st := []) (s_X11_drawn l D ad cs _ _ v2 hJ.2.1.1 ) gl_X11_drawn rfl rfl rfl (by decide +kernel) ⟨Nat.le_of_ble_eq_true rfl, Nat.le_of_ble_eq_true rfl⟩ rfl (Nat.le_of_ble_eq_true rfl) ⟨Nat.le_of_ble_eq_true rfl, Nat.le_of_ble_eq_true rfl⟩ (by decide) (ce_model ad cs _ _) rfl rfl dL_law_226 (fun r6 M7 L8 hr6 => ?_)
  obtain ⟨hq1, hq2, hA⟩ := hr6
  obtain rfl := hq1.symm
  obtain rfl := hq2.symm
  have heq : r3 = r6 := by rw [hans, hA, hJ.2.2]
  refine g_pop C dL_law_229 rfl ?_
  refine g_goto C 1067 dL_law_230 (by decide) ?_
  exact K _ _ ⟨hJ, h3, hL⟩
set_option maxHeartbeats 4000000 in
set_option maxRecDepth 100000 in
theorem law_c3 {p : Program} {l : Launch} {e : Env} {s : State} {m : MethodId} {below : List Frame} {meth : Method} {c : Code} {D : va_G} {ad : Nat → Nat} {cs : Nat → ClassId} {b : Nat} {xs : Nat → Int32} (C : Cx p s m #[Value.ref b] meth c code 4 lw_tbl RL D ad cs) (hr : meth.sig.returnType = ret) {N : Nat} (hN : N ≤ 3072) (hX : va_X b N xs s s.heap) (hbl : b < s.heap.size) (hbA : ¬ Ar ad b) (hnew : ∀ k, k < 297 → s.heap.size ≤ ad k) {i : Int32} (hi0 : 0 ≤ i.toInt) (hi1 : i.toInt + 6 ≤ (N : Int)) (M : MI) (L : ML) (hW : JW M) (K : ∀ M9 L9, JW M9 → G p l e room_1 s m #[Value.ref b] below meth c 297 6915 (lw_Z below #[Value.ref b] s) D ad cs 4 M9 L9 1067 [(3, .int i), (2, .ref (ad 258)), (1, .ref (ad 0)), (0, .ref b)] []) : G p l e room_1 s m #[Value.ref b] below meth c 297 6915 (lw_Z below #[Value.ref b] s) D ad cs 4 M L 233 [(3, .int i), (2, .ref (ad 258)), (1, .ref (ad 0)), (0, .ref b)] [] := by
  obtain ⟨hJ, h3, hL⟩ := hW
  refine g_aload_n C 2 dL_law_233 rfl ?_
  refine g_aload_n C 3 dL_law_234 rfl ?_
  refine g_iload_n C 0 dL_law_235 rfl ?_
  refine g_iconst C 1 dL_law_236 (by decide) ?_
  refine g_iadd C dL_law_237 ?_
  refine g_ni (fun v1 ev1 => ?_)
  have fv1 := fadd rfl (by decide : (1 : Int32).toInt = 1) ev1 (by omega) (by omega)
  refine g_xld C hX hbl hbA (fin' (n := N) rfl (by omega) (by omega)) dL_law_238 ?_
  refine g_ni (fun v2 ev2 => ?_)
  refine g_aload_n C 3 dL_law_239 rfl ?_
  refine g_iload_n C 0 dL_law_240 rfl ?_
  refine g_iconst C 2 dL_law_241 (by decide) ?_
  refine g_iadd C dL_law_242 ?_
  refine g_ni (fun v3 ev3 => ?_)
  have fv3 := fadd rfl (by decide : (2 : Int32).toInt = 2) ev3 (by omega) (by omega)
  refine g_xld C hX hbl hbA (fin' (n := N) rfl (by omega) (by omega)) dL_law_243 ?_
  refine g_ni (fun v4 ev4 => ?_)
  refine g_callVi C (n := 2) (As := [.int v2, .int v4]) (st := []) (v_X10_ballot l D ad cs _ _ v2 v4 hJ.1 ) gl_X10_ballot rfl rfl rfl (by decide +kernel) ⟨Nat.le_of_ble_eq_true rfl, Nat.le_of_ble_eq_true rfl⟩ rfl (Nat.le_of_ble_eq_true rfl) ⟨Nat.le_of_ble_eq_true rfl, Nat.le_of_ble_eq_true rfl⟩ (by decide) (ce_house ad cs _ _) rfl rfl dL_law_244 (fun r5 M6 L7 hr5 => ?_)
  obtain ⟨hans, hI1, hF1, hG1⟩ := hr5
  obtain ⟨hm, hv⟩ := JM_mid hJ.2.1 (fun k i hk => hF1 k i (by omega))
  have h3m : AI3 (vR M6) := by rw [hv]; exact h3
  refine g_pop C dL_law_247 rfl ?_
  refine g_aload_n C 1 dL_law_248 rfl ?_
  refine g_aload_n C 3 dL_law_249 rfl ?_
  refine g_iload_n C 0 dL_law_250 rfl ?_
  refine g_iconst C 1 dL_law_251 (by decide) ?_
  refine g_iadd C dL_law_252 ?_
  refine g_ti v1 (by rw [ev1]) ?_
  refine g_xld C hX hbl hbA (fin' (n := N) rfl (by omega) (by omega)) dL_law_253 ?_
  refine g_ti v2 (by rw [ev2]) ?_
  refine g_aload_n C 3 dL_law_254 rfl ?_
  refine g_iload_n C 0 dL_law_255 rfl ?_
  refine g_iconst C 2 dL_law_256 (by decide) ?_
  refine g_iadd C dL_law_257 ?_
  refine g_ti v3 (by rw [ev3]) ?_
  refine g_xld C hX hbl hbA (fin' (n := N) rfl (by omega) (by omega)) dL_law_258 ?_
  refine g_ti v4 (by rw [ev4]) ?_
  refine g_callVi C (n := 2) (As := [.int v2, .int v4]) (st := []) (s_X11_ballot l D ad cs _ _ v2 v4 hm.1 ) gl_X11_ballot rfl rfl rfl (by decide +kernel) ⟨Nat.le_of_ble_eq_true rfl, Nat.le_of_ble_eq_true rfl⟩ rfl (Nat.le_of_ble_eq_true rfl) ⟨Nat.le_of_ble_eq_true rfl, Nat.le_of_ble_eq_true rfl⟩ (by decide) (ce_model ad cs _ _) rfl rfl dL_law_259 (fun r8 M9 L10 hr8 => ?_)
  obtain ⟨hA, hI2, hF2, hG2⟩ := hr8
  have hc2 : vC M9 = vC M6 := vC_lo (fun k i hk => hF2 k i (by omega))
  obtain ⟨heq, hrel⟩ := pair (A := fun V => A_ballot V v2 v4) hJ.2.2 hv hc2 hans hA
  have h3 : AI3 (vR M9) := by have h9 := AI3_ballot h3m v2 v4; rw [hA] at h9; exact h9
  have hL : JL M9 := JL_k (fun k i hk => (hF2 k i (by omega)).trans (hF1 k i (by omega))) hL
  have hJ : JV M9 := ⟨hI1.of (fun k hq => funext (fun i => hF2 k i (by omega))), ⟨hI2, (by have h9 := AI_ballot hm.2.1 (hm.1 258 4).1 (hm.1 258 4).2 v2 v4; rw [hA] at h9; exact h9), (tr_k hm.2.2.1 (funext (fun i => hF2 273 i (by omega))) (funext (fun i => hF2 274 i (by omega)))), (by have h9 := AI2_ballot hm.2.2.2 hm.2.1 (hm.1 258 4).1 (hm.1 258 4).2 v2 v4; rw [hA] at h9; exact h9)⟩, hrel⟩
  refine g_pop C dL_law_262 rfl ?_
  refine g_goto C 1067 dL_law_263 (by decide) ?_
  exact K _ _ ⟨hJ, h3, hL⟩
set_option maxHeartbeats 4000000 in
set_option maxRecDepth 100000 in
theorem law_c4 {p : Program} {l : Launch} {e : Env} {s : State} {m : MethodId} {below : List Frame} {meth : Method} {c : Code} {D : va_G} {ad : Nat → Nat} {cs : Nat → ClassId} {b : Nat} {xs : Nat → Int32} (C : Cx p s m #[Value.ref b] meth c code 4 lw_tbl RL D ad cs) (hr : meth.sig.returnType = ret) {N : Nat} (hN : N ≤ 3072) (hX : va_X b N xs s s.heap) (hbl : b < s.heap.size) (hbA : ¬ Ar ad b) (hnew : ∀ k, k < 297 → s.heap.size ≤ ad k) {i : Int32} (hi0 : 0 ≤ i.toInt) (hi1 : i.toInt + 6 ≤ (N : Int)) (M : MI) (L : ML) (hW : JW M) (K : ∀ M9 L9, JW M9 → G p l e room_1 s m #[Value.ref b] below meth c 297 6915 (lw_Z below #[Value.ref b] s) D ad cs 4 M9 L9 1067 [(3, .int i), (2, .ref (ad 258)), (1, .ref (ad 0)), (0, .ref b)] []) : G p l e room_1 s m #[Value.ref b] below meth c 297 6915 (lw_Z below #[Value.ref b] s) D ad cs 4 M L 266 [(3, .int i), (2, .ref (ad 258)), (1, .ref (ad 0)), (0, .ref b)] [] := by
  obtain ⟨hJ, h3, hL⟩ := hW
  refine g_aload_n C 2 dL_law_266 rfl ?_
  refine g_aload_n C 3 dL_law_267 rfl ?_
  refine g_iload_n C 0 dL_law_268 rfl ?_
  refine g_iconst C 1 dL_law_269 (by decide) ?_
  refine g_iadd C dL_law_270 ?_
  refine g_ni (fun v1 ev1 => ?_)
  have fv1 := fadd rfl (by decide : (1 : Int32).toInt = 1) ev1 (by omega) (by omega)
  refine g_xld C hX hbl hbA (fin' (n := N) rfl (by omega) (by omega)) dL_law_271 ?_
  refine g_ni (fun v2 ev2 => ?_)
  refine g_aload_n C 3 dL_law_272 rfl ?_
  refine g_iload_n C 0 dL_law_273 rfl ?_
  refine g_iconst C 2 dL_law_274 (by decide) ?_
  refine g_iadd C dL_law_275 ?_
  refine g_ni (fun v3 ev3 => ?_)
  have fv3 := fadd rfl (by decide : (2 : Int32).toInt = 2) ev3 (by omega) (by omega)
  refine g_xld C hX hbl hbA (fin' (n := N) rfl (by omega) (by omega)) dL_law_276 ?_
  refine g_ni (fun v4 ev4 => ?_)
  refine g_callVi C (n := 2) (As := [.int v2, .int v4]) (st := []) (v_X10_rank l D ad cs _ _ v2 v4 hJ.1 (c_S hJ) (c_P hJ) (c_O hJ)) gl_X10_rank rfl rfl rfl (by decide +kernel) ⟨Nat.le_of_ble_eq_true rfl, Nat.le_of_ble_eq_true rfl⟩ rfl (Nat.le_of_ble_eq_true rfl) ⟨Nat.le_of_ble_eq_true rfl, Nat.le_of_ble_eq_true rfl⟩ (by decide) (ce_house ad cs _ _) rfl rfl dL_law_277 (fun r5 M6 L7 hr5 => ?_)
  obtain ⟨hans, hI1, hF1, hG1⟩ := hr5
  obtain ⟨hm, hv⟩ := JM_mid hJ.2.1 (fun k i hk => hF1 k i (by omega))
  have h3m : AI3 (vR M6) := by rw [hv]; exact h3
  refine g_pop C dL_law_280 rfl ?_
  refine g_aload_n C 1 dL_law_281 rfl ?_
  refine g_aload_n C 3 dL_law_282 rfl ?_
  refine g_iload_n C 0 dL_law_283 rfl ?_
  refine g_iconst C 1 dL_law_284 (by decide) ?_
  refine g_iadd C dL_law_285 ?_
  refine g_ti v1 (by rw [ev1]) ?_
  refine g_xld C hX hbl hbA (fin' (n := N) rfl (by omega) (by omega)) dL_law_286 ?_
  refine g_ti v2 (by rw [ev2]) ?_
  refine g_aload_n C 3 dL_law_287 rfl ?_
  refine g_iload_n C 0 dL_law_288 rfl ?_
  refine g_iconst C 2 dL_law_289 (by decide) ?_
  refine g_iadd C dL_law_290 ?_
  refine g_ti v3 (by rw [ev3]) ?_
  refine g_xld C hX hbl hbA (fin' (n := N) rfl (by omega) (by omega)) dL_law_291 ?_
  refine g_ti v4 (by rw [ev4]) ?_
  refine g_callVi C (n := 2) (As := [.int v2, .int v4]) (st := []) (s_X11_rank2 l D ad cs _ _ v2 v4 hm.1 (fun hb9 hc9 hp9 => JM_rank hm hb9 hc9 hp9)) gl_X11_rank rfl rfl rfl (by decide +kernel) ⟨Nat.le_of_ble_eq_true rfl, Nat.le_of_ble_eq_true rfl⟩ rfl (Nat.le_of_ble_eq_true rfl) ⟨Nat.le_of_ble_eq_true rfl, Nat.le_of_ble_eq_true rfl⟩ (by decide) (ce_model ad cs _ _) rfl rfl dL_law_292 (fun r8 M9 L10 hr8 => ?_)
  obtain ⟨hA, hI2, hF2, hG2⟩ := hr8
  have hc2 : vC M9 = vC M6 := vC_lo (fun k i hk => hF2 k i (by omega))
  obtain ⟨heq, hrel⟩ := pair (A := fun V => A_rank V v2 v4) hJ.2.2 hv hc2 hans hA
  have h3 : AI3 (vR M9) := by have h9 := AI3_rank h3m hm.2.1 (hm.1 258 4).2 (hm.1 258 2).2 (fun i => hm.1 264 i) (fun b => hm.1 263 b) v2 v4; rw [hA] at h9; exact h9
  have hL : JL M9 := JL_k (fun k i hk => (hF2 k i (by omega)).trans (hF1 k i (by omega))) hL
  have hJ : JV M9 := ⟨hI1.of (fun k hq => funext (fun i => hF2 k i (by omega))), ⟨hI2, (by have h9 := AI_rank hm.2.1 (hm.1 258 4).2 (hm.1 258 2).2 (fun i => hm.1 264 i) (fun b => hm.1 263 b) v2 v4; rw [hA] at h9; exact h9), (tr_k hm.2.2.1 (funext (fun i => hF2 273 i (by omega))) (funext (fun i => hF2 274 i (by omega)))), (by have h9 := AI2_rank hm.2.2.2 hm.2.1 (hm.1 258 4).2 (hm.1 258 2).2 (fun i => hm.1 264 i) (fun b => hm.1 263 b) v2 v4; rw [hA] at h9; exact h9)⟩, hrel⟩
  refine g_pop C dL_law_295 rfl ?_
  refine g_goto C 1067 dL_law_296 (by decide) ?_
  exact K _ _ ⟨hJ, h3, hL⟩
set_option maxHeartbeats 4000000 in
set_option maxRecDepth 100000 in
theorem law_c5 {p : Program} {l : Launch} {e : Env} {s : State} {m : MethodId} {below : List Frame} {meth : Method} {c : Code} {D : va_G} {ad : Nat → Nat} {cs : Nat → ClassId} {b : Nat} {xs : Nat → Int32} (C : Cx p s m #[Value.ref b] meth c code 4 lw_tbl RL D ad cs) (hr : meth.sig.returnType = ret) {N : Nat} (hN : N ≤ 3072) (hX : va_X b N xs s s.heap) (hbl : b < s.heap.size) (hbA : ¬ Ar ad b) (hnew : ∀ k, k < 297 → s.heap.size ≤ ad k) {i : Int32} (hi0 : 0 ≤ i.toInt) (hi1 : i.toInt + 6 ≤ (N : Int)) (M : MI) (L : ML) (hW : JW M) (K : ∀ M9 L9, JW M9 → G p l e room_1 s m #[Value.ref b] below meth c 297 6915 (lw_Z below #[Value.ref b] s) D ad cs 4 M9 L9 1067 [(3, .int i), (2, .ref (ad 258)), (1, .ref (ad 0)), (0, .ref b)] []) : G p l e room_1 s m #[Value.ref b] below meth c 297 6915 (lw_Z below #[Value.ref b] s) D ad cs 4 M L 299 [(3, .int i), (2, .ref (ad 258)), (1, .ref (ad 0)), (0, .ref b)] [] := by
  obtain ⟨hJ, h3, hL⟩ := hW
  refine g_aload_n C 2 dL_law_299 rfl ?_
  refine g_aload_n C 3 dL_law_300 rfl ?_
  refine g_iload_n C 0 dL_law_301 rfl ?_
  refine g_iconst C 1 dL_law_302 (by decide) ?_
  refine g_iadd C dL_law_303 ?_
  refine g_ni (fun v1 ev1 => ?_)
  have fv1 := fadd rfl (by decide : (1 : Int32).toInt = 1) ev1 (by omega) (by omega)
  refine g_xld C hX hbl hbA (fin' (n := N) rfl (by omega) (by omega)) dL_law_304 ?_
  refine g_ni (fun v2 ev2 => ?_)
  refine g_aload_n C 3 dL_law_305 rfl ?_
  refine g_iload_n C 0 dL_law_306 rfl ?_
  refine g_iconst C 2 dL_law_307 (by decide) ?_
  refine g_iadd C dL_law_308 ?_
  refine g_ni (fun v3 ev3 => ?_)
  have fv3 := fadd rfl (by decide : (2 : Int32).toInt = 2) ev3 (by omega) (by omega)
  refine g_xld C hX hbl hbA (fin' (n := N) rfl (by omega) (by omega)) dL_law_309 ?_
  refine g_ni (fun v4 ev4 => ?_)
  refine g_aload_n C 3 dL_law_310 rfl ?_
  refine g_iload_n C 0 dL_law_311 rfl ?_
  refine g_iconst C 3 dL_law_312 (by decide) ?_
  refine g_iadd C dL_law_313 ?_
  refine g_ni (fun v5 ev5 => ?_)
  have fv5 := fadd rfl (by decide : (3 : Int32).toInt = 3) ev5 (by omega) (by omega)
  refine g_xld C hX hbl hbA (fin' (n := N) rfl (by omega) (by omega)) dL_law_314 ?_
  refine g_ni (fun v6 ev6 => ?_)
  refine g_callVi C (n := 3) (As := [.int v2, .int v4, .int v6]) (st := []) (v_X10_score l D ad cs _ _ v2 v4 v6 hJ.1 (c_S hJ)) gl_X10_score rfl rfl rfl (by decide +kernel) ⟨Nat.le_of_ble_eq_true rfl, Nat.le_of_ble_eq_true rfl⟩ rfl (Nat.le_of_ble_eq_true rfl) ⟨Nat.le_of_ble_eq_true rfl, Nat.le_of_ble_eq_true rfl⟩ (by decide) (ce_house ad cs _ _) rfl rfl dL_law_315 (fun r7 M8 L9 hr7 => ?_)
  obtain ⟨hans, hI1, hF1, hG1⟩ := hr7
  obtain ⟨hm, hv⟩ := JM_mid hJ.2.1 (fun k i hk => hF1 k i (by omega))
  have h3m : AI3 (vR M8) := by rw [hv]; exact h3
  refine g_pop C dL_law_318 rfl ?_
  refine g_aload_n C 1 dL_law_319 rfl ?_
  refine g_aload_n C 3 dL_law_320 rfl ?_
  refine g_iload_n C 0 dL_law_321 rfl ?_
  refine g_iconst C 1 dL_law_322 (by decide) ?_
  refine g_iadd C dL_law_323 ?_
  refine g_ti v1 (by rw [ev1]) ?_
  refine g_xld C hX hbl hbA (fin' (n := N) rfl (by omega) (by omega)) dL_law_324 ?_
  refine g_ti v2 (by rw [ev2]) ?_
  refine g_aload_n C 3 dL_law_325 rfl ?_
  refine g_iload_n C 0 dL_law_326 rfl ?_
  refine g_iconst C 2 dL_law_327 (by decide) ?_
  refine g_iadd C dL_law_328 ?_
  refine g_ti v3 (by rw [ev3]) ?_
  refine g_xld C hX hbl hbA (fin' (n := N) rfl (by omega) (by omega)) dL_law_329 ?_
  refine g_ti v4 (by rw [ev4]) ?_
  refine g_aload_n C 3 dL_law_330 rfl ?_
  refine g_iload_n C 0 dL_law_331 rfl ?_
  refine g_iconst C 3 dL_law_332 (by decide) ?_
  refine g_iadd C dL_law_333 ?_
  refine g_ti v5 (by rw [ev5]) ?_
  refine g_xld C hX hbl hbA (fin' (n := N) rfl (by omega) (by omega)) dL_law_334 ?_
  refine g_ti v6 (by rw [ev6]) ?_
  refine g_callVi C (n := 3) (As := [.int v2, .int v4, .int v6]) (st := []) (s_X11_score l D ad cs _ _ v2 v4 v6 hm.1 ) gl_X11_score rfl rfl rfl (by decide +kernel) ⟨Nat.le_of_ble_eq_true rfl, Nat.le_of_ble_eq_true rfl⟩ rfl (Nat.le_of_ble_eq_true rfl) ⟨Nat.le_of_ble_eq_true rfl, Nat.le_of_ble_eq_true rfl⟩ (by decide) (ce_model ad cs _ _) rfl rfl dL_law_335 (fun r10 M11 L12 hr10 => ?_)
  obtain ⟨hA, hI2, hF2, hG2⟩ := hr10
  have hc2 : vC M11 = vC M8 := vC_lo (fun k i hk => hF2 k i (by omega))
  obtain ⟨heq, hrel⟩ := pair (A := fun V => A_score V v2 v4 v6) hJ.2.2 hv hc2 hans hA
  have h3 : AI3 (vR M11) := by have h9 := AI3_score h3m hm.2.1 (hm.1 258 4).2 (hm.1 258 2).2 (fun b => hm.1 263 b) v2 v4 v6; rw [hA] at h9; exact h9
  have hL : JL M11 := JL_k (fun k i hk => (hF2 k i (by omega)).trans (hF1 k i (by omega))) hL
  have hJ : JV M11 := ⟨hI1.of (fun k hq => funext (fun i => hF2 k i (by omega))), ⟨hI2, (by have h9 := AI_score hm.2.1 (hm.1 258 4).2 (hm.1 258 2).2 (fun b => hm.1 263 b) v2 v4 v6; rw [hA] at h9; exact h9), (tr_k hm.2.2.1 (funext (fun i => hF2 273 i (by omega))) (funext (fun i => hF2 274 i (by omega)))), (by have h9 := AI2_score hm.2.2.2 (hm.1 258 4).2 (hm.1 258 2).2 v2 v4 v6; rw [hA] at h9; exact h9)⟩, hrel⟩
  refine g_pop C dL_law_338 rfl ?_
  refine g_goto C 1067 dL_law_339 (by decide) ?_
  exact K _ _ ⟨hJ, h3, hL⟩
set_option maxHeartbeats 4000000 in
set_option maxRecDepth 100000 in
theorem law_c6 {p : Program} {l : Launch} {e : Env} {s : State} {m : MethodId} {below : List Frame} {meth : Method} {c : Code} {D : va_G} {ad : Nat → Nat} {cs : Nat → ClassId} {b : Nat} {xs : Nat → Int32} (C : Cx p s m #[Value.ref b] meth c code 4 lw_tbl RL D ad cs) (hr : meth.sig.returnType = ret) {N : Nat} (hN : N ≤ 3072) (hX : va_X b N xs s s.heap) (hbl : b < s.heap.size) (hbA : ¬ Ar ad b) (hnew : ∀ k, k < 297 → s.heap.size ≤ ad k) {i : Int32} (hi0 : 0 ≤ i.toInt) (hi1 : i.toInt + 6 ≤ (N : Int)) (M : MI) (L : ML) (hW : JW M) (K : ∀ M9 L9, JW M9 → G p l e room_1 s m #[Value.ref b] below meth c 297 6915 (lw_Z below #[Value.ref b] s) D ad cs 4 M9 L9 1067 [(3, .int i), (2, .ref (ad 258)), (1, .ref (ad 0)), (0, .ref b)] []) : G p l e room_1 s m #[Value.ref b] below meth c 297 6915 (lw_Z below #[Value.ref b] s) D ad cs 4 M L 342 [(3, .int i), (2, .ref (ad 258)), (1, .ref (ad 0)), (0, .ref b)] [] := by
  obtain ⟨hJ, h3, hL⟩ := hW
  refine g_aload_n C 2 dL_law_342 rfl ?_
  refine g_aload_n C 3 dL_law_343 rfl ?_
  refine g_iload_n C 0 dL_law_344 rfl ?_
  refine g_iconst C 1 dL_law_345 (by decide) ?_
  refine g_iadd C dL_law_346 ?_
  refine g_ni (fun v1 ev1 => ?_)
  have fv1 := fadd rfl (by decide : (1 : Int32).toInt = 1) ev1 (by omega) (by omega)
  refine g_xld C hX hbl hbA (fin' (n := N) rfl (by omega) (by omega)) dL_law_347 ?_
  refine g_ni (fun v2 ev2 => ?_)
  refine g_aload_n C 3 dL_law_348 rfl ?_
  refine g_iload_n C 0 dL_law_349 rfl ?_
  refine g_iconst C 2 dL_law_350 (by decide) ?_
  refine g_iadd C dL_law_351 ?_
  refine g_ni (fun v3 ev3 => ?_)
  have fv3 := fadd rfl (by decide : (2 : Int32).toInt = 2) ev3 (by omega) (by omega)
  refine g_xld C hX hbl hbA (fin' (n := N) rfl (by omega) (by omega)) dL_law_352 ?_
  refine g_ni (fun v4 ev4 => ?_)
  refine g_callVi C (n := 2) (As := [.int v2, .int v4]) (st := []) (v_X10_told l D ad cs _ _ v2 v4 hJ.1 (c_S hJ)) gl_X10_told rfl rfl rfl (by decide +kernel) ⟨Nat.le_of_ble_eq_true rfl, Nat.le_of_ble_eq_true rfl⟩ rfl (Nat.le_of_ble_eq_true rfl) ⟨Nat.le_of_ble_eq_true rfl, Nat.le_of_ble_eq_true rfl⟩ (by decide) (ce_house ad cs _ _) rfl rfl dL_law_353 (fun r5 M6 L7 hr5 => ?_)
  obtain ⟨hq1, hq2, hans⟩ := hr5
  obtain rfl := hq1.symm
  obtain rfl := hq2.symm
  refine g_pop C dL_law_356 rfl ?_
  refine g_aload_n C 1 dL_law_357 rfl ?_
  refine g_aload_n C 3 dL_law_358 rfl ?_
  refine g_iload_n C 0 dL_law_359 rfl ?_
  refine g_iconst C 1 dL_law_360 (by decide) ?_
  refine g_iadd C dL_law_361 ?_
  refine g_ti v1 (by rw [ev1]) ?_
  refine g_xld C hX hbl hbA (fin' (n := N) rfl (by omega) (by omega)) dL_law_362 ?_
  refine g_ti v2 (by rw [ev2]) ?_
  refine g_aload_n C 3 dL_law_363 rfl ?_
  refine g_iload_n C 0 dL_law_364 rfl ?_
  refine g_iconst C 2 dL_law_365 (by decide) ?_
  refine g_iadd C dL_law_366 ?_
  refine g_ti v3 (by rw [ev3]) ?_
  refine g_xld C hX hbl hbA (fin' (n := N) rfl (by omega) (by omega)) dL_law_367 ?_
  refine g_ti v4 (by rw [ev4]) ?_
  refine g_callVi C (n := 2) (As := [.int v2, .int v4]) (st := []) (s_X11_told l D ad cs _ _ v2 v4 hJ.2.1.1 ) gl_X11_told rfl rfl rfl (by decide +kernel) ⟨Nat.le_of_ble_eq_true rfl, Nat.le_of_ble_eq_true rfl⟩ rfl (Nat.le_of_ble_eq_true rfl) ⟨Nat.le_of_ble_eq_true rfl, Nat.le_of_ble_eq_true rfl⟩ (by decide) (ce_model ad cs _ _) rfl rfl dL_law_368 (fun r8 M9 L10 hr8 => ?_)
  obtain ⟨hq1, hq2, hA⟩ := hr8
  obtain rfl := hq1.symm
  obtain rfl := hq2.symm
  have heq : r5 = r8 := by rw [hans, hA, hJ.2.2]
  refine g_pop C dL_law_371 rfl ?_
  refine g_goto C 1067 dL_law_372 (by decide) ?_
  exact K _ _ ⟨hJ, h3, hL⟩
set_option maxHeartbeats 4000000 in
set_option maxRecDepth 100000 in
theorem law_c7 {p : Program} {l : Launch} {e : Env} {s : State} {m : MethodId} {below : List Frame} {meth : Method} {c : Code} {D : va_G} {ad : Nat → Nat} {cs : Nat → ClassId} {b : Nat} {xs : Nat → Int32} (C : Cx p s m #[Value.ref b] meth c code 4 lw_tbl RL D ad cs) (hr : meth.sig.returnType = ret) {N : Nat} (hN : N ≤ 3072) (hX : va_X b N xs s s.heap) (hbl : b < s.heap.size) (hbA : ¬ Ar ad b) (hnew : ∀ k, k < 297 → s.heap.size ≤ ad k) {i : Int32} (hi0 : 0 ≤ i.toInt) (hi1 : i.toInt + 6 ≤ (N : Int)) (M : MI) (L : ML) (hW : JW M) (K : ∀ M9 L9, JW M9 → G p l e room_1 s m #[Value.ref b] below meth c 297 6915 (lw_Z below #[Value.ref b] s) D ad cs 4 M9 L9 1067 [(3, .int i), (2, .ref (ad 258)), (1, .ref (ad 0)), (0, .ref b)] []) : G p l e room_1 s m #[Value.ref b] below meth c 297 6915 (lw_Z below #[Value.ref b] s) D ad cs 4 M L 375 [(3, .int i), (2, .ref (ad 258)), (1, .ref (ad 0)), (0, .ref b)] [] := by
  obtain ⟨hJ, h3, hL⟩ := hW
  refine g_aload_n C 2 dL_law_375 rfl ?_
  refine g_aload_n C 3 dL_law_376 rfl ?_
  refine g_iload_n C 0 dL_law_377 rfl ?_
  refine g_iconst C 1 dL_law_378 (by decide) ?_
  refine g_iadd C dL_law_379 ?_
  refine g_ni (fun v1 ev1 => ?_)
  have fv1 := fadd rfl (by decide : (1 : Int32).toInt = 1) ev1 (by omega) (by omega)
  refine g_xld C hX hbl hbA (fin' (n := N) rfl (by omega) (by omega)) dL_law_380 ?_
  refine g_ni (fun v2 ev2 => ?_)
  refine g_aload_n C 3 dL_law_381 rfl ?_
  refine g_iload_n C 0 dL_law_382 rfl ?_
  refine g_iconst C 2 dL_law_383 (by decide) ?_
  refine g_iadd C dL_law_384 ?_
  refine g_ni (fun v3 ev3 => ?_)
  have fv3 := fadd rfl (by decide : (2 : Int32).toInt = 2) ev3 (by omega) (by omega)
  refine g_xld C hX hbl hbA (fin' (n := N) rfl (by omega) (by omega)) dL_law_385 ?_
  refine g_ni (fun v4 ev4 => ?_)
  refine g_callVi C (n := 2) (As := [.int v2, .int v4]) (st := []) (v_X10_is l D ad cs _ _ v2 v4 hJ.1 (c_S hJ)) gl_X10_is rfl rfl rfl (by decide +kernel) ⟨Nat.le_of_ble_eq_true rfl, Nat.le_of_ble_eq_true rfl⟩ rfl (Nat.le_of_ble_eq_true rfl) ⟨Nat.le_of_ble_eq_true rfl, Nat.le_of_ble_eq_true rfl⟩ (by decide) (ce_house ad cs _ _) rfl rfl dL_law_386 (fun r5 M6 L7 hr5 => ?_)
  obtain ⟨hq1, hq2, hans⟩ := hr5
  obtain rfl := hq1.symm
  obtain rfl := hq2.symm
  refine g_pop C dL_law_389 rfl ?_
  refine g_aload_n C 1 dL_law_390 rfl ?_
  refine g_aload_n C 3 dL_law_391 rfl ?_
  refine g_iload_n C 0 dL_law_392 rfl ?_
  refine g_iconst C 1 dL_law_393 (by decide) ?_
  refine g_iadd C dL_law_394 ?_
  refine g_ti v1 (by rw [ev1]) ?_
  refine g_xld C hX hbl hbA (fin' (n := N) rfl (by omega) (by omega)) dL_law_395 ?_
  refine g_ti v2 (by rw [ev2]) ?_
  refine g_aload_n C 3 dL_law_396 rfl ?_
  refine g_iload_n C 0 dL_law_397 rfl ?_
  refine g_iconst C 2 dL_law_398 (by decide) ?_
  refine g_iadd C dL_law_399 ?_
  refine g_ti v3 (by rw [ev3]) ?_
  refine g_xld C hX hbl hbA (fin' (n := N) rfl (by omega) (by omega)) dL_law_400 ?_
  refine g_ti v4 (by rw [ev4]) ?_
  refine g_callVi C (n := 2) (As := [.int v2, .int v4]) (st := []) (s_X11_is l D ad cs _ _ v2 v4 hJ.2.1.1 ) gl_X11_is rfl rfl rfl (by decide +kernel) ⟨Nat.le_of_ble_eq_true rfl, Nat.le_of_ble_eq_true rfl⟩ rfl (Nat.le_of_ble_eq_true rfl) ⟨Nat.le_of_ble_eq_true rfl, Nat.le_of_ble_eq_true rfl⟩ (by decide) (ce_model ad cs _ _) rfl rfl dL_law_401 (fun r8 M9 L10 hr8 => ?_)
  obtain ⟨hq1, hq2, hA⟩ := hr8
  obtain rfl := hq1.symm
  obtain rfl := hq2.symm
  have heq : r5 = r8 := by rw [hans, hA, hJ.2.2]
  refine g_pop C dL_law_404 rfl ?_
  refine g_goto C 1067 dL_law_405 (by decide) ?_
  exact K _ _ ⟨hJ, h3, hL⟩
set_option maxHeartbeats 4000000 in
set_option maxRecDepth 100000 in
theorem law_c8 {p : Program} {l : Launch} {e : Env} {s : State} {m : MethodId} {below : List Frame} {meth : Method} {c : Code} {D : va_G} {ad : Nat → Nat} {cs : Nat → ClassId} {b : Nat} {xs : Nat → Int32} (C : Cx p s m #[Value.ref b] meth c code 4 lw_tbl RL D ad cs) (hr : meth.sig.returnType = ret) {N : Nat} (hN : N ≤ 3072) (hX : va_X b N xs s s.heap) (hbl : b < s.heap.size) (hbA : ¬ Ar ad b) (hnew : ∀ k, k < 297 → s.heap.size ≤ ad k) {i : Int32} (hi0 : 0 ≤ i.toInt) (hi1 : i.toInt + 6 ≤ (N : Int)) (M : MI) (L : ML) (hW : JW M) (K : ∀ M9 L9, JW M9 → G p l e room_1 s m #[Value.ref b] below meth c 297 6915 (lw_Z below #[Value.ref b] s) D ad cs 4 M9 L9 1067 [(3, .int i), (2, .ref (ad 258)), (1, .ref (ad 0)), (0, .ref b)] []) : G p l e room_1 s m #[Value.ref b] below meth c 297 6915 (lw_Z below #[Value.ref b] s) D ad cs 4 M L 408 [(3, .int i), (2, .ref (ad 258)), (1, .ref (ad 0)), (0, .ref b)] [] := by
  obtain ⟨hJ, h3, hL⟩ := hW
  refine g_aload_n C 2 dL_law_408 rfl ?_
  refine g_aload_n C 3 dL_law_409 rfl ?_
  refine g_iload_n C 0 dL_law_410 rfl ?_
  refine g_iconst C 1 dL_law_411 (by decide) ?_
  refine g_iadd C dL_law_412 ?_
  refine g_ni (fun v1 ev1 => ?_)
  have fv1 := fadd rfl (by decide : (1 : Int32).toInt = 1) ev1 (by omega) (by omega)
  refine g_xld C hX hbl hbA (fin' (n := N) rfl (by omega) (by omega)) dL_law_413 ?_
  refine g_ni (fun v2 ev2 => ?_)
  refine g_aload_n C 3 dL_law_414 rfl ?_
  refine g_iload_n C 0 dL_law_415 rfl ?_
  refine g_iconst C 2 dL_law_416 (by decide) ?_
  refine g_iadd C dL_law_417 ?_
  refine g_ni (fun v3 ev3 => ?_)
  have fv3 := fadd rfl (by decide : (2 : Int32).toInt = 2) ev3 (by omega) (by omega)
  refine g_xld C hX hbl hbA (fin' (n := N) rfl (by omega) (by omega)) dL_law_418 ?_
  refine g_ni (fun v4 ev4 => ?_)
  refine g_callVi C (n := 2) (As := [.int v2, .int v4]) (st := []) (v_X10_box l D ad cs _ _ v2 v4 hJ.1 (c_8n hJ)) gl_X10_box rfl rfl rfl (by decide +kernel) ⟨Nat.le_of_ble_eq_true rfl, Nat.le_of_ble_eq_true rfl⟩ rfl (Nat.le_of_ble_eq_true rfl) ⟨Nat.le_of_ble_eq_true rfl, Nat.le_of_ble_eq_true rfl⟩ (by decide) (ce_house ad cs _ _) rfl rfl dL_law_419 (fun r5 M6 L7 hr5 => ?_)
  obtain ⟨hans, hI1, hF1, hG1⟩ := hr5
  obtain ⟨hm, hv⟩ := JM_mid hJ.2.1 (fun k i hk => hF1 k i (by omega))
  have h3m : AI3 (vR M6) := by rw [hv]; exact h3
  refine g_pop C dL_law_422 rfl ?_
  refine g_aload_n C 1 dL_law_423 rfl ?_
  refine g_aload_n C 3 dL_law_424 rfl ?_
  refine g_iload_n C 0 dL_law_425 rfl ?_
  refine g_iconst C 1 dL_law_426 (by decide) ?_
  refine g_iadd C dL_law_427 ?_
  refine g_ti v1 (by rw [ev1]) ?_
  refine g_xld C hX hbl hbA (fin' (n := N) rfl (by omega) (by omega)) dL_law_428 ?_
  refine g_ti v2 (by rw [ev2]) ?_
  refine g_aload_n C 3 dL_law_429 rfl ?_
  refine g_iload_n C 0 dL_law_430 rfl ?_
  refine g_iconst C 2 dL_law_431 (by decide) ?_
  refine g_iadd C dL_law_432 ?_
  refine g_ti v3 (by rw [ev3]) ?_
  refine g_xld C hX hbl hbA (fin' (n := N) rfl (by omega) (by omega)) dL_law_433 ?_
  refine g_ti v4 (by rw [ev4]) ?_
  refine g_callVi C (n := 2) (As := [.int v2, .int v4]) (st := []) (s_X11_box l D ad cs _ _ v2 v4 hm.1 ) gl_X11_box rfl rfl rfl (by decide +kernel) ⟨Nat.le_of_ble_eq_true rfl, Nat.le_of_ble_eq_true rfl⟩ rfl (Nat.le_of_ble_eq_true rfl) ⟨Nat.le_of_ble_eq_true rfl, Nat.le_of_ble_eq_true rfl⟩ (by decide) (ce_model ad cs _ _) rfl rfl dL_law_434 (fun r8 M9 L10 hr8 => ?_)
  obtain ⟨hA, hI2, hF2, hG2⟩ := hr8
  have hc2 : vC M9 = vC M6 := vC_lo (fun k i hk => hF2 k i (by omega))
  obtain ⟨heq, hrel⟩ := pair (A := fun V => A_box V v2 v4) hJ.2.2 hv hc2 hans hA
  have h3 : AI3 (vR M9) := by have h9 := AI3_box h3m v2 v4; rw [hA] at h9; exact h9
  have hL : JL M9 := JL_k (fun k i hk => (hF2 k i (by omega)).trans (hF1 k i (by omega))) hL
  have hJ : JV M9 := ⟨hI1.of (fun k hq => funext (fun i => hF2 k i (by omega))), ⟨hI2, (by have h9 := AI_box hm.2.1 v2 v4; rw [hA] at h9; exact h9), (tr_k hm.2.2.1 (funext (fun i => hF2 273 i (by omega))) (funext (fun i => hF2 274 i (by omega)))), (by have h9 := AI2_box hm.2.2.2 v2 v4; rw [hA] at h9; exact h9)⟩, hrel⟩
  refine g_pop C dL_law_437 rfl ?_
  refine g_goto C 1067 dL_law_438 (by decide) ?_
  exact K _ _ ⟨hJ, h3, hL⟩
set_option maxHeartbeats 4000000 in
set_option maxRecDepth 100000 in
theorem law_c9 {p : Program} {l : Launch} {e : Env} {s : State} {m : MethodId} {below : List Frame} {meth : Method} {c : Code} {D : va_G} {ad : Nat → Nat} {cs : Nat → ClassId} {b : Nat} {xs : Nat → Int32} (C : Cx p s m #[Value.ref b] meth c code 4 lw_tbl RL D ad cs) (hr : meth.sig.returnType = ret) {N : Nat} (hN : N ≤ 3072) (hX : va_X b N xs s s.heap) (hbl : b < s.heap.size) (hbA : ¬ Ar ad b) (hnew : ∀ k, k < 297 → s.heap.size ≤ ad k) {i : Int32} (hi0 : 0 ≤ i.toInt) (hi1 : i.toInt + 6 ≤ (N : Int)) (M : MI) (L : ML) (hW : JW M) (K : ∀ M9 L9, JW M9 → G p l e room_1 s m #[Value.ref b] below meth c 297 6915 (lw_Z below #[Value.ref b] s) D ad cs 4 M9 L9 1067 [(3, .int i), (2, .ref (ad 258)), (1, .ref (ad 0)), (0, .ref b)] []) : G p l e room_1 s m #[Value.ref b] below meth c 297 6915 (lw_Z below #[Value.ref b] s) D ad cs 4 M L 441 [(3, .int i), (2, .ref (ad 258)), (1, .ref (ad 0)), (0, .ref b)] [] := by
  obtain ⟨hJ, h3, hL⟩ := hW
  refine g_aload_n C 2 dL_law_441 rfl ?_
  refine g_aload_n C 3 dL_law_442 rfl ?_
  refine g_iload_n C 0 dL_law_443 rfl ?_
  refine g_iconst C 1 dL_law_444 (by decide) ?_
  refine g_iadd C dL_law_445 ?_
  refine g_ni (fun v1 ev1 => ?_)
  have fv1 := fadd rfl (by decide : (1 : Int32).toInt = 1) ev1 (by omega) (by omega)
  refine g_xld C hX hbl hbA (fin' (n := N) rfl (by omega) (by omega)) dL_law_446 ?_
  refine g_ni (fun v2 ev2 => ?_)
  refine g_aload_n C 3 dL_law_447 rfl ?_
  refine g_iload_n C 0 dL_law_448 rfl ?_
  refine g_iconst C 2 dL_law_449 (by decide) ?_
  refine g_iadd C dL_law_450 ?_
  refine g_ni (fun v3 ev3 => ?_)
  have fv3 := fadd rfl (by decide : (2 : Int32).toInt = 2) ev3 (by omega) (by omega)
  refine g_xld C hX hbl hbA (fin' (n := N) rfl (by omega) (by omega)) dL_law_451 ?_
  refine g_ni (fun v4 ev4 => ?_)
  refine g_aload_n C 3 dL_law_452 rfl ?_
  refine g_iload_n C 0 dL_law_453 rfl ?_
  refine g_iconst C 3 dL_law_454 (by decide) ?_
  refine g_iadd C dL_law_455 ?_
  refine g_ni (fun v5 ev5 => ?_)
  have fv5 := fadd rfl (by decide : (3 : Int32).toInt = 3) ev5 (by omega) (by omega)
  refine g_xld C hX hbl hbA (fin' (n := N) rfl (by omega) (by omega)) dL_law_456 ?_
  refine g_ni (fun v6 ev6 => ?_)
  refine g_callVi C (n := 3) (As := [.int v2, .int v4, .int v6]) (st := []) (v_X10_put l D ad cs _ _ v2 v4 v6 hJ.1 (c_S hJ) (c_XS hJ)) gl_X10_put rfl rfl rfl (by decide +kernel) ⟨Nat.le_of_ble_eq_true rfl, Nat.le_of_ble_eq_true rfl⟩ rfl (Nat.le_of_ble_eq_true rfl) ⟨Nat.le_of_ble_eq_true rfl, Nat.le_of_ble_eq_true rfl⟩ (by decide) (ce_house ad cs _ _) rfl rfl dL_law_457 (fun r7 M8 L9 hr7 => ?_)
  obtain ⟨hans, hI1, hF1, hG1⟩ := hr7
  obtain ⟨hm, hv⟩ := JM_mid hJ.2.1 (fun k i hk => hF1 k i (by omega))
  have h3m : AI3 (vR M8) := by rw [hv]; exact h3
  refine g_pop C dL_law_460 rfl ?_
  refine g_aload_n C 1 dL_law_461 rfl ?_
  refine g_aload_n C 3 dL_law_462 rfl ?_
  refine g_iload_n C 0 dL_law_463 rfl ?_
  refine g_iconst C 1 dL_law_464 (by decide) ?_
  refine g_iadd C dL_law_465 ?_
  refine g_ti v1 (by rw [ev1]) ?_
  refine g_xld C hX hbl hbA (fin' (n := N) rfl (by omega) (by omega)) dL_law_466 ?_
  refine g_ti v2 (by rw [ev2]) ?_
  refine g_aload_n C 3 dL_law_467 rfl ?_
  refine g_iload_n C 0 dL_law_468 rfl ?_
  refine g_iconst C 2 dL_law_469 (by decide) ?_
  refine g_iadd C dL_law_470 ?_
  refine g_ti v3 (by rw [ev3]) ?_
  refine g_xld C hX hbl hbA (fin' (n := N) rfl (by omega) (by omega)) dL_law_471 ?_
  refine g_ti v4 (by rw [ev4]) ?_
  refine g_aload_n C 3 dL_law_472 rfl ?_
  refine g_iload_n C 0 dL_law_473 rfl ?_
  refine g_iconst C 3 dL_law_474 (by decide) ?_
  refine g_iadd C dL_law_475 ?_
  refine g_ti v5 (by rw [ev5]) ?_
  refine g_xld C hX hbl hbA (fin' (n := N) rfl (by omega) (by omega)) dL_law_476 ?_
  refine g_ti v6 (by rw [ev6]) ?_
  refine g_callVi C (n := 3) (As := [.int v2, .int v4, .int v6]) (st := []) (s_X11_put l D ad cs _ _ v2 v4 v6 hm.1 ) gl_X11_put rfl rfl rfl (by decide +kernel) ⟨Nat.le_of_ble_eq_true rfl, Nat.le_of_ble_eq_true rfl⟩ rfl (Nat.le_of_ble_eq_true rfl) ⟨Nat.le_of_ble_eq_true rfl, Nat.le_of_ble_eq_true rfl⟩ (by decide) (ce_model ad cs _ _) rfl rfl dL_law_477 (fun r10 M11 L12 hr10 => ?_)
  obtain ⟨hA, hI2, hF2, hG2⟩ := hr10
  have hc2 : vC M11 = vC M8 := vC_lo (fun k i hk => hF2 k i (by omega))
  obtain ⟨heq, hrel⟩ := pair (A := fun V => A_put V v2 v4 v6) hJ.2.2 hv hc2 hans hA
  have h3 : AI3 (vR M11) := by have h9 := AI3_put h3m v2 v4 v6; rw [hA] at h9; exact h9
  have hL : JL M11 := JL_k (fun k i hk => (hF2 k i (by omega)).trans (hF1 k i (by omega))) hL
  have hJ : JV M11 := ⟨hI1.of (fun k hq => funext (fun i => hF2 k i (by omega))), ⟨hI2, (by have h9 := AI_put hm.2.1 v2 v4 v6; rw [hA] at h9; exact h9), (tr_k hm.2.2.1 (funext (fun i => hF2 273 i (by omega))) (funext (fun i => hF2 274 i (by omega)))), (by have h9 := AI2_put hm.2.2.2 v2 v4 v6; rw [hA] at h9; exact h9)⟩, hrel⟩
  refine g_pop C dL_law_480 rfl ?_
  refine g_goto C 1067 dL_law_481 (by decide) ?_
  exact K _ _ ⟨hJ, h3, hL⟩
set_option maxHeartbeats 4000000 in
set_option maxRecDepth 100000 in
theorem law_c10 {p : Program} {l : Launch} {e : Env} {s : State} {m : MethodId} {below : List Frame} {meth : Method} {c : Code} {D : va_G} {ad : Nat → Nat} {cs : Nat → ClassId} {b : Nat} {xs : Nat → Int32} (C : Cx p s m #[Value.ref b] meth c code 4 lw_tbl RL D ad cs) (hr : meth.sig.returnType = ret) {N : Nat} (hN : N ≤ 3072) (hX : va_X b N xs s s.heap) (hbl : b < s.heap.size) (hbA : ¬ Ar ad b) (hnew : ∀ k, k < 297 → s.heap.size ≤ ad k) {i : Int32} (hi0 : 0 ≤ i.toInt) (hi1 : i.toInt + 6 ≤ (N : Int)) (M : MI) (L : ML) (hW : JW M) (K : ∀ M9 L9, JW M9 → G p l e room_1 s m #[Value.ref b] below meth c 297 6915 (lw_Z below #[Value.ref b] s) D ad cs 4 M9 L9 1067 [(3, .int i), (2, .ref (ad 258)), (1, .ref (ad 0)), (0, .ref b)] []) : G p l e room_1 s m #[Value.ref b] below meth c 297 6915 (lw_Z below #[Value.ref b] s) D ad cs 4 M L 484 [(3, .int i), (2, .ref (ad 258)), (1, .ref (ad 0)), (0, .ref b)] [] := by
  obtain ⟨hJ, h3, hL⟩ := hW
  refine g_aload_n C 2 dL_law_484 rfl ?_
  refine g_aload_n C 3 dL_law_485 rfl ?_
  refine g_iload_n C 0 dL_law_486 rfl ?_
  refine g_iconst C 1 dL_law_487 (by decide) ?_
  refine g_iadd C dL_law_488 ?_
  refine g_ni (fun v1 ev1 => ?_)
  have fv1 := fadd rfl (by decide : (1 : Int32).toInt = 1) ev1 (by omega) (by omega)
  refine g_xld C hX hbl hbA (fin' (n := N) rfl (by omega) (by omega)) dL_law_489 ?_
  refine g_ni (fun v2 ev2 => ?_)
  refine g_aload_n C 3 dL_law_490 rfl ?_
  refine g_iload_n C 0 dL_law_491 rfl ?_
  refine g_iconst C 2 dL_law_492 (by decide) ?_
  refine g_iadd C dL_law_493 ?_
  refine g_ni (fun v3 ev3 => ?_)
  have fv3 := fadd rfl (by decide : (2 : Int32).toInt = 2) ev3 (by omega) (by omega)
  refine g_xld C hX hbl hbA (fin' (n := N) rfl (by omega) (by omega)) dL_law_494 ?_
  refine g_ni (fun v4 ev4 => ?_)
  refine g_aload_n C 3 dL_law_495 rfl ?_
  refine g_iload_n C 0 dL_law_496 rfl ?_
  refine g_iconst C 3 dL_law_497 (by decide) ?_
  refine g_iadd C dL_law_498 ?_
  refine g_ni (fun v5 ev5 => ?_)
  have fv5 := fadd rfl (by decide : (3 : Int32).toInt = 3) ev5 (by omega) (by omega)
  refine g_xld C hX hbl hbA (fin' (n := N) rfl (by omega) (by omega)) dL_law_499 ?_
  refine g_ni (fun v6 ev6 => ?_)
  refine g_aload_n C 3 dL_law_500 rfl ?_
  refine g_iload_n C 0 dL_law_501 rfl ?_
  refine g_iconst C 4 dL_law_502 (by decide) ?_
  refine g_iadd C dL_law_503 ?_
  refine g_ni (fun v7 ev7 => ?_)
  have fv7 := fadd rfl (by decide : (4 : Int32).toInt = 4) ev7 (by omega) (by omega)
  refine g_xld C hX hbl hbA (fin' (n := N) rfl (by omega) (by omega)) dL_law_504 ?_
  refine g_ni (fun v8 ev8 => ?_)
  refine g_aload_n C 3 dL_law_505 rfl ?_
  refine g_iload_n C 0 dL_law_506 rfl ?_
  refine g_iconst C 5 dL_law_507 (by decide) ?_
  refine g_iadd C dL_law_508 ?_
  refine g_ni (fun v9 ev9 => ?_)
  have fv9 := fadd rfl (by decide : (5 : Int32).toInt = 5) ev9 (by omega) (by omega)
  refine g_xld C hX hbl hbA (fin' (n := N) rfl (by omega) (by omega)) dL_law_509 ?_
  refine g_ni (fun v10 ev10 => ?_)
  refine g_callVi C (n := 5) (As := [.int v2, .int v4, .int v6, .int v8, .int v10]) (st := []) (v_X10_pour l D ad cs _ _ v2 v4 v6 v8 v10 hJ.1 ) gl_X10_pour rfl rfl rfl (by decide +kernel) ⟨Nat.le_of_ble_eq_true rfl, Nat.le_of_ble_eq_true rfl⟩ rfl (Nat.le_of_ble_eq_true rfl) ⟨Nat.le_of_ble_eq_true rfl, Nat.le_of_ble_eq_true rfl⟩ (by decide) (ce_house ad cs _ _) rfl rfl dL_law_510 (fun r11 M12 L13 hr11 => ?_)
  obtain ⟨hans, hI1, hF1, hG1⟩ := hr11
  obtain ⟨hm, hv⟩ := JM_mid hJ.2.1 (fun k i hk => hF1 k i (by omega))
  have h3m : AI3 (vR M12) := by rw [hv]; exact h3
  refine g_pop C dL_law_513 rfl ?_
  refine g_aload_n C 1 dL_law_514 rfl ?_
  refine g_aload_n C 3 dL_law_515 rfl ?_
  refine g_iload_n C 0 dL_law_516 rfl ?_
  refine g_iconst C 1 dL_law_517 (by decide) ?_
  refine g_iadd C dL_law_518 ?_
  refine g_ti v1 (by rw [ev1]) ?_
  refine g_xld C hX hbl hbA (fin' (n := N) rfl (by omega) (by omega)) dL_law_519 ?_
  refine g_ti v2 (by rw [ev2]) ?_
  refine g_aload_n C 3 dL_law_520 rfl ?_
  refine g_iload_n C 0 dL_law_521 rfl ?_
  refine g_iconst C 2 dL_law_522 (by decide) ?_
  refine g_iadd C dL_law_523 ?_
  refine g_ti v3 (by rw [ev3]) ?_
  refine g_xld C hX hbl hbA (fin' (n := N) rfl (by omega) (by omega)) dL_law_524 ?_
  refine g_ti v4 (by rw [ev4]) ?_
  refine g_aload_n C 3 dL_law_525 rfl ?_
  refine g_iload_n C 0 dL_law_526 rfl ?_
  refine g_iconst C 3 dL_law_527 (by decide) ?_
  refine g_iadd C dL_law_528 ?_
  refine g_ti v5 (by rw [ev5]) ?_
  refine g_xld C hX hbl hbA (fin' (n := N) rfl (by omega) (by omega)) dL_law_529 ?_
  refine g_ti v6 (by rw [ev6]) ?_
  refine g_aload_n C 3 dL_law_530 rfl ?_
  refine g_iload_n C 0 dL_law_531 rfl ?_
  refine g_iconst C 4 dL_law_532 (by decide) ?_
  refine g_iadd C dL_law_533 ?_
  refine g_ti v7 (by rw [ev7]) ?_
  refine g_xld C hX hbl hbA (fin' (n := N) rfl (by omega) (by omega)) dL_law_534 ?_
  refine g_ti v8 (by rw [ev8]) ?_
  refine g_aload_n C 3 dL_law_535 rfl ?_
  refine g_iload_n C 0 dL_law_536 rfl ?_
  refine g_iconst C 5 dL_law_537 (by decide) ?_
  refine g_iadd C dL_law_538 ?_
  refine g_ti v9 (by rw [ev9]) ?_
  refine g_xld C hX hbl hbA (fin' (n := N) rfl (by omega) (by omega)) dL_law_539 ?_
  refine g_ti v10 (by rw [ev10]) ?_
  refine g_callVi C (n := 5) (As := [.int v2, .int v4, .int v6, .int v8, .int v10]) (st := []) (s_X11_pour l D ad cs _ _ v2 v4 v6 v8 v10 hm.1 ) gl_X11_pour rfl rfl rfl (by decide +kernel) ⟨Nat.le_of_ble_eq_true rfl, Nat.le_of_ble_eq_true rfl⟩ rfl (Nat.le_of_ble_eq_true rfl) ⟨Nat.le_of_ble_eq_true rfl, Nat.le_of_ble_eq_true rfl⟩ (by decide) (ce_model ad cs _ _) rfl rfl dL_law_540 (fun r14 M15 L16 hr14 => ?_)
  obtain ⟨hA, hI2, hF2, hG2⟩ := hr14
  have hc2 : vC M15 = vC M12 := vC_lo (fun k i hk => hF2 k i (by omega))
  obtain ⟨heq, hrel⟩ := pair (A := fun V => A_pour V v2 v4 v6 v8 v10) hJ.2.2 hv hc2 hans hA
  have h3 : AI3 (vR M15) := by have h9 := AI3_pour h3m v2 v4 v6 v8 v10; rw [hA] at h9; exact h9
  have hL : JL M15 := JL_k (fun k i hk => (hF2 k i (by omega)).trans (hF1 k i (by omega))) hL
  have hJ : JV M15 := ⟨hI1.of (fun k hq => funext (fun i => hF2 k i (by omega))), ⟨hI2, (by have h9 := AI_pour hm.2.1 v2 v4 v6 v8 v10; rw [hA] at h9; exact h9), (tr_k hm.2.2.1 (funext (fun i => hF2 273 i (by omega))) (funext (fun i => hF2 274 i (by omega)))), (by have h9 := AI2_pour hm.2.2.2 v2 v4 v6 v8 v10; rw [hA] at h9; exact h9)⟩, hrel⟩
  refine g_pop C dL_law_543 rfl ?_
  refine g_goto C 1067 dL_law_544 (by decide) ?_
  exact K _ _ ⟨hJ, h3, hL⟩
set_option maxHeartbeats 4000000 in
set_option maxRecDepth 100000 in
theorem law_c11 {p : Program} {l : Launch} {e : Env} {s : State} {m : MethodId} {below : List Frame} {meth : Method} {c : Code} {D : va_G} {ad : Nat → Nat} {cs : Nat → ClassId} {b : Nat} {xs : Nat → Int32} (C : Cx p s m #[Value.ref b] meth c code 4 lw_tbl RL D ad cs) (hr : meth.sig.returnType = ret) {N : Nat} (hN : N ≤ 3072) (hX : va_X b N xs s s.heap) (hbl : b < s.heap.size) (hbA : ¬ Ar ad b) (hnew : ∀ k, k < 297 → s.heap.size ≤ ad k) {i : Int32} (hi0 : 0 ≤ i.toInt) (hi1 : i.toInt + 6 ≤ (N : Int)) (M : MI) (L : ML) (hW : JW M) (K : ∀ M9 L9, JW M9 → G p l e room_1 s m #[Value.ref b] below meth c 297 6915 (lw_Z below #[Value.ref b] s) D ad cs 4 M9 L9 1067 [(3, .int i), (2, .ref (ad 258)), (1, .ref (ad 0)), (0, .ref b)] []) : G p l e room_1 s m #[Value.ref b] below meth c 297 6915 (lw_Z below #[Value.ref b] s) D ad cs 4 M L 547 [(3, .int i), (2, .ref (ad 258)), (1, .ref (ad 0)), (0, .ref b)] [] := by
  obtain ⟨hJ, h3, hL⟩ := hW
  refine g_aload_n C 2 dL_law_547 rfl ?_
  refine g_aload_n C 3 dL_law_548 rfl ?_
  refine g_iload_n C 0 dL_law_549 rfl ?_
  refine g_iconst C 1 dL_law_550 (by decide) ?_
  refine g_iadd C dL_law_551 ?_
  refine g_ni (fun v1 ev1 => ?_)
  have fv1 := fadd rfl (by decide : (1 : Int32).toInt = 1) ev1 (by omega) (by omega)
  refine g_xld C hX hbl hbA (fin' (n := N) rfl (by omega) (by omega)) dL_law_552 ?_
  refine g_ni (fun v2 ev2 => ?_)
  refine g_aload_n C 3 dL_law_553 rfl ?_
  refine g_iload_n C 0 dL_law_554 rfl ?_
  refine g_iconst C 2 dL_law_555 (by decide) ?_
  refine g_iadd C dL_law_556 ?_
  refine g_ni (fun v3 ev3 => ?_)
  have fv3 := fadd rfl (by decide : (2 : Int32).toInt = 2) ev3 (by omega) (by omega)
  refine g_xld C hX hbl hbA (fin' (n := N) rfl (by omega) (by omega)) dL_law_557 ?_
  refine g_ni (fun v4 ev4 => ?_)
  refine g_callVi C (n := 2) (As := [.int v2, .int v4]) (st := []) (v_X10_at l D ad cs _ _ v2 v4 hJ.1 ) gl_X10_at rfl rfl rfl (by decide +kernel) ⟨Nat.le_of_ble_eq_true rfl, Nat.le_of_ble_eq_true rfl⟩ rfl (Nat.le_of_ble_eq_true rfl) ⟨Nat.le_of_ble_eq_true rfl, Nat.le_of_ble_eq_true rfl⟩ (by decide) (ce_house ad cs _ _) rfl rfl dL_law_558 (fun r5 M6 L7 hr5 => ?_)
  obtain ⟨hans, hI1, hF1, hG1⟩ := hr5
  obtain ⟨hm, hv⟩ := JM_mid hJ.2.1 (fun k i hk => hF1 k i (by omega))
  have h3m : AI3 (vR M6) := by rw [hv]; exact h3
  refine g_pop C dL_law_561 rfl ?_
  refine g_aload_n C 1 dL_law_562 rfl ?_
  refine g_aload_n C 3 dL_law_563 rfl ?_
  refine g_iload_n C 0 dL_law_564 rfl ?_
  refine g_iconst C 1 dL_law_565 (by decide) ?_
  refine g_iadd C dL_law_566 ?_
  refine g_ti v1 (by rw [ev1]) ?_
  refine g_xld C hX hbl hbA (fin' (n := N) rfl (by omega) (by omega)) dL_law_567 ?_
  refine g_ti v2 (by rw [ev2]) ?_
  refine g_aload_n C 3 dL_law_568 rfl ?_
  refine g_iload_n C 0 dL_law_569 rfl ?_
  refine g_iconst C 2 dL_law_570 (by decide) ?_
  refine g_iadd C dL_law_571 ?_
  refine g_ti v3 (by rw [ev3]) ?_
  refine g_xld C hX hbl hbA (fin' (n := N) rfl (by omega) (by omega)) dL_law_572 ?_
  refine g_ti v4 (by rw [ev4]) ?_
  refine g_callVi C (n := 2) (As := [.int v2, .int v4]) (st := []) (s_X11_at l D ad cs _ _ v2 v4 hm.1 ) gl_X11_at rfl rfl rfl (by decide +kernel) ⟨Nat.le_of_ble_eq_true rfl, Nat.le_of_ble_eq_true rfl⟩ rfl (Nat.le_of_ble_eq_true rfl) ⟨Nat.le_of_ble_eq_true rfl, Nat.le_of_ble_eq_true rfl⟩ (by decide) (ce_model ad cs _ _) rfl rfl dL_law_573 (fun r8 M9 L10 hr8 => ?_)
  obtain ⟨hA, hI2, hF2, hG2⟩ := hr8
  have hc2 : vC M9 = vC M6 := vC_lo (fun k i hk => hF2 k i (by omega))
  obtain ⟨heq, hrel⟩ := pair (A := fun V => A_at V v2 v4) hJ.2.2 hv hc2 hans hA
  have h3 : AI3 (vR M9) := by have h9 := AI3_at h3m v2 v4; rw [hA] at h9; exact h9
  have hL : JL M9 := JL_k (fun k i hk => (hF2 k i (by omega)).trans (hF1 k i (by omega))) hL
  have hJ : JV M9 := ⟨hI1.of (fun k hq => funext (fun i => hF2 k i (by omega))), ⟨hI2, (by have h9 := AI_at hm.2.1 v2 v4; rw [hA] at h9; exact h9), (tr_k hm.2.2.1 (funext (fun i => hF2 273 i (by omega))) (funext (fun i => hF2 274 i (by omega)))), (by have h9 := AI2_at hm.2.2.2 v2 v4; rw [hA] at h9; exact h9)⟩, hrel⟩
  refine g_pop C dL_law_576 rfl ?_
  refine g_goto C 1067 dL_law_577 (by decide) ?_
  exact K _ _ ⟨hJ, h3, hL⟩
set_option maxHeartbeats 4000000 in
set_option maxRecDepth 100000 in
theorem law_c12 {p : Program} {l : Launch} {e : Env} {s : State} {m : MethodId} {below : List Frame} {meth : Method} {c : Code} {D : va_G} {ad : Nat → Nat} {cs : Nat → ClassId} {b : Nat} {xs : Nat → Int32} (C : Cx p s m #[Value.ref b] meth c code 4 lw_tbl RL D ad cs) (hr : meth.sig.returnType = ret) {N : Nat} (hN : N ≤ 3072) (hX : va_X b N xs s s.heap) (hbl : b < s.heap.size) (hbA : ¬ Ar ad b) (hnew : ∀ k, k < 297 → s.heap.size ≤ ad k) {i : Int32} (hi0 : 0 ≤ i.toInt) (hi1 : i.toInt + 6 ≤ (N : Int)) (M : MI) (L : ML) (hW : JW M) (K : ∀ M9 L9, JW M9 → G p l e room_1 s m #[Value.ref b] below meth c 297 6915 (lw_Z below #[Value.ref b] s) D ad cs 4 M9 L9 1067 [(3, .int i), (2, .ref (ad 258)), (1, .ref (ad 0)), (0, .ref b)] []) : G p l e room_1 s m #[Value.ref b] below meth c 297 6915 (lw_Z below #[Value.ref b] s) D ad cs 4 M L 580 [(3, .int i), (2, .ref (ad 258)), (1, .ref (ad 0)), (0, .ref b)] [] := by
  obtain ⟨hJ, h3, hL⟩ := hW
  refine g_aload_n C 2 dL_law_580 rfl ?_
  refine g_aload_n C 3 dL_law_581 rfl ?_
  refine g_iload_n C 0 dL_law_582 rfl ?_
  refine g_iconst C 1 dL_law_583 (by decide) ?_
  refine g_iadd C dL_law_584 ?_
  refine g_ni (fun v1 ev1 => ?_)
  have fv1 := fadd rfl (by decide : (1 : Int32).toInt = 1) ev1 (by omega) (by omega)
  refine g_xld C hX hbl hbA (fin' (n := N) rfl (by omega) (by omega)) dL_law_585 ?_
  refine g_ni (fun v2 ev2 => ?_)
  refine g_aload_n C 3 dL_law_586 rfl ?_
  refine g_iload_n C 0 dL_law_587 rfl ?_
  refine g_iconst C 2 dL_law_588 (by decide) ?_
  refine g_iadd C dL_law_589 ?_
  refine g_ni (fun v3 ev3 => ?_)
  have fv3 := fadd rfl (by decide : (2 : Int32).toInt = 2) ev3 (by omega) (by omega)
  refine g_xld C hX hbl hbA (fin' (n := N) rfl (by omega) (by omega)) dL_law_590 ?_
  refine g_ni (fun v4 ev4 => ?_)
  refine g_callVi C (n := 2) (As := [.int v2, .int v4]) (st := []) (v_X10_share l D ad cs _ _ v2 v4 hJ.1 (c_8 hJ) (c_Sh hJ)) gl_X10_share rfl rfl rfl (by decide +kernel) ⟨Nat.le_of_ble_eq_true rfl, Nat.le_of_ble_eq_true rfl⟩ rfl (Nat.le_of_ble_eq_true rfl) ⟨Nat.le_of_ble_eq_true rfl, Nat.le_of_ble_eq_true rfl⟩ (by decide) (ce_house ad cs _ _) rfl rfl dL_law_591 (fun r5 M6 L7 hr5 => ?_)
  obtain ⟨hans, hI1, hF1, hG1⟩ := hr5
  obtain ⟨hm, hv⟩ := JM_mid hJ.2.1 (fun k i hk => hF1 k i (by omega))
  have h3m : AI3 (vR M6) := by rw [hv]; exact h3
  refine g_pop C dL_law_594 rfl ?_
  refine g_aload_n C 1 dL_law_595 rfl ?_
  refine g_aload_n C 3 dL_law_596 rfl ?_
  refine g_iload_n C 0 dL_law_597 rfl ?_
  refine g_iconst C 1 dL_law_598 (by decide) ?_
  refine g_iadd C dL_law_599 ?_
  refine g_ti v1 (by rw [ev1]) ?_
  refine g_xld C hX hbl hbA (fin' (n := N) rfl (by omega) (by omega)) dL_law_600 ?_
  refine g_ti v2 (by rw [ev2]) ?_
  refine g_aload_n C 3 dL_law_601 rfl ?_
  refine g_iload_n C 0 dL_law_602 rfl ?_
  refine g_iconst C 2 dL_law_603 (by decide) ?_
  refine g_iadd C dL_law_604 ?_
  refine g_ti v3 (by rw [ev3]) ?_
  refine g_xld C hX hbl hbA (fin' (n := N) rfl (by omega) (by omega)) dL_law_605 ?_
  refine g_ti v4 (by rw [ev4]) ?_
  refine g_callVi C (n := 2) (As := [.int v2, .int v4]) (st := []) (s_X11_share l D ad cs _ _ v2 v4 hm.1 (fun _ hl9 => JM_share hm hl9)) gl_X11_share rfl rfl rfl (by decide +kernel) ⟨Nat.le_of_ble_eq_true rfl, Nat.le_of_ble_eq_true rfl⟩ rfl (Nat.le_of_ble_eq_true rfl) ⟨Nat.le_of_ble_eq_true rfl, Nat.le_of_ble_eq_true rfl⟩ (by decide) (ce_model ad cs _ _) rfl rfl dL_law_606 (fun r8 M9 L10 hr8 => ?_)
  obtain ⟨hA, hI2, hF2, hG2⟩ := hr8
  have hc2 : vC M9 = vC M6 := vC_lo (fun k i hk => hF2 k i (by omega))
  obtain ⟨heq, hrel⟩ := pair (A := fun V => A_share V v2 v4) hJ.2.2 hv hc2 hans hA
  have h3 : AI3 (vR M9) := by have h9 := AI3_share h3m v2 v4; rw [hA] at h9; exact h9
  have hL : JL M9 := JL_k (fun k i hk => (hF2 k i (by omega)).trans (hF1 k i (by omega))) hL
  have hJ : JV M9 := ⟨hI1.of (fun k hq => funext (fun i => hF2 k i (by omega))), ⟨hI2, (by have h9 := AI_share hm.2.1 v2 v4; rw [hA] at h9; exact h9), (tr_k hm.2.2.1 (funext (fun i => hF2 273 i (by omega))) (funext (fun i => hF2 274 i (by omega)))), (by have h9 := AI2_share hm.2.2.2 v2 v4; rw [hA] at h9; exact h9)⟩, hrel⟩
  refine g_pop C dL_law_609 rfl ?_
  refine g_goto C 1067 dL_law_610 (by decide) ?_
  exact K _ _ ⟨hJ, h3, hL⟩
set_option maxHeartbeats 4000000 in
set_option maxRecDepth 100000 in
theorem law_c13 {p : Program} {l : Launch} {e : Env} {s : State} {m : MethodId} {below : List Frame} {meth : Method} {c : Code} {D : va_G} {ad : Nat → Nat} {cs : Nat → ClassId} {b : Nat} {xs : Nat → Int32} (C : Cx p s m #[Value.ref b] meth c code 4 lw_tbl RL D ad cs) (hr : meth.sig.returnType = ret) {N : Nat} (hN : N ≤ 3072) (hX : va_X b N xs s s.heap) (hbl : b < s.heap.size) (hbA : ¬ Ar ad b) (hnew : ∀ k, k < 297 → s.heap.size ≤ ad k) {i : Int32} (hi0 : 0 ≤ i.toInt) (hi1 : i.toInt + 6 ≤ (N : Int)) (M : MI) (L : ML) (hW : JW M) (K : ∀ M9 L9, JW M9 → G p l e room_1 s m #[Value.ref b] below meth c 297 6915 (lw_Z below #[Value.ref b] s) D ad cs 4 M9 L9 1067 [(3, .int i), (2, .ref (ad 258)), (1, .ref (ad 0)), (0, .ref b)] []) : G p l e room_1 s m #[Value.ref b] below meth c 297 6915 (lw_Z below #[Value.ref b] s) D ad cs 4 M L 613 [(3, .int i), (2, .ref (ad 258)), (1, .ref (ad 0)), (0, .ref b)] [] := by
  obtain ⟨hJ, h3, hL⟩ := hW
  refine g_aload_n C 2 dL_law_613 rfl ?_
  refine g_aload_n C 3 dL_law_614 rfl ?_
  refine g_iload_n C 0 dL_law_615 rfl ?_
  refine g_iconst C 1 dL_law_616 (by decide) ?_
  refine g_iadd C dL_law_617 ?_
  refine g_ni (fun v1 ev1 => ?_)
  have fv1 := fadd rfl (by decide : (1 : Int32).toInt = 1) ev1 (by omega) (by omega)
  refine g_xld C hX hbl hbA (fin' (n := N) rfl (by omega) (by omega)) dL_law_618 ?_
  refine g_ni (fun v2 ev2 => ?_)
  refine g_aload_n C 3 dL_law_619 rfl ?_
  refine g_iload_n C 0 dL_law_620 rfl ?_
  refine g_iconst C 2 dL_law_621 (by decide) ?_
  refine g_iadd C dL_law_622 ?_
  refine g_ni (fun v3 ev3 => ?_)
  have fv3 := fadd rfl (by decide : (2 : Int32).toInt = 2) ev3 (by omega) (by omega)
  refine g_xld C hX hbl hbA (fin' (n := N) rfl (by omega) (by omega)) dL_law_623 ?_
  refine g_ni (fun v4 ev4 => ?_)
  refine g_callVi C (n := 2) (As := [.int v2, .int v4]) (st := []) (v_X10_weight l D ad cs _ _ v2 v4 hJ.1 (c_S hJ) (c_Sm hJ)) gl_X10_weight rfl rfl rfl (by decide +kernel) ⟨Nat.le_of_ble_eq_true rfl, Nat.le_of_ble_eq_true rfl⟩ rfl (Nat.le_of_ble_eq_true rfl) ⟨Nat.le_of_ble_eq_true rfl, Nat.le_of_ble_eq_true rfl⟩ (by decide) (ce_house ad cs _ _) rfl rfl dL_law_624 (fun r5 M6 L7 hr5 => ?_)
  obtain ⟨hans, hI1, hF1, hG1⟩ := hr5
  obtain ⟨hm, hv⟩ := JM_mid hJ.2.1 (fun k i hk => hF1 k i (by omega))
  have h3m : AI3 (vR M6) := by rw [hv]; exact h3
  refine g_pop C dL_law_627 rfl ?_
  refine g_aload_n C 1 dL_law_628 rfl ?_
  refine g_aload_n C 3 dL_law_629 rfl ?_
  refine g_iload_n C 0 dL_law_630 rfl ?_
  refine g_iconst C 1 dL_law_631 (by decide) ?_
  refine g_iadd C dL_law_632 ?_
  refine g_ti v1 (by rw [ev1]) ?_
  refine g_xld C hX hbl hbA (fin' (n := N) rfl (by omega) (by omega)) dL_law_633 ?_
  refine g_ti v2 (by rw [ev2]) ?_
  refine g_aload_n C 3 dL_law_634 rfl ?_
  refine g_iload_n C 0 dL_law_635 rfl ?_
  refine g_iconst C 2 dL_law_636 (by decide) ?_
  refine g_iadd C dL_law_637 ?_
  refine g_ti v3 (by rw [ev3]) ?_
  refine g_xld C hX hbl hbA (fin' (n := N) rfl (by omega) (by omega)) dL_law_638 ?_
  refine g_ti v4 (by rw [ev4]) ?_
  refine g_callVi C (n := 2) (As := [.int v2, .int v4]) (st := []) (s_X11_weight l D ad cs _ _ v2 v4 hm.1 ) gl_X11_weight rfl rfl rfl (by decide +kernel) ⟨Nat.le_of_ble_eq_true rfl, Nat.le_of_ble_eq_true rfl⟩ rfl (Nat.le_of_ble_eq_true rfl) ⟨Nat.le_of_ble_eq_true rfl, Nat.le_of_ble_eq_true rfl⟩ (by decide) (ce_model ad cs _ _) rfl rfl dL_law_639 (fun r8 M9 L10 hr8 => ?_)
  obtain ⟨hA, hI2, hF2, hG2⟩ := hr8
  have hc2 : vC M9 = vC M6 := vC_lo (fun k i hk => hF2 k i (by omega))
  obtain ⟨heq, hrel⟩ := pair (A := fun V => A_weight V v2 v4) hJ.2.2 hv hc2 hans hA
  have h3 : AI3 (vR M9) := by have h9 := AI3_weight h3m v2 v4; rw [hA] at h9; exact h9
  have hL : JL M9 := JL_k (fun k i hk => (hF2 k i (by omega)).trans (hF1 k i (by omega))) hL
  have hJ : JV M9 := ⟨hI1.of (fun k hq => funext (fun i => hF2 k i (by omega))), ⟨hI2, (by have h9 := AI_weight hm.2.1 v2 v4; rw [hA] at h9; exact h9), (tr_k hm.2.2.1 (funext (fun i => hF2 273 i (by omega))) (funext (fun i => hF2 274 i (by omega)))), (by have h9 := AI2_weight hm.2.2.2 v2 v4; rw [hA] at h9; exact h9)⟩, hrel⟩
  refine g_pop C dL_law_642 rfl ?_
  refine g_goto C 1067 dL_law_643 (by decide) ?_
  exact K _ _ ⟨hJ, h3, hL⟩
set_option maxHeartbeats 4000000 in
set_option maxRecDepth 100000 in
theorem law_c14 {p : Program} {l : Launch} {e : Env} {s : State} {m : MethodId} {below : List Frame} {meth : Method} {c : Code} {D : va_G} {ad : Nat → Nat} {cs : Nat → ClassId} {b : Nat} {xs : Nat → Int32} (C : Cx p s m #[Value.ref b] meth c code 4 lw_tbl RL D ad cs) (hr : meth.sig.returnType = ret) {N : Nat} (hN : N ≤ 3072) (hX : va_X b N xs s s.heap) (hbl : b < s.heap.size) (hbA : ¬ Ar ad b) (hnew : ∀ k, k < 297 → s.heap.size ≤ ad k) {i : Int32} (hi0 : 0 ≤ i.toInt) (hi1 : i.toInt + 6 ≤ (N : Int)) (M : MI) (L : ML) (hW : JW M) (K : ∀ M9 L9, JW M9 → G p l e room_1 s m #[Value.ref b] below meth c 297 6915 (lw_Z below #[Value.ref b] s) D ad cs 4 M9 L9 1067 [(3, .int i), (2, .ref (ad 258)), (1, .ref (ad 0)), (0, .ref b)] []) : G p l e room_1 s m #[Value.ref b] below meth c 297 6915 (lw_Z below #[Value.ref b] s) D ad cs 4 M L 646 [(3, .int i), (2, .ref (ad 258)), (1, .ref (ad 0)), (0, .ref b)] [] := by
  obtain ⟨hJ, h3, hL⟩ := hW
  refine g_aload_n C 2 dL_law_646 rfl ?_
  refine g_aload_n C 3 dL_law_647 rfl ?_
  refine g_iload_n C 0 dL_law_648 rfl ?_
  refine g_iconst C 1 dL_law_649 (by decide) ?_
  refine g_iadd C dL_law_650 ?_
  refine g_ni (fun v1 ev1 => ?_)
  have fv1 := fadd rfl (by decide : (1 : Int32).toInt = 1) ev1 (by omega) (by omega)
  refine g_xld C hX hbl hbA (fin' (n := N) rfl (by omega) (by omega)) dL_law_651 ?_
  refine g_ni (fun v2 ev2 => ?_)
  refine g_aload_n C 3 dL_law_652 rfl ?_
  refine g_iload_n C 0 dL_law_653 rfl ?_
  refine g_iconst C 2 dL_law_654 (by decide) ?_
  refine g_iadd C dL_law_655 ?_
  refine g_ni (fun v3 ev3 => ?_)
  have fv3 := fadd rfl (by decide : (2 : Int32).toInt = 2) ev3 (by omega) (by omega)
  refine g_xld C hX hbl hbA (fin' (n := N) rfl (by omega) (by omega)) dL_law_656 ?_
  refine g_ni (fun v4 ev4 => ?_)
  refine g_aload_n C 3 dL_law_657 rfl ?_
  refine g_iload_n C 0 dL_law_658 rfl ?_
  refine g_iconst C 3 dL_law_659 (by decide) ?_
  refine g_iadd C dL_law_660 ?_
  refine g_ni (fun v5 ev5 => ?_)
  have fv5 := fadd rfl (by decide : (3 : Int32).toInt = 3) ev5 (by omega) (by omega)
  refine g_xld C hX hbl hbA (fin' (n := N) rfl (by omega) (by omega)) dL_law_661 ?_
  refine g_ni (fun v6 ev6 => ?_)
  refine g_aload_n C 3 dL_law_662 rfl ?_
  refine g_iload_n C 0 dL_law_663 rfl ?_
  refine g_iconst C 4 dL_law_664 (by decide) ?_
  refine g_iadd C dL_law_665 ?_
  refine g_ni (fun v7 ev7 => ?_)
  have fv7 := fadd rfl (by decide : (4 : Int32).toInt = 4) ev7 (by omega) (by omega)
  refine g_xld C hX hbl hbA (fin' (n := N) rfl (by omega) (by omega)) dL_law_666 ?_
  refine g_ni (fun v8 ev8 => ?_)
  refine g_callVi C (n := 4) (As := [.int v2, .int v4, .int v6, .int v8]) (st := []) (v_X10_method l D ad cs _ _ v2 v4 v6 v8 hJ.1 ) gl_X10_method rfl rfl rfl (by decide +kernel) ⟨Nat.le_of_ble_eq_true rfl, Nat.le_of_ble_eq_true rfl⟩ rfl (Nat.le_of_ble_eq_true rfl) ⟨Nat.le_of_ble_eq_true rfl, Nat.le_of_ble_eq_true rfl⟩ (by decide) (ce_house ad cs _ _) rfl rfl dL_law_667 (fun r9 M10 L11 hr9 => ?_)
  obtain ⟨hans, hI1, hF1, hG1⟩ := hr9
  obtain ⟨hm, hv⟩ := JM_mid hJ.2.1 (fun k i hk => hF1 k i (by omega))
  have h3m : AI3 (vR M10) := by rw [hv]; exact h3
  refine g_pop C dL_law_670 rfl ?_
  refine g_aload_n C 1 dL_law_671 rfl ?_
  refine g_aload_n C 3 dL_law_672 rfl ?_
  refine g_iload_n C 0 dL_law_673 rfl ?_
  refine g_iconst C 1 dL_law_674 (by decide) ?_
  refine g_iadd C dL_law_675 ?_
  refine g_ti v1 (by rw [ev1]) ?_
  refine g_xld C hX hbl hbA (fin' (n := N) rfl (by omega) (by omega)) dL_law_676 ?_
  refine g_ti v2 (by rw [ev2]) ?_
  refine g_aload_n C 3 dL_law_677 rfl ?_
  refine g_iload_n C 0 dL_law_678 rfl ?_
  refine g_iconst C 2 dL_law_679 (by decide) ?_
  refine g_iadd C dL_law_680 ?_
  refine g_ti v3 (by rw [ev3]) ?_
  refine g_xld C hX hbl hbA (fin' (n := N) rfl (by omega) (by omega)) dL_law_681 ?_
  refine g_ti v4 (by rw [ev4]) ?_
  refine g_aload_n C 3 dL_law_682 rfl ?_
  refine g_iload_n C 0 dL_law_683 rfl ?_
  refine g_iconst C 3 dL_law_684 (by decide) ?_
  refine g_iadd C dL_law_685 ?_
  refine g_ti v5 (by rw [ev5]) ?_
  refine g_xld C hX hbl hbA (fin' (n := N) rfl (by omega) (by omega)) dL_law_686 ?_
  refine g_ti v6 (by rw [ev6]) ?_
  refine g_aload_n C 3 dL_law_687 rfl ?_
  refine g_iload_n C 0 dL_law_688 rfl ?_
  refine g_iconst C 4 dL_law_689 (by decide) ?_
  refine g_iadd C dL_law_690 ?_
  refine g_ti v7 (by rw [ev7]) ?_
  refine g_xld C hX hbl hbA (fin' (n := N) rfl (by omega) (by omega)) dL_law_691 ?_
  refine g_ti v8 (by rw [ev8]) ?_
  refine g_callVi C (n := 4) (As := [.int v2, .int v4, .int v6, .int v8]) (st := []) (s_X11_method l D ad cs _ _ v2 v4 v6 v8 hm.1 ) gl_X11_method rfl rfl rfl (by decide +kernel) ⟨Nat.le_of_ble_eq_true rfl, Nat.le_of_ble_eq_true rfl⟩ rfl (Nat.le_of_ble_eq_true rfl) ⟨Nat.le_of_ble_eq_true rfl, Nat.le_of_ble_eq_true rfl⟩ (by decide) (ce_model ad cs _ _) rfl rfl dL_law_692 (fun r12 M13 L14 hr12 => ?_)
  obtain ⟨hA, hI2, hF2, hG2⟩ := hr12
  have hc2 : vC M13 = vC M10 := vC_lo (fun k i hk => hF2 k i (by omega))
  obtain ⟨heq, hrel⟩ := pair (A := fun V => A_method V v2 v4 v6 v8) hJ.2.2 hv hc2 hans hA
  have h3 : AI3 (vR M13) := by have h9 := AI3_method h3m (hm.1 258 14).1 (hm.1 258 14).2 v2 v4 v6 v8; rw [hA] at h9; exact h9
  have hL : JL M13 := JL_k (fun k i hk => (hF2 k i (by omega)).trans (hF1 k i (by omega))) hL
  have hJ : JV M13 := ⟨hI1.of (fun k hq => funext (fun i => hF2 k i (by omega))), ⟨hI2, (by have h9 := AI_method hm.2.1 (hm.1 258 14).1 (hm.1 258 14).2 v2 v4 v6 v8; rw [hA] at h9; exact h9), (tr_k hm.2.2.1 (funext (fun i => hF2 273 i (by omega))) (funext (fun i => hF2 274 i (by omega)))), (by have h9 := AI2_method hm.2.2.2 v2 v4 v6 v8; rw [hA] at h9; exact h9)⟩, hrel⟩
  refine g_pop C dL_law_695 rfl ?_
  refine g_goto C 1067 dL_law_696 (by decide) ?_
  exact K _ _ ⟨hJ, h3, hL⟩
set_option maxHeartbeats 4000000 in
set_option maxRecDepth 100000 in
theorem law_c15 {p : Program} {l : Launch} {e : Env} {s : State} {m : MethodId} {below : List Frame} {meth : Method} {c : Code} {D : va_G} {ad : Nat → Nat} {cs : Nat → ClassId} {b : Nat} {xs : Nat → Int32} (C : Cx p s m #[Value.ref b] meth c code 4 lw_tbl RL D ad cs) (hr : meth.sig.returnType = ret) {N : Nat} (hN : N ≤ 3072) (hX : va_X b N xs s s.heap) (hbl : b < s.heap.size) (hbA : ¬ Ar ad b) (hnew : ∀ k, k < 297 → s.heap.size ≤ ad k) {i : Int32} (hi0 : 0 ≤ i.toInt) (hi1 : i.toInt + 6 ≤ (N : Int)) (M : MI) (L : ML) (hW : JW M) (K : ∀ M9 L9, JW M9 → G p l e room_1 s m #[Value.ref b] below meth c 297 6915 (lw_Z below #[Value.ref b] s) D ad cs 4 M9 L9 1067 [(3, .int i), (2, .ref (ad 258)), (1, .ref (ad 0)), (0, .ref b)] []) : G p l e room_1 s m #[Value.ref b] below meth c 297 6915 (lw_Z below #[Value.ref b] s) D ad cs 4 M L 699 [(3, .int i), (2, .ref (ad 258)), (1, .ref (ad 0)), (0, .ref b)] [] := by
  obtain ⟨hJ, h3, hL⟩ := hW
  refine g_aload_n C 2 dL_law_699 rfl ?_
  refine g_aload_n C 3 dL_law_700 rfl ?_
  refine g_iload_n C 0 dL_law_701 rfl ?_
  refine g_iconst C 1 dL_law_702 (by decide) ?_
  refine g_iadd C dL_law_703 ?_
  refine g_ni (fun v1 ev1 => ?_)
  have fv1 := fadd rfl (by decide : (1 : Int32).toInt = 1) ev1 (by omega) (by omega)
  refine g_xld C hX hbl hbA (fin' (n := N) rfl (by omega) (by omega)) dL_law_704 ?_
  refine g_ni (fun v2 ev2 => ?_)
  refine g_aload_n C 3 dL_law_705 rfl ?_
  refine g_iload_n C 0 dL_law_706 rfl ?_
  refine g_iconst C 2 dL_law_707 (by decide) ?_
  refine g_iadd C dL_law_708 ?_
  refine g_ni (fun v3 ev3 => ?_)
  have fv3 := fadd rfl (by decide : (2 : Int32).toInt = 2) ev3 (by omega) (by omega)
  refine g_xld C hX hbl hbA (fin' (n := N) rfl (by omega) (by omega)) dL_law_709 ?_
  refine g_ni (fun v4 ev4 => ?_)
  refine g_callVi C (n := 2) (As := [.int v2, .int v4]) (st := []) (v_X10_methodOf l D ad cs _ _ v2 v4 hJ.1 ) gl_X10_methodOf rfl rfl rfl (by decide +kernel) ⟨Nat.le_of_ble_eq_true rfl, Nat.le_of_ble_eq_true rfl⟩ rfl (Nat.le_of_ble_eq_true rfl) ⟨Nat.le_of_ble_eq_true rfl, Nat.le_of_ble_eq_true rfl⟩ (by decide) (ce_house ad cs _ _) rfl rfl dL_law_710 (fun r5 M6 L7 hr5 => ?_)
  obtain ⟨hq1, hq2, hans⟩ := hr5
  obtain rfl := hq1.symm
  obtain rfl := hq2.symm
  refine g_pop C dL_law_713 rfl ?_
  refine g_aload_n C 1 dL_law_714 rfl ?_
  refine g_aload_n C 3 dL_law_715 rfl ?_
  refine g_iload_n C 0 dL_law_716 rfl ?_
  refine g_iconst C 1 dL_law_717 (by decide) ?_
  refine g_iadd C dL_law_718 ?_
  refine g_ti v1 (by rw [ev1]) ?_
  refine g_xld C hX hbl hbA (fin' (n := N) rfl (by omega) (by omega)) dL_law_719 ?_
  refine g_ti v2 (by rw [ev2]) ?_
  refine g_aload_n C 3 dL_law_720 rfl ?_
  refine g_iload_n C 0 dL_law_721 rfl ?_
  refine g_iconst C 2 dL_law_722 (by decide) ?_
  refine g_iadd C dL_law_723 ?_
  refine g_ti v3 (by rw [ev3]) ?_
  refine g_xld C hX hbl hbA (fin' (n := N) rfl (by omega) (by omega)) dL_law_724 ?_
  refine g_ti v4 (by rw [ev4]) ?_
  refine g_callVi C (n := 2) (As := [.int v2, .int v4]) (st := []) (s_X11_methodOf l D ad cs _ _ v2 v4 hJ.2.1.1 hJ.2.1.2.2.1) gl_X11_methodOf rfl rfl rfl (by decide +kernel) ⟨Nat.le_of_ble_eq_true rfl, Nat.le_of_ble_eq_true rfl⟩ rfl (Nat.le_of_ble_eq_true rfl) ⟨Nat.le_of_ble_eq_true rfl, Nat.le_of_ble_eq_true rfl⟩ (by decide) (ce_model ad cs _ _) rfl rfl dL_law_725 (fun r8 M9 L10 hr8 => ?_)
  obtain ⟨hq1, hq2, hA⟩ := hr8
  obtain rfl := hq1.symm
  obtain rfl := hq2.symm
  have heq : r5 = r8 := by rw [hans, hA, hJ.2.2]
  refine g_pop C dL_law_728 rfl ?_
  refine g_goto C 1067 dL_law_729 (by decide) ?_
  exact K _ _ ⟨hJ, h3, hL⟩
set_option maxHeartbeats 4000000 in
set_option maxRecDepth 100000 in
theorem law_c16 {p : Program} {l : Launch} {e : Env} {s : State} {m : MethodId} {below : List Frame} {meth : Method} {c : Code} {D : va_G} {ad : Nat → Nat} {cs : Nat → ClassId} {b : Nat} {xs : Nat → Int32} (C : Cx p s m #[Value.ref b] meth c code 4 lw_tbl RL D ad cs) (hr : meth.sig.returnType = ret) {N : Nat} (hN : N ≤ 3072) (hX : va_X b N xs s s.heap) (hbl : b < s.heap.size) (hbA : ¬ Ar ad b) (hnew : ∀ k, k < 297 → s.heap.size ≤ ad k) {i : Int32} (hi0 : 0 ≤ i.toInt) (hi1 : i.toInt + 6 ≤ (N : Int)) (M : MI) (L : ML) (hW : JW M) (K : ∀ M9 L9, JW M9 → G p l e room_1 s m #[Value.ref b] below meth c 297 6915 (lw_Z below #[Value.ref b] s) D ad cs 4 M9 L9 1067 [(3, .int i), (2, .ref (ad 258)), (1, .ref (ad 0)), (0, .ref b)] []) : G p l e room_1 s m #[Value.ref b] below meth c 297 6915 (lw_Z below #[Value.ref b] s) D ad cs 4 M L 732 [(3, .int i), (2, .ref (ad 258)), (1, .ref (ad 0)), (0, .ref b)] [] := by
  obtain ⟨hJ, h3, hL⟩ := hW
  refine g_aload_n C 2 dL_law_732 rfl ?_
  refine g_aload_n C 3 dL_law_733 rfl ?_
  refine g_iload_n C 0 dL_law_734 rfl ?_
  refine g_iconst C 1 dL_law_735 (by decide) ?_
  refine g_iadd C dL_law_736 ?_
  refine g_ni (fun v1 ev1 => ?_)
  have fv1 := fadd rfl (by decide : (1 : Int32).toInt = 1) ev1 (by omega) (by omega)
  refine g_xld C hX hbl hbA (fin' (n := N) rfl (by omega) (by omega)) dL_law_737 ?_
  refine g_ni (fun v2 ev2 => ?_)
  refine g_aload_n C 3 dL_law_738 rfl ?_
  refine g_iload_n C 0 dL_law_739 rfl ?_
  refine g_iconst C 2 dL_law_740 (by decide) ?_
  refine g_iadd C dL_law_741 ?_
  refine g_ni (fun v3 ev3 => ?_)
  have fv3 := fadd rfl (by decide : (2 : Int32).toInt = 2) ev3 (by omega) (by omega)
  refine g_xld C hX hbl hbA (fin' (n := N) rfl (by omega) (by omega)) dL_law_742 ?_
  refine g_ni (fun v4 ev4 => ?_)
  refine g_callVi C (n := 2) (As := [.int v2, .int v4]) (st := []) (v_X10_under l D ad cs _ _ v2 v4 hJ.1 (c_K hJ)) gl_X10_under rfl rfl rfl (by decide +kernel) ⟨Nat.le_of_ble_eq_true rfl, Nat.le_of_ble_eq_true rfl⟩ rfl (Nat.le_of_ble_eq_true rfl) ⟨Nat.le_of_ble_eq_true rfl, Nat.le_of_ble_eq_true rfl⟩ (by decide) (ce_house ad cs _ _) rfl rfl dL_law_743 (fun r5 M6 L7 hr5 => ?_)
  obtain ⟨hq1, hq2, hans⟩ := hr5
  obtain rfl := hq1.symm
  obtain rfl := hq2.symm
  refine g_pop C dL_law_746 rfl ?_
  refine g_aload_n C 1 dL_law_747 rfl ?_
  refine g_aload_n C 3 dL_law_748 rfl ?_
  refine g_iload_n C 0 dL_law_749 rfl ?_
  refine g_iconst C 1 dL_law_750 (by decide) ?_
  refine g_iadd C dL_law_751 ?_
  refine g_ti v1 (by rw [ev1]) ?_
  refine g_xld C hX hbl hbA (fin' (n := N) rfl (by omega) (by omega)) dL_law_752 ?_
  refine g_ti v2 (by rw [ev2]) ?_
  refine g_aload_n C 3 dL_law_753 rfl ?_
  refine g_iload_n C 0 dL_law_754 rfl ?_
  refine g_iconst C 2 dL_law_755 (by decide) ?_
  refine g_iadd C dL_law_756 ?_
  refine g_ti v3 (by rw [ev3]) ?_
  refine g_xld C hX hbl hbA (fin' (n := N) rfl (by omega) (by omega)) dL_law_757 ?_
  refine g_ti v4 (by rw [ev4]) ?_
  refine g_callVi C (n := 2) (As := [.int v2, .int v4]) (st := []) (s_X11_under l D ad cs _ _ v2 v4 hJ.2.1.1 ) gl_X11_under rfl rfl rfl (by decide +kernel) ⟨Nat.le_of_ble_eq_true rfl, Nat.le_of_ble_eq_true rfl⟩ rfl (Nat.le_of_ble_eq_true rfl) ⟨Nat.le_of_ble_eq_true rfl, Nat.le_of_ble_eq_true rfl⟩ (by decide) (ce_model ad cs _ _) rfl rfl dL_law_758 (fun r8 M9 L10 hr8 => ?_)
  obtain ⟨hq1, hq2, hA⟩ := hr8
  obtain rfl := hq1.symm
  obtain rfl := hq2.symm
  have heq : r5 = r8 := by rw [hans, hA, hJ.2.2]
  refine g_pop C dL_law_761 rfl ?_
  refine g_goto C 1067 dL_law_762 (by decide) ?_
  exact K _ _ ⟨hJ, h3, hL⟩
set_option maxHeartbeats 4000000 in
set_option maxRecDepth 100000 in
theorem law_c17 {p : Program} {l : Launch} {e : Env} {s : State} {m : MethodId} {below : List Frame} {meth : Method} {c : Code} {D : va_G} {ad : Nat → Nat} {cs : Nat → ClassId} {b : Nat} {xs : Nat → Int32} (C : Cx p s m #[Value.ref b] meth c code 4 lw_tbl RL D ad cs) (hr : meth.sig.returnType = ret) {N : Nat} (hN : N ≤ 3072) (hX : va_X b N xs s s.heap) (hbl : b < s.heap.size) (hbA : ¬ Ar ad b) (hnew : ∀ k, k < 297 → s.heap.size ≤ ad k) {i : Int32} (hi0 : 0 ≤ i.toInt) (hi1 : i.toInt + 6 ≤ (N : Int)) (M : MI) (L : ML) (hW : JW M) (K : ∀ M9 L9, JW M9 → G p l e room_1 s m #[Value.ref b] below meth c 297 6915 (lw_Z below #[Value.ref b] s) D ad cs 4 M9 L9 1067 [(3, .int i), (2, .ref (ad 258)), (1, .ref (ad 0)), (0, .ref b)] []) : G p l e room_1 s m #[Value.ref b] below meth c 297 6915 (lw_Z below #[Value.ref b] s) D ad cs 4 M L 765 [(3, .int i), (2, .ref (ad 258)), (1, .ref (ad 0)), (0, .ref b)] [] := by
  obtain ⟨hJ, h3, hL⟩ := hW
  refine g_aload_n C 2 dL_law_765 rfl ?_
  refine g_aload_n C 3 dL_law_766 rfl ?_
  refine g_iload_n C 0 dL_law_767 rfl ?_
  refine g_iconst C 1 dL_law_768 (by decide) ?_
  refine g_iadd C dL_law_769 ?_
  refine g_ni (fun v1 ev1 => ?_)
  have fv1 := fadd rfl (by decide : (1 : Int32).toInt = 1) ev1 (by omega) (by omega)
  refine g_xld C hX hbl hbA (fin' (n := N) rfl (by omega) (by omega)) dL_law_770 ?_
  refine g_ni (fun v2 ev2 => ?_)
  refine g_callVi C (n := 1) (As := [.int v2]) (st := []) (v_X10_start l D ad cs _ _ v2 hJ.1 (c_N hJ)) gl_X10_start rfl rfl rfl (by decide +kernel) ⟨Nat.le_of_ble_eq_true rfl, Nat.le_of_ble_eq_true rfl⟩ rfl (Nat.le_of_ble_eq_true rfl) ⟨Nat.le_of_ble_eq_true rfl, Nat.le_of_ble_eq_true rfl⟩ (by decide) (ce_house ad cs _ _) rfl rfl dL_law_771 (fun r3 M4 L5 hr3 => ?_)
  obtain ⟨hans, hI1, hF1, hG1⟩ := hr3
  obtain ⟨hm, hv⟩ := JM_mid hJ.2.1 (fun k i hk => hF1 k i (by omega))
  have h3m : AI3 (vR M4) := by rw [hv]; exact h3
  refine g_pop C dL_law_774 rfl ?_
  refine g_aload_n C 1 dL_law_775 rfl ?_
  refine g_aload_n C 3 dL_law_776 rfl ?_
  refine g_iload_n C 0 dL_law_777 rfl ?_
  refine g_iconst C 1 dL_law_778 (by decide) ?_
  refine g_iadd C dL_law_779 ?_
  refine g_ti v1 (by rw [ev1]) ?_
  refine g_xld C hX hbl hbA (fin' (n := N) rfl (by omega) (by omega)) dL_law_780 ?_
  refine g_ti v2 (by rw [ev2]) ?_
  refine g_callVi C (n := 1) (As := [.int v2]) (st := []) (s_X11_start l D ad cs _ _ v2 hm.1 hm.2.1.2.1 hm.2.2.1) gl_X11_start rfl rfl rfl (by decide +kernel) ⟨Nat.le_of_ble_eq_true rfl, Nat.le_of_ble_eq_true rfl⟩ rfl (Nat.le_of_ble_eq_true rfl) ⟨Nat.le_of_ble_eq_true rfl, Nat.le_of_ble_eq_true rfl⟩ (by decide) (ce_model ad cs _ _) rfl rfl dL_law_781 (fun r6 M7 L8 hr6 => ?_)
  obtain ⟨hA, hI2, hF2, hG2⟩ := hr6
  have hc2 : vC M7 = vC M4 := vC_lo (fun k i hk => hF2 k i (by omega))
  obtain ⟨heq, hrel⟩ := pair (A := fun V => A_start V v2) hJ.2.2 hv hc2 hans hA.1
  have h3 : AI3 (vR M7) := by have h9 := AI3_start h3m hm.2.1.2.1 v2; rw [hA.1] at h9; exact h9
  have hL : JL M7 := JL_k (fun k i hk => (hF2 k i (by omega)).trans (hF1 k i (by omega))) hL
  have hJ : JV M7 := ⟨hI1.of (fun k hq => funext (fun i => hF2 k i (by omega))), ⟨hI2, (by have h9 := AI_start hm.2.1 v2; rw [hA.1] at h9; exact h9), hA.2, (by have h9 := AI2_start hm.2.2.2 v2; rw [hA.1] at h9; exact h9)⟩, hrel⟩
  refine g_pop C dL_law_784 rfl ?_
  refine g_goto C 1067 dL_law_785 (by decide) ?_
  exact K _ _ ⟨hJ, h3, hL⟩
set_option maxHeartbeats 4000000 in
set_option maxRecDepth 100000 in
theorem law_c18 {p : Program} {l : Launch} {e : Env} {s : State} {m : MethodId} {below : List Frame} {meth : Method} {c : Code} {D : va_G} {ad : Nat → Nat} {cs : Nat → ClassId} {b : Nat} {xs : Nat → Int32} (C : Cx p s m #[Value.ref b] meth c code 4 lw_tbl RL D ad cs) (hr : meth.sig.returnType = ret) {N : Nat} (hN : N ≤ 3072) (hX : va_X b N xs s s.heap) (hbl : b < s.heap.size) (hbA : ¬ Ar ad b) (hnew : ∀ k, k < 297 → s.heap.size ≤ ad k) {i : Int32} (hi0 : 0 ≤ i.toInt) (hi1 : i.toInt + 6 ≤ (N : Int)) (M : MI) (L : ML) (hW : JW M) (K : ∀ M9 L9, JW M9 → G p l e room_1 s m #[Value.ref b] below meth c 297 6915 (lw_Z below #[Value.ref b] s) D ad cs 4 M9 L9 1067 [(3, .int i), (2, .ref (ad 258)), (1, .ref (ad 0)), (0, .ref b)] []) : G p l e room_1 s m #[Value.ref b] below meth c 297 6915 (lw_Z below #[Value.ref b] s) D ad cs 4 M L 788 [(3, .int i), (2, .ref (ad 258)), (1, .ref (ad 0)), (0, .ref b)] [] := by
  obtain ⟨hJ, h3, hL⟩ := hW
  refine g_aload_n C 2 dL_law_788 rfl ?_
  refine g_aload_n C 3 dL_law_789 rfl ?_
  refine g_iload_n C 0 dL_law_790 rfl ?_
  refine g_iconst C 1 dL_law_791 (by decide) ?_
  refine g_iadd C dL_law_792 ?_
  refine g_ni (fun v1 ev1 => ?_)
  have fv1 := fadd rfl (by decide : (1 : Int32).toInt = 1) ev1 (by omega) (by omega)
  refine g_xld C hX hbl hbA (fin' (n := N) rfl (by omega) (by omega)) dL_law_793 ?_
  refine g_ni (fun v2 ev2 => ?_)
  refine g_callVi C (n := 1) (As := [.int v2]) (st := []) (v_X10_find l D ad cs _ _ v2 hJ.1 (c_N hJ)) gl_X10_find rfl rfl rfl (by decide +kernel) ⟨Nat.le_of_ble_eq_true rfl, Nat.le_of_ble_eq_true rfl⟩ rfl (Nat.le_of_ble_eq_true rfl) ⟨Nat.le_of_ble_eq_true rfl, Nat.le_of_ble_eq_true rfl⟩ (by decide) (ce_house ad cs _ _) rfl rfl dL_law_794 (fun r3 M4 L5 hr3 => ?_)
  obtain ⟨hans, hI1, hF1, hG1⟩ := hr3
  obtain ⟨hm, hv⟩ := JM_mid hJ.2.1 (fun k i hk => hF1 k i (by omega))
  have h3m : AI3 (vR M4) := by rw [hv]; exact h3
  refine g_pop C dL_law_797 rfl ?_
  refine g_aload_n C 1 dL_law_798 rfl ?_
  refine g_aload_n C 3 dL_law_799 rfl ?_
  refine g_iload_n C 0 dL_law_800 rfl ?_
  refine g_iconst C 1 dL_law_801 (by decide) ?_
  refine g_iadd C dL_law_802 ?_
  refine g_ti v1 (by rw [ev1]) ?_
  refine g_xld C hX hbl hbA (fin' (n := N) rfl (by omega) (by omega)) dL_law_803 ?_
  refine g_ti v2 (by rw [ev2]) ?_
  refine g_callVi C (n := 1) (As := [.int v2]) (st := []) (s_X11_find l D ad cs _ _ v2 hm.1 hm.2.1.2.1 hm.2.2.1 hm.2.1.2.2.1) gl_X11_find rfl rfl rfl (by decide +kernel) ⟨Nat.le_of_ble_eq_true rfl, Nat.le_of_ble_eq_true rfl⟩ rfl (Nat.le_of_ble_eq_true rfl) ⟨Nat.le_of_ble_eq_true rfl, Nat.le_of_ble_eq_true rfl⟩ (by decide) (ce_model ad cs _ _) rfl rfl dL_law_804 (fun r6 M7 L8 hr6 => ?_)
  obtain ⟨hA, hI2, hF2, hG2⟩ := hr6
  have hc2 : vC M7 = vC M4 := vC_lo (fun k i hk => hF2 k i (by omega))
  obtain ⟨heq, hrel⟩ := pair (A := fun V => A_find V v2) hJ.2.2 hv hc2 hans hA.1
  have h3 : AI3 (vR M7) := by have h9 := AI3_find h3m hm.2.1.2.1 (hm.1 258 14).1 v2; rw [hA.1] at h9; exact h9
  have hL : JL M7 := JL_k (fun k i hk => (hF2 k i (by omega)).trans (hF1 k i (by omega))) hL
  have hJ : JV M7 := ⟨hI1.of (fun k hq => funext (fun i => hF2 k i (by omega))), ⟨hI2, (by have h9 := AI_find hm.2.1 v2; rw [hA.1] at h9; exact h9), hA.2, (by have h9 := AI2_find hm.2.2.2 v2; rw [hA.1] at h9; exact h9)⟩, hrel⟩
  refine g_pop C dL_law_807 rfl ?_
  refine g_goto C 1067 dL_law_808 (by decide) ?_
  exact K _ _ ⟨hJ, h3, hL⟩
set_option maxHeartbeats 4000000 in
set_option maxRecDepth 100000 in
theorem law_c19 {p : Program} {l : Launch} {e : Env} {s : State} {m : MethodId} {below : List Frame} {meth : Method} {c : Code} {D : va_G} {ad : Nat → Nat} {cs : Nat → ClassId} {b : Nat} {xs : Nat → Int32} (C : Cx p s m #[Value.ref b] meth c code 4 lw_tbl RL D ad cs) (hr : meth.sig.returnType = ret) {N : Nat} (hN : N ≤ 3072) (hX : va_X b N xs s s.heap) (hbl : b < s.heap.size) (hbA : ¬ Ar ad b) (hnew : ∀ k, k < 297 → s.heap.size ≤ ad k) {i : Int32} (hi0 : 0 ≤ i.toInt) (hi1 : i.toInt + 6 ≤ (N : Int)) (M : MI) (L : ML) (hW : JW M) (K : ∀ M9 L9, JW M9 → G p l e room_1 s m #[Value.ref b] below meth c 297 6915 (lw_Z below #[Value.ref b] s) D ad cs 4 M9 L9 1067 [(3, .int i), (2, .ref (ad 258)), (1, .ref (ad 0)), (0, .ref b)] []) : G p l e room_1 s m #[Value.ref b] below meth c 297 6915 (lw_Z below #[Value.ref b] s) D ad cs 4 M L 811 [(3, .int i), (2, .ref (ad 258)), (1, .ref (ad 0)), (0, .ref b)] [] := by
  obtain ⟨hJ, h3, hL⟩ := hW
  refine g_aload_n C 2 dL_law_811 rfl ?_
  refine g_aload_n C 3 dL_law_812 rfl ?_
  refine g_iload_n C 0 dL_law_813 rfl ?_
  refine g_iconst C 1 dL_law_814 (by decide) ?_
  refine g_iadd C dL_law_815 ?_
  refine g_ni (fun v1 ev1 => ?_)
  have fv1 := fadd rfl (by decide : (1 : Int32).toInt = 1) ev1 (by omega) (by omega)
  refine g_xld C hX hbl hbA (fin' (n := N) rfl (by omega) (by omega)) dL_law_816 ?_
  refine g_ni (fun v2 ev2 => ?_)
  refine g_aload_n C 3 dL_law_817 rfl ?_
  refine g_iload_n C 0 dL_law_818 rfl ?_
  refine g_iconst C 2 dL_law_819 (by decide) ?_
  refine g_iadd C dL_law_820 ?_
  refine g_ni (fun v3 ev3 => ?_)
  have fv3 := fadd rfl (by decide : (2 : Int32).toInt = 2) ev3 (by omega) (by omega)
  refine g_xld C hX hbl hbA (fin' (n := N) rfl (by omega) (by omega)) dL_law_821 ?_
  refine g_ni (fun v4 ev4 => ?_)
  refine g_aload_n C 3 dL_law_822 rfl ?_
  refine g_iload_n C 0 dL_law_823 rfl ?_
  refine g_iconst C 3 dL_law_824 (by decide) ?_
  refine g_iadd C dL_law_825 ?_
  refine g_ni (fun v5 ev5 => ?_)
  have fv5 := fadd rfl (by decide : (3 : Int32).toInt = 3) ev5 (by omega) (by omega)
  refine g_xld C hX hbl hbA (fin' (n := N) rfl (by omega) (by omega)) dL_law_826 ?_
  refine g_ni (fun v6 ev6 => ?_)
  refine g_callVi C (n := 3) (As := [.int v2, .int v4, .int v6]) (st := []) (k_X10_count l D ad cs _ _ v2 v4 v6 hJ.1 (c_K hJ) (c_N hJ) (c_B hJ) (c_8 hJ) (c_S hJ) (c_P3 hJ) (c_A3 hJ h3) (c_ds hJ) (c_l4 hJ h3) (c_rl hJ h3) (c_D hJ) (c_h8 hJ h3) hL.1) gl_X10_count rfl rfl rfl (by decide +kernel) ⟨Nat.le_of_ble_eq_true rfl, Nat.le_of_ble_eq_true rfl⟩ rfl (Nat.le_of_ble_eq_true rfl) ⟨Nat.le_of_ble_eq_true rfl, Nat.le_of_ble_eq_true rfl⟩ (by decide) (ce_house ad cs _ _) rfl rfl dL_law_827 (fun r7 M8 L9 hr7 => ?_)
  obtain ⟨hans, hI1, hF1, hG1⟩ := hr7
  obtain ⟨hm, hv⟩ := JM_mid hJ.2.1 (fun k i hk => hF1 k i (by omega))
  have h3m : AI3 (vR M8) := by rw [hv]; exact h3
  refine g_pop C dL_law_830 rfl ?_
  refine g_aload_n C 1 dL_law_831 rfl ?_
  refine g_aload_n C 3 dL_law_832 rfl ?_
  refine g_iload_n C 0 dL_law_833 rfl ?_
  refine g_iconst C 1 dL_law_834 (by decide) ?_
  refine g_iadd C dL_law_835 ?_
  refine g_ti v1 (by rw [ev1]) ?_
  refine g_xld C hX hbl hbA (fin' (n := N) rfl (by omega) (by omega)) dL_law_836 ?_
  refine g_ti v2 (by rw [ev2]) ?_
  refine g_aload_n C 3 dL_law_837 rfl ?_
  refine g_iload_n C 0 dL_law_838 rfl ?_
  refine g_iconst C 2 dL_law_839 (by decide) ?_
  refine g_iadd C dL_law_840 ?_
  refine g_ti v3 (by rw [ev3]) ?_
  refine g_xld C hX hbl hbA (fin' (n := N) rfl (by omega) (by omega)) dL_law_841 ?_
  refine g_ti v4 (by rw [ev4]) ?_
  refine g_aload_n C 3 dL_law_842 rfl ?_
  refine g_iload_n C 0 dL_law_843 rfl ?_
  refine g_iconst C 3 dL_law_844 (by decide) ?_
  refine g_iadd C dL_law_845 ?_
  refine g_ti v5 (by rw [ev5]) ?_
  refine g_xld C hX hbl hbA (fin' (n := N) rfl (by omega) (by omega)) dL_law_846 ?_
  refine g_ti v6 (by rw [ev6]) ?_
  refine g_callVi C (n := 3) (As := [.int v2, .int v4, .int v6]) (st := []) (k_X11_count l D ad cs _ _ v2 v4 v6 hm.1 hm.2.1.2.1 hm.2.2.1 hm.2.1.2.2.1 hm.2.1.1 (m_8 hm) (m_rl hm h3m) (m_l4 hm h3m)) gl_X11_count rfl rfl rfl (by decide +kernel) ⟨Nat.le_of_ble_eq_true rfl, Nat.le_of_ble_eq_true rfl⟩ rfl (Nat.le_of_ble_eq_true rfl) ⟨Nat.le_of_ble_eq_true rfl, Nat.le_of_ble_eq_true rfl⟩ (by decide) (ce_model ad cs _ _) rfl rfl dL_law_847 (fun r10 M11 L12 hr10 => ?_)
  obtain ⟨hA, hI2, hF2, hG2⟩ := hr10
  have hc2 : vC M11 = vC M8 := vC_lo (fun k i hk => hF2 k i (by omega))
  have hrel : vC M11 = vR M11 := by rw [hc2, ← hans.1, hJ.2.2, ← hv, hA.1]
  have h3 : AI3 (vR M11) := by have h9 := AI3_count h3m hm.2.1.2.1 v2 v4 v6; rw [hA.1] at h9; exact h9
  obtain ⟨heq, hL⟩ := count_rel hJ.2.2 h3 hI2 hL hv (fun k i hk => hF1 k i (by omega)) (fun k i hk => hF2 k i (by omega)) hans.2 hA.1 hA.2.1 hA.2.2.2
  have hJ : JV M11 := ⟨hI1.of (fun k hq => funext (fun i => hF2 k i (by omega))), ⟨hI2, (by have h9 := AI_count hm.2.1 v2 v4 v6; rw [hA.1] at h9; exact h9), hA.2.2.1, (by have h9 := AI2_count hm.2.2.2 v2 v4 v6; rw [hA.1] at h9; exact h9)⟩, hrel⟩
  refine g_pop C dL_law_850 rfl ?_
  refine g_goto C 1067 dL_law_851 (by decide) ?_
  exact K _ _ ⟨hJ, h3, hL⟩
set_option maxHeartbeats 4000000 in
set_option maxRecDepth 100000 in
theorem law_c20 {p : Program} {l : Launch} {e : Env} {s : State} {m : MethodId} {below : List Frame} {meth : Method} {c : Code} {D : va_G} {ad : Nat → Nat} {cs : Nat → ClassId} {b : Nat} {xs : Nat → Int32} (C : Cx p s m #[Value.ref b] meth c code 4 lw_tbl RL D ad cs) (hr : meth.sig.returnType = ret) {N : Nat} (hN : N ≤ 3072) (hX : va_X b N xs s s.heap) (hbl : b < s.heap.size) (hbA : ¬ Ar ad b) (hnew : ∀ k, k < 297 → s.heap.size ≤ ad k) {i : Int32} (hi0 : 0 ≤ i.toInt) (hi1 : i.toInt + 6 ≤ (N : Int)) (M : MI) (L : ML) (hW : JW M) (K : ∀ M9 L9, JW M9 → G p l e room_1 s m #[Value.ref b] below meth c 297 6915 (lw_Z below #[Value.ref b] s) D ad cs 4 M9 L9 1067 [(3, .int i), (2, .ref (ad 258)), (1, .ref (ad 0)), (0, .ref b)] []) : G p l e room_1 s m #[Value.ref b] below meth c 297 6915 (lw_Z below #[Value.ref b] s) D ad cs 4 M L 854 [(3, .int i), (2, .ref (ad 258)), (1, .ref (ad 0)), (0, .ref b)] [] := by
  obtain ⟨hJ, h3, hL⟩ := hW
  refine g_aload_n C 2 dL_law_854 rfl ?_
  refine g_callVi C (n := 0) (As := []) (st := []) (v_X10_where l D ad cs _ _  hJ.1 ) gl_X10_where rfl rfl rfl (by decide +kernel) ⟨Nat.le_of_ble_eq_true rfl, Nat.le_of_ble_eq_true rfl⟩ rfl (Nat.le_of_ble_eq_true rfl) ⟨Nat.le_of_ble_eq_true rfl, Nat.le_of_ble_eq_true rfl⟩ (by decide) (ce_house ad cs _ _) rfl rfl dL_law_855 (fun r1 M2 L3 hr1 => ?_)
  obtain ⟨hq1, hq2, hans⟩ := hr1
  obtain rfl := hq1.symm
  obtain rfl := hq2.symm
  refine g_pop C dL_law_858 rfl ?_
  refine g_aload_n C 1 dL_law_859 rfl ?_
  refine g_callVi C (n := 0) (As := []) (st := []) (s_X11_where l D ad cs _ _  hJ.2.1.1 ) gl_X11_where rfl rfl rfl (by decide +kernel) ⟨Nat.le_of_ble_eq_true rfl, Nat.le_of_ble_eq_true rfl⟩ rfl (Nat.le_of_ble_eq_true rfl) ⟨Nat.le_of_ble_eq_true rfl, Nat.le_of_ble_eq_true rfl⟩ (by decide) (ce_model ad cs _ _) rfl rfl dL_law_860 (fun r4 M5 L6 hr4 => ?_)
  obtain ⟨hq1, hq2, hA⟩ := hr4
  obtain rfl := hq1.symm
  obtain rfl := hq2.symm
  have heq : r1 = r4 := by rw [hans, hA, hJ.2.2]
  refine g_pop C dL_law_863 rfl ?_
  refine g_goto C 1067 dL_law_864 (by decide) ?_
  exact K _ _ ⟨hJ, h3, hL⟩
set_option maxHeartbeats 4000000 in
set_option maxRecDepth 100000 in
theorem law_c21 {p : Program} {l : Launch} {e : Env} {s : State} {m : MethodId} {below : List Frame} {meth : Method} {c : Code} {D : va_G} {ad : Nat → Nat} {cs : Nat → ClassId} {b : Nat} {xs : Nat → Int32} (C : Cx p s m #[Value.ref b] meth c code 4 lw_tbl RL D ad cs) (hr : meth.sig.returnType = ret) {N : Nat} (hN : N ≤ 3072) (hX : va_X b N xs s s.heap) (hbl : b < s.heap.size) (hbA : ¬ Ar ad b) (hnew : ∀ k, k < 297 → s.heap.size ≤ ad k) {i : Int32} (hi0 : 0 ≤ i.toInt) (hi1 : i.toInt + 6 ≤ (N : Int)) (M : MI) (L : ML) (hW : JW M) (K : ∀ M9 L9, JW M9 → G p l e room_1 s m #[Value.ref b] below meth c 297 6915 (lw_Z below #[Value.ref b] s) D ad cs 4 M9 L9 1067 [(3, .int i), (2, .ref (ad 258)), (1, .ref (ad 0)), (0, .ref b)] []) : G p l e room_1 s m #[Value.ref b] below meth c 297 6915 (lw_Z below #[Value.ref b] s) D ad cs 4 M L 867 [(3, .int i), (2, .ref (ad 258)), (1, .ref (ad 0)), (0, .ref b)] [] := by
  obtain ⟨hJ, h3, hL⟩ := hW
  refine g_aload_n C 2 dL_law_867 rfl ?_
  refine g_aload_n C 3 dL_law_868 rfl ?_
  refine g_iload_n C 0 dL_law_869 rfl ?_
  refine g_iconst C 1 dL_law_870 (by decide) ?_
  refine g_iadd C dL_law_871 ?_
  refine g_ni (fun v1 ev1 => ?_)
  have fv1 := fadd rfl (by decide : (1 : Int32).toInt = 1) ev1 (by omega) (by omega)
  refine g_xld C hX hbl hbA (fin' (n := N) rfl (by omega) (by omega)) dL_law_872 ?_
  refine g_ni (fun v2 ev2 => ?_)
  refine g_callVi C (n := 1) (As := [.int v2]) (st := []) (k_X10_seat l D ad cs _ _ v2 hJ.1) gl_X10_seat rfl rfl rfl (by decide +kernel) ⟨Nat.le_of_ble_eq_true rfl, Nat.le_of_ble_eq_true rfl⟩ rfl (Nat.le_of_ble_eq_true rfl) ⟨Nat.le_of_ble_eq_true rfl, Nat.le_of_ble_eq_true rfl⟩ (by decide) (ce_house ad cs _ _) rfl rfl dL_law_873 (fun r3 M4 L5 hr3 => ?_)
  obtain ⟨hq1, hq2, hans⟩ := hr3
  obtain rfl := hq1.symm
  obtain rfl := hq2.symm
  refine g_pop C dL_law_876 rfl ?_
  refine g_aload_n C 1 dL_law_877 rfl ?_
  refine g_aload_n C 3 dL_law_878 rfl ?_
  refine g_iload_n C 0 dL_law_879 rfl ?_
  refine g_iconst C 1 dL_law_880 (by decide) ?_
  refine g_iadd C dL_law_881 ?_
  refine g_ti v1 (by rw [ev1]) ?_
  refine g_xld C hX hbl hbA (fin' (n := N) rfl (by omega) (by omega)) dL_law_882 ?_
  refine g_ti v2 (by rw [ev2]) ?_
  refine g_callVi C (n := 1) (As := [.int v2]) (st := []) (s_X11_seat l D ad cs _ _ v2 hJ.2.1.1 ) gl_X11_seat rfl rfl rfl (by decide +kernel) ⟨Nat.le_of_ble_eq_true rfl, Nat.le_of_ble_eq_true rfl⟩ rfl (Nat.le_of_ble_eq_true rfl) ⟨Nat.le_of_ble_eq_true rfl, Nat.le_of_ble_eq_true rfl⟩ (by decide) (ce_model ad cs _ _) rfl rfl dL_law_883 (fun r6 M7 L8 hr6 => ?_)
  obtain ⟨hq1, hq2, hA⟩ := hr6
  obtain rfl := hq1.symm
  obtain rfl := hq2.symm
  have heq : r3 = r6 := by rw [hA]; exact L_seat hL hans
  refine g_pop C dL_law_886 rfl ?_
  refine g_goto C 1067 dL_law_887 (by decide) ?_
  exact K _ _ ⟨hJ, h3, hL⟩
set_option maxHeartbeats 4000000 in
set_option maxRecDepth 100000 in
theorem law_c22 {p : Program} {l : Launch} {e : Env} {s : State} {m : MethodId} {below : List Frame} {meth : Method} {c : Code} {D : va_G} {ad : Nat → Nat} {cs : Nat → ClassId} {b : Nat} {xs : Nat → Int32} (C : Cx p s m #[Value.ref b] meth c code 4 lw_tbl RL D ad cs) (hr : meth.sig.returnType = ret) {N : Nat} (hN : N ≤ 3072) (hX : va_X b N xs s s.heap) (hbl : b < s.heap.size) (hbA : ¬ Ar ad b) (hnew : ∀ k, k < 297 → s.heap.size ≤ ad k) {i : Int32} (hi0 : 0 ≤ i.toInt) (hi1 : i.toInt + 6 ≤ (N : Int)) (M : MI) (L : ML) (hW : JW M) (K : ∀ M9 L9, JW M9 → G p l e room_1 s m #[Value.ref b] below meth c 297 6915 (lw_Z below #[Value.ref b] s) D ad cs 4 M9 L9 1067 [(3, .int i), (2, .ref (ad 258)), (1, .ref (ad 0)), (0, .ref b)] []) : G p l e room_1 s m #[Value.ref b] below meth c 297 6915 (lw_Z below #[Value.ref b] s) D ad cs 4 M L 890 [(3, .int i), (2, .ref (ad 258)), (1, .ref (ad 0)), (0, .ref b)] [] := by
  obtain ⟨hJ, h3, hL⟩ := hW
  refine g_aload_n C 2 dL_law_890 rfl ?_
  refine g_callVi C (n := 0) (As := []) (st := []) (k_X10_rounds l D ad cs _ _  hJ.1) gl_X10_rounds rfl rfl rfl (by decide +kernel) ⟨Nat.le_of_ble_eq_true rfl, Nat.le_of_ble_eq_true rfl⟩ rfl (Nat.le_of_ble_eq_true rfl) ⟨Nat.le_of_ble_eq_true rfl, Nat.le_of_ble_eq_true rfl⟩ (by decide) (ce_house ad cs _ _) rfl rfl dL_law_891 (fun r1 M2 L3 hr1 => ?_)
  obtain ⟨hq1, hq2, hans⟩ := hr1
  obtain rfl := hq1.symm
  obtain rfl := hq2.symm
  refine g_pop C dL_law_894 rfl ?_
  refine g_aload_n C 1 dL_law_895 rfl ?_
  refine g_callVi C (n := 0) (As := []) (st := []) (s_X11_rounds l D ad cs _ _  hJ.2.1.1 ) gl_X11_rounds rfl rfl rfl (by decide +kernel) ⟨Nat.le_of_ble_eq_true rfl, Nat.le_of_ble_eq_true rfl⟩ rfl (Nat.le_of_ble_eq_true rfl) ⟨Nat.le_of_ble_eq_true rfl, Nat.le_of_ble_eq_true rfl⟩ (by decide) (ce_model ad cs _ _) rfl rfl dL_law_896 (fun r4 M5 L6 hr4 => ?_)
  obtain ⟨hq1, hq2, hA⟩ := hr4
  obtain rfl := hq1.symm
  obtain rfl := hq2.symm
  have heq : r1 = r4 := by rw [hA]; exact L_rounds hL hans
  refine g_pop C dL_law_899 rfl ?_
  refine g_goto C 1067 dL_law_900 (by decide) ?_
  exact K _ _ ⟨hJ, h3, hL⟩
set_option maxHeartbeats 4000000 in
set_option maxRecDepth 100000 in
theorem law_c23 {p : Program} {l : Launch} {e : Env} {s : State} {m : MethodId} {below : List Frame} {meth : Method} {c : Code} {D : va_G} {ad : Nat → Nat} {cs : Nat → ClassId} {b : Nat} {xs : Nat → Int32} (C : Cx p s m #[Value.ref b] meth c code 4 lw_tbl RL D ad cs) (hr : meth.sig.returnType = ret) {N : Nat} (hN : N ≤ 3072) (hX : va_X b N xs s s.heap) (hbl : b < s.heap.size) (hbA : ¬ Ar ad b) (hnew : ∀ k, k < 297 → s.heap.size ≤ ad k) {i : Int32} (hi0 : 0 ≤ i.toInt) (hi1 : i.toInt + 6 ≤ (N : Int)) (M : MI) (L : ML) (hW : JW M) (K : ∀ M9 L9, JW M9 → G p l e room_1 s m #[Value.ref b] below meth c 297 6915 (lw_Z below #[Value.ref b] s) D ad cs 4 M9 L9 1067 [(3, .int i), (2, .ref (ad 258)), (1, .ref (ad 0)), (0, .ref b)] []) : G p l e room_1 s m #[Value.ref b] below meth c 297 6915 (lw_Z below #[Value.ref b] s) D ad cs 4 M L 903 [(3, .int i), (2, .ref (ad 258)), (1, .ref (ad 0)), (0, .ref b)] [] := by
  obtain ⟨hJ, h3, hL⟩ := hW
  refine g_aload_n C 2 dL_law_903 rfl ?_
  refine g_aload_n C 3 dL_law_904 rfl ?_
  refine g_iload_n C 0 dL_law_905 rfl ?_
  refine g_iconst C 1 dL_law_906 (by decide) ?_
  refine g_iadd C dL_law_907 ?_
  refine g_ni (fun v1 ev1 => ?_)
  have fv1 := fadd rfl (by decide : (1 : Int32).toInt = 1) ev1 (by omega) (by omega)
  refine g_xld C hX hbl hbA (fin' (n := N) rfl (by omega) (by omega)) dL_law_908 ?_
  refine g_ni (fun v2 ev2 => ?_)
  refine g_aload_n C 3 dL_law_909 rfl ?_
  refine g_iload_n C 0 dL_law_910 rfl ?_
  refine g_iconst C 2 dL_law_911 (by decide) ?_
  refine g_iadd C dL_law_912 ?_
  refine g_ni (fun v3 ev3 => ?_)
  have fv3 := fadd rfl (by decide : (2 : Int32).toInt = 2) ev3 (by omega) (by omega)
  refine g_xld C hX hbl hbA (fin' (n := N) rfl (by omega) (by omega)) dL_law_913 ?_
  refine g_ni (fun v4 ev4 => ?_)
  refine g_callVi C (n := 2) (As := [.int v2, .int v4]) (st := []) (k_X10_round l D ad cs _ _ v2 v4 hJ.1) gl_X10_round rfl rfl rfl (by decide +kernel) ⟨Nat.le_of_ble_eq_true rfl, Nat.le_of_ble_eq_true rfl⟩ rfl (Nat.le_of_ble_eq_true rfl) ⟨Nat.le_of_ble_eq_true rfl, Nat.le_of_ble_eq_true rfl⟩ (by decide) (ce_house ad cs _ _) rfl rfl dL_law_914 (fun r5 M6 L7 hr5 => ?_)
  obtain ⟨hq1, hq2, hans⟩ := hr5
  obtain rfl := hq1.symm
  obtain rfl := hq2.symm
  refine g_pop C dL_law_917 rfl ?_
  refine g_aload_n C 1 dL_law_918 rfl ?_
  refine g_aload_n C 3 dL_law_919 rfl ?_
  refine g_iload_n C 0 dL_law_920 rfl ?_
  refine g_iconst C 1 dL_law_921 (by decide) ?_
  refine g_iadd C dL_law_922 ?_
  refine g_ti v1 (by rw [ev1]) ?_
  refine g_xld C hX hbl hbA (fin' (n := N) rfl (by omega) (by omega)) dL_law_923 ?_
  refine g_ti v2 (by rw [ev2]) ?_
  refine g_aload_n C 3 dL_law_924 rfl ?_
  refine g_iload_n C 0 dL_law_925 rfl ?_
  refine g_iconst C 2 dL_law_926 (by decide) ?_
  refine g_iadd C dL_law_927 ?_
  refine g_ti v3 (by rw [ev3]) ?_
  refine g_xld C hX hbl hbA (fin' (n := N) rfl (by omega) (by omega)) dL_law_928 ?_
  refine g_ti v4 (by rw [ev4]) ?_
  refine g_callVi C (n := 2) (As := [.int v2, .int v4]) (st := []) (s_X11_round l D ad cs _ _ v2 v4 hJ.2.1.1 ) gl_X11_round rfl rfl rfl (by decide +kernel) ⟨Nat.le_of_ble_eq_true rfl, Nat.le_of_ble_eq_true rfl⟩ rfl (Nat.le_of_ble_eq_true rfl) ⟨Nat.le_of_ble_eq_true rfl, Nat.le_of_ble_eq_true rfl⟩ (by decide) (ce_model ad cs _ _) rfl rfl dL_law_929 (fun r8 M9 L10 hr8 => ?_)
  obtain ⟨hq1, hq2, hA⟩ := hr8
  obtain rfl := hq1.symm
  obtain rfl := hq2.symm
  have heq : r5 = r8 := by rw [hA]; exact L_round hL hans
  refine g_pop C dL_law_932 rfl ?_
  refine g_goto C 1067 dL_law_933 (by decide) ?_
  exact K _ _ ⟨hJ, h3, hL⟩
set_option maxHeartbeats 4000000 in
set_option maxRecDepth 100000 in
theorem law_c24 {p : Program} {l : Launch} {e : Env} {s : State} {m : MethodId} {below : List Frame} {meth : Method} {c : Code} {D : va_G} {ad : Nat → Nat} {cs : Nat → ClassId} {b : Nat} {xs : Nat → Int32} (C : Cx p s m #[Value.ref b] meth c code 4 lw_tbl RL D ad cs) (hr : meth.sig.returnType = ret) {N : Nat} (hN : N ≤ 3072) (hX : va_X b N xs s s.heap) (hbl : b < s.heap.size) (hbA : ¬ Ar ad b) (hnew : ∀ k, k < 297 → s.heap.size ≤ ad k) {i : Int32} (hi0 : 0 ≤ i.toInt) (hi1 : i.toInt + 6 ≤ (N : Int)) (M : MI) (L : ML) (hW : JW M) (K : ∀ M9 L9, JW M9 → G p l e room_1 s m #[Value.ref b] below meth c 297 6915 (lw_Z below #[Value.ref b] s) D ad cs 4 M9 L9 1067 [(3, .int i), (2, .ref (ad 258)), (1, .ref (ad 0)), (0, .ref b)] []) : G p l e room_1 s m #[Value.ref b] below meth c 297 6915 (lw_Z below #[Value.ref b] s) D ad cs 4 M L 936 [(3, .int i), (2, .ref (ad 258)), (1, .ref (ad 0)), (0, .ref b)] [] := by
  obtain ⟨hJ, h3, hL⟩ := hW
  refine g_aload_n C 2 dL_law_936 rfl ?_
  refine g_aload_n C 3 dL_law_937 rfl ?_
  refine g_iload_n C 0 dL_law_938 rfl ?_
  refine g_iconst C 1 dL_law_939 (by decide) ?_
  refine g_iadd C dL_law_940 ?_
  refine g_ni (fun v1 ev1 => ?_)
  have fv1 := fadd rfl (by decide : (1 : Int32).toInt = 1) ev1 (by omega) (by omega)
  refine g_xld C hX hbl hbA (fin' (n := N) rfl (by omega) (by omega)) dL_law_941 ?_
  refine g_ni (fun v2 ev2 => ?_)
  refine g_aload_n C 3 dL_law_942 rfl ?_
  refine g_iload_n C 0 dL_law_943 rfl ?_
  refine g_iconst C 2 dL_law_944 (by decide) ?_
  refine g_iadd C dL_law_945 ?_
  refine g_ni (fun v3 ev3 => ?_)
  have fv3 := fadd rfl (by decide : (2 : Int32).toInt = 2) ev3 (by omega) (by omega)
  refine g_xld C hX hbl hbA (fin' (n := N) rfl (by omega) (by omega)) dL_law_946 ?_
  refine g_ni (fun v4 ev4 => ?_)
  refine g_aload_n C 3 dL_law_947 rfl ?_
  refine g_iload_n C 0 dL_law_948 rfl ?_
  refine g_iconst C 3 dL_law_949 (by decide) ?_
  refine g_iadd C dL_law_950 ?_
  refine g_ni (fun v5 ev5 => ?_)
  have fv5 := fadd rfl (by decide : (3 : Int32).toInt = 3) ev5 (by omega) (by omega)
  refine g_xld C hX hbl hbA (fin' (n := N) rfl (by omega) (by omega)) dL_law_951 ?_
  refine g_ni (fun v6 ev6 => ?_)
  refine g_if_eq C 959 dL_law_952 (by decide) (fun c7 => ?_) (fun c7 => ?_)
  ·
    refine g_iconst C 0 dL_law_959 (by decide) ?_
    refine g_callVl C (n := 3) (As := [.int v2, .int v4, .int 0]) (st := []) (s_X10_tally l D ad cs _ _ v2 v4 0 hJ.1) gl_X10_tally rfl rfl rfl (by decide +kernel) ⟨Nat.le_of_ble_eq_true rfl, Nat.le_of_ble_eq_true rfl⟩ rfl (Nat.le_of_ble_eq_true rfl) ⟨Nat.le_of_ble_eq_true rfl, Nat.le_of_ble_eq_true rfl⟩ (by decide) (ce_house ad cs _ _) rfl rfl dL_law_960 (fun r8 M9 L10 hr8 => ?_)
    obtain ⟨hq1, hq2, hans⟩ := hr8
    obtain rfl := hq1.symm
    obtain rfl := hq2.symm
    refine g_pop2 C dL_law_963 rfl ?_
    refine g_aload_n C 1 dL_law_964 rfl ?_
    refine g_aload_n C 3 dL_law_965 rfl ?_
    refine g_iload_n C 0 dL_law_966 rfl ?_
    refine g_iconst C 1 dL_law_967 (by decide) ?_
    refine g_iadd C dL_law_968 ?_
    refine g_ti v1 (by rw [ev1]) ?_
    refine g_xld C hX hbl hbA (fin' (n := N) rfl (by omega) (by omega)) dL_law_969 ?_
    refine g_ti v2 (by rw [ev2]) ?_
    refine g_aload_n C 3 dL_law_970 rfl ?_
    refine g_iload_n C 0 dL_law_971 rfl ?_
    refine g_iconst C 2 dL_law_972 (by decide) ?_
    refine g_iadd C dL_law_973 ?_
    refine g_ti v3 (by rw [ev3]) ?_
    refine g_xld C hX hbl hbA (fin' (n := N) rfl (by omega) (by omega)) dL_law_974 ?_
    refine g_ti v4 (by rw [ev4]) ?_
    refine g_aload_n C 3 dL_law_975 rfl ?_
    refine g_iload_n C 0 dL_law_976 rfl ?_
    refine g_iconst C 3 dL_law_977 (by decide) ?_
    refine g_iadd C dL_law_978 ?_
    refine g_ti v5 (by rw [ev5]) ?_
    refine g_xld C hX hbl hbA (fin' (n := N) rfl (by omega) (by omega)) dL_law_979 ?_
    refine g_ti v6 (by rw [ev6]) ?_
    refine g_if_eq C 987 dL_law_980 (by decide) (fun c11 => ?_) (fun c11 => ?_)
    ·
      refine g_iconst C 0 dL_law_987 (by decide) ?_
      refine g_callVl C (n := 3) (As := [.int v2, .int v4, .int 0]) (st := []) (s_X11_tally l D ad cs _ _ v2 v4 0 hJ.2.1.1 ) gl_X11_tally rfl rfl rfl (by decide +kernel) ⟨Nat.le_of_ble_eq_true rfl, Nat.le_of_ble_eq_true rfl⟩ rfl (Nat.le_of_ble_eq_true rfl) ⟨Nat.le_of_ble_eq_true rfl, Nat.le_of_ble_eq_true rfl⟩ (by decide) (ce_model ad cs _ _) rfl rfl dL_law_988 (fun r12 M13 L14 hr12 => ?_)
      obtain ⟨hq1, hq2, hA⟩ := hr12
      obtain rfl := hq1.symm
      obtain rfl := hq2.symm
      refine g_pop2 C dL_law_991 rfl ?_
      refine g_goto C 1067 dL_law_992 (by decide) ?_
      exact K _ _ ⟨hJ, h3, hL⟩
    ·
      refine g_iconst C 1 dL_law_983 (by decide) ?_
      refine g_goto C 988 dL_law_984 (by decide) ?_
      refine g_callVl C (n := 3) (As := [.int v2, .int v4, .int 1]) (st := []) (s_X11_tally l D ad cs _ _ v2 v4 1 hJ.2.1.1 ) gl_X11_tally rfl rfl rfl (by decide +kernel) ⟨Nat.le_of_ble_eq_true rfl, Nat.le_of_ble_eq_true rfl⟩ rfl (Nat.le_of_ble_eq_true rfl) ⟨Nat.le_of_ble_eq_true rfl, Nat.le_of_ble_eq_true rfl⟩ (by decide) (ce_model ad cs _ _) rfl rfl dL_law_988 (fun r15 M16 L17 hr15 => ?_)
      obtain ⟨hq1, hq2, hA⟩ := hr15
      obtain rfl := hq1.symm
      obtain rfl := hq2.symm
      refine g_pop2 C dL_law_991 rfl ?_
      refine g_goto C 1067 dL_law_992 (by decide) ?_
      exact K _ _ ⟨hJ, h3, hL⟩
  ·
    refine g_iconst C 1 dL_law_955 (by decide) ?_
    refine g_goto C 960 dL_law_956 (by decide) ?_
    refine g_callVl C (n := 3) (As := [.int v2, .int v4, .int 1]) (st := []) (s_X10_tally l D ad cs _ _ v2 v4 1 hJ.1) gl_X10_tally rfl rfl rfl (by decide +kernel) ⟨Nat.le_of_ble_eq_true rfl, Nat.le_of_ble_eq_true rfl⟩ rfl (Nat.le_of_ble_eq_true rfl) ⟨Nat.le_of_ble_eq_true rfl, Nat.le_of_ble_eq_true rfl⟩ (by decide) (ce_house ad cs _ _) rfl rfl dL_law_960 (fun r18 M19 L20 hr18 => ?_)
    obtain ⟨hq1, hq2, hans⟩ := hr18
    obtain rfl := hq1.symm
    obtain rfl := hq2.symm
    refine g_pop2 C dL_law_963 rfl ?_
    refine g_aload_n C 1 dL_law_964 rfl ?_
    refine g_aload_n C 3 dL_law_965 rfl ?_
    refine g_iload_n C 0 dL_law_966 rfl ?_
    refine g_iconst C 1 dL_law_967 (by decide) ?_
    refine g_iadd C dL_law_968 ?_
    refine g_ti v1 (by rw [ev1]) ?_
    refine g_xld C hX hbl hbA (fin' (n := N) rfl (by omega) (by omega)) dL_law_969 ?_
    refine g_ti v2 (by rw [ev2]) ?_
    refine g_aload_n C 3 dL_law_970 rfl ?_
    refine g_iload_n C 0 dL_law_971 rfl ?_
    refine g_iconst C 2 dL_law_972 (by decide) ?_
    refine g_iadd C dL_law_973 ?_
    refine g_ti v3 (by rw [ev3]) ?_
    refine g_xld C hX hbl hbA (fin' (n := N) rfl (by omega) (by omega)) dL_law_974 ?_
    refine g_ti v4 (by rw [ev4]) ?_
    refine g_aload_n C 3 dL_law_975 rfl ?_
    refine g_iload_n C 0 dL_law_976 rfl ?_
    refine g_iconst C 3 dL_law_977 (by decide) ?_
    refine g_iadd C dL_law_978 ?_
    refine g_ti v5 (by rw [ev5]) ?_
    refine g_xld C hX hbl hbA (fin' (n := N) rfl (by omega) (by omega)) dL_law_979 ?_
    refine g_ti v6 (by rw [ev6]) ?_
    refine g_if_eq C 987 dL_law_980 (by decide) (fun c21 => ?_) (fun c21 => ?_)
    ·
      refine g_iconst C 0 dL_law_987 (by decide) ?_
      refine g_callVl C (n := 3) (As := [.int v2, .int v4, .int 0]) (st := []) (s_X11_tally l D ad cs _ _ v2 v4 0 hJ.2.1.1 ) gl_X11_tally rfl rfl rfl (by decide +kernel) ⟨Nat.le_of_ble_eq_true rfl, Nat.le_of_ble_eq_true rfl⟩ rfl (Nat.le_of_ble_eq_true rfl) ⟨Nat.le_of_ble_eq_true rfl, Nat.le_of_ble_eq_true rfl⟩ (by decide) (ce_model ad cs _ _) rfl rfl dL_law_988 (fun r22 M23 L24 hr22 => ?_)
      obtain ⟨hq1, hq2, hA⟩ := hr22
      obtain rfl := hq1.symm
      obtain rfl := hq2.symm
      refine g_pop2 C dL_law_991 rfl ?_
      refine g_goto C 1067 dL_law_992 (by decide) ?_
      exact K _ _ ⟨hJ, h3, hL⟩
    ·
      refine g_iconst C 1 dL_law_983 (by decide) ?_
      refine g_goto C 988 dL_law_984 (by decide) ?_
      refine g_callVl C (n := 3) (As := [.int v2, .int v4, .int 1]) (st := []) (s_X11_tally l D ad cs _ _ v2 v4 1 hJ.2.1.1 ) gl_X11_tally rfl rfl rfl (by decide +kernel) ⟨Nat.le_of_ble_eq_true rfl, Nat.le_of_ble_eq_true rfl⟩ rfl (Nat.le_of_ble_eq_true rfl) ⟨Nat.le_of_ble_eq_true rfl, Nat.le_of_ble_eq_true rfl⟩ (by decide) (ce_model ad cs _ _) rfl rfl dL_law_988 (fun r25 M26 L27 hr25 => ?_)
      obtain ⟨hq1, hq2, hA⟩ := hr25
      obtain rfl := hq1.symm
      obtain rfl := hq2.symm
      refine g_pop2 C dL_law_991 rfl ?_
      refine g_goto C 1067 dL_law_992 (by decide) ?_
      exact K _ _ ⟨hJ, h3, hL⟩
set_option maxHeartbeats 4000000 in
set_option maxRecDepth 100000 in
theorem law_c25 {p : Program} {l : Launch} {e : Env} {s : State} {m : MethodId} {below : List Frame} {meth : Method} {c : Code} {D : va_G} {ad : Nat → Nat} {cs : Nat → ClassId} {b : Nat} {xs : Nat → Int32} (C : Cx p s m #[Value.ref b] meth c code 4 lw_tbl RL D ad cs) (hr : meth.sig.returnType = ret) {N : Nat} (hN : N ≤ 3072) (hX : va_X b N xs s s.heap) (hbl : b < s.heap.size) (hbA : ¬ Ar ad b) (hnew : ∀ k, k < 297 → s.heap.size ≤ ad k) {i : Int32} (hi0 : 0 ≤ i.toInt) (hi1 : i.toInt + 6 ≤ (N : Int)) (M : MI) (L : ML) (hW : JW M) (K : ∀ M9 L9, JW M9 → G p l e room_1 s m #[Value.ref b] below meth c 297 6915 (lw_Z below #[Value.ref b] s) D ad cs 4 M9 L9 1067 [(3, .int i), (2, .ref (ad 258)), (1, .ref (ad 0)), (0, .ref b)] []) : G p l e room_1 s m #[Value.ref b] below meth c 297 6915 (lw_Z below #[Value.ref b] s) D ad cs 4 M L 995 [(3, .int i), (2, .ref (ad 258)), (1, .ref (ad 0)), (0, .ref b)] [] := by
  obtain ⟨hJ, h3, hL⟩ := hW
  refine g_aload_n C 2 dL_law_995 rfl ?_
  refine g_aload_n C 3 dL_law_996 rfl ?_
  refine g_iload_n C 0 dL_law_997 rfl ?_
  refine g_iconst C 1 dL_law_998 (by decide) ?_
  refine g_iadd C dL_law_999 ?_
  refine g_ni (fun v1 ev1 => ?_)
  have fv1 := fadd rfl (by decide : (1 : Int32).toInt = 1) ev1 (by omega) (by omega)
  refine g_xld C hX hbl hbA (fin' (n := N) rfl (by omega) (by omega)) dL_law_1000 ?_
  refine g_ni (fun v2 ev2 => ?_)
  refine g_callVi C (n := 1) (As := [.int v2]) (st := []) (k_X10_many l D ad cs _ _ v2 hJ.1) gl_X10_many rfl rfl rfl (by decide +kernel) ⟨Nat.le_of_ble_eq_true rfl, Nat.le_of_ble_eq_true rfl⟩ rfl (Nat.le_of_ble_eq_true rfl) ⟨Nat.le_of_ble_eq_true rfl, Nat.le_of_ble_eq_true rfl⟩ (by decide) (ce_house ad cs _ _) rfl rfl dL_law_1001 (fun r3 M4 L5 hr3 => ?_)
  obtain ⟨hq1, hq2, hans⟩ := hr3
  obtain rfl := hq1.symm
  obtain rfl := hq2.symm
  refine g_aload_n C 1 dL_law_1004 rfl ?_
  refine g_aload_n C 3 dL_law_1005 rfl ?_
  refine g_iload_n C 0 dL_law_1006 rfl ?_
  refine g_iconst C 1 dL_law_1007 (by decide) ?_
  refine g_iadd C dL_law_1008 ?_
  refine g_ti v1 (by rw [ev1]) ?_
  refine g_xld C hX hbl hbA (fin' (n := N) rfl (by omega) (by omega)) dL_law_1009 ?_
  refine g_ti v2 (by rw [ev2]) ?_
  refine g_callVi C (n := 1) (As := [.int v2]) (st := [.int r3]) (s_X11_many l D ad cs _ _ v2 hJ.2.1.1 ) gl_X11_many rfl rfl rfl (by decide +kernel) ⟨Nat.le_of_ble_eq_true rfl, Nat.le_of_ble_eq_true rfl⟩ rfl (Nat.le_of_ble_eq_true rfl) ⟨Nat.le_of_ble_eq_true rfl, Nat.le_of_ble_eq_true rfl⟩ (by decide) (ce_model ad cs _ _) rfl rfl dL_law_1010 (fun r6 M7 L8 hr6 => ?_)
  obtain ⟨hq1, hq2, hA⟩ := hr6
  obtain rfl := hq1.symm
  obtain rfl := hq2.symm
  have heq : r3 = r6 := by rw [hA]; exact L_many hL hJ.2.2 hans
  refine g_icmp_eq C 1067 dL_law_1013 (by decide) (fun c9 => ?_) (fun c9 => ?_)
  ·
    exact K _ _ ⟨hJ, h3, hL⟩
  ·
    refine g_iconst C 0 dL_law_1016 (by decide) ?_
    exact absurd heq c9
set_option maxHeartbeats 4000000 in
set_option maxRecDepth 100000 in
theorem law_c26 {p : Program} {l : Launch} {e : Env} {s : State} {m : MethodId} {below : List Frame} {meth : Method} {c : Code} {D : va_G} {ad : Nat → Nat} {cs : Nat → ClassId} {b : Nat} {xs : Nat → Int32} (C : Cx p s m #[Value.ref b] meth c code 4 lw_tbl RL D ad cs) (hr : meth.sig.returnType = ret) {N : Nat} (hN : N ≤ 3072) (hX : va_X b N xs s s.heap) (hbl : b < s.heap.size) (hbA : ¬ Ar ad b) (hnew : ∀ k, k < 297 → s.heap.size ≤ ad k) {i : Int32} (hi0 : 0 ≤ i.toInt) (hi1 : i.toInt + 6 ≤ (N : Int)) (M : MI) (L : ML) (hW : JW M) (K : ∀ M9 L9, JW M9 → G p l e room_1 s m #[Value.ref b] below meth c 297 6915 (lw_Z below #[Value.ref b] s) D ad cs 4 M9 L9 1067 [(3, .int i), (2, .ref (ad 258)), (1, .ref (ad 0)), (0, .ref b)] []) : G p l e room_1 s m #[Value.ref b] below meth c 297 6915 (lw_Z below #[Value.ref b] s) D ad cs 4 M L 1018 [(3, .int i), (2, .ref (ad 258)), (1, .ref (ad 0)), (0, .ref b)] [] := by
  obtain ⟨hJ, h3, hL⟩ := hW
  refine g_aload_n C 2 dL_law_1018 rfl ?_
  refine g_callVi C (n := 0) (As := []) (st := []) (v_X10_finding l D ad cs _ _  hJ.1 ) gl_X10_finding rfl rfl rfl (by decide +kernel) ⟨Nat.le_of_ble_eq_true rfl, Nat.le_of_ble_eq_true rfl⟩ rfl (Nat.le_of_ble_eq_true rfl) ⟨Nat.le_of_ble_eq_true rfl, Nat.le_of_ble_eq_true rfl⟩ (by decide) (ce_house ad cs _ _) rfl rfl dL_law_1019 (fun r1 M2 L3 hr1 => ?_)
  obtain ⟨hq1, hq2, hans⟩ := hr1
  obtain rfl := hq1.symm
  obtain rfl := hq2.symm
  refine g_pop C dL_law_1022 rfl ?_
  refine g_aload_n C 1 dL_law_1023 rfl ?_
  refine g_callVi C (n := 0) (As := []) (st := []) (s_X11_finding l D ad cs _ _  hJ.2.1.1 ) gl_X11_finding rfl rfl rfl (by decide +kernel) ⟨Nat.le_of_ble_eq_true rfl, Nat.le_of_ble_eq_true rfl⟩ rfl (Nat.le_of_ble_eq_true rfl) ⟨Nat.le_of_ble_eq_true rfl, Nat.le_of_ble_eq_true rfl⟩ (by decide) (ce_model ad cs _ _) rfl rfl dL_law_1024 (fun r4 M5 L6 hr4 => ?_)
  obtain ⟨hq1, hq2, hA⟩ := hr4
  obtain rfl := hq1.symm
  obtain rfl := hq2.symm
  have heq : r1 = r4 := by rw [hans, hA, hJ.2.2]
  refine g_pop C dL_law_1027 rfl ?_
  refine g_goto C 1067 dL_law_1028 (by decide) ?_
  exact K _ _ ⟨hJ, h3, hL⟩
set_option maxHeartbeats 4000000 in
set_option maxRecDepth 100000 in
theorem law_c27 {p : Program} {l : Launch} {e : Env} {s : State} {m : MethodId} {below : List Frame} {meth : Method} {c : Code} {D : va_G} {ad : Nat → Nat} {cs : Nat → ClassId} {b : Nat} {xs : Nat → Int32} (C : Cx p s m #[Value.ref b] meth c code 4 lw_tbl RL D ad cs) (hr : meth.sig.returnType = ret) {N : Nat} (hN : N ≤ 3072) (hX : va_X b N xs s s.heap) (hbl : b < s.heap.size) (hbA : ¬ Ar ad b) (hnew : ∀ k, k < 297 → s.heap.size ≤ ad k) {i : Int32} (hi0 : 0 ≤ i.toInt) (hi1 : i.toInt + 6 ≤ (N : Int)) (M : MI) (L : ML) (hW : JW M) (K : ∀ M9 L9, JW M9 → G p l e room_1 s m #[Value.ref b] below meth c 297 6915 (lw_Z below #[Value.ref b] s) D ad cs 4 M9 L9 1067 [(3, .int i), (2, .ref (ad 258)), (1, .ref (ad 0)), (0, .ref b)] []) : G p l e room_1 s m #[Value.ref b] below meth c 297 6915 (lw_Z below #[Value.ref b] s) D ad cs 4 M L 1031 [(3, .int i), (2, .ref (ad 258)), (1, .ref (ad 0)), (0, .ref b)] [] := by
  obtain ⟨hJ, h3, hL⟩ := hW
  refine g_aload_n C 2 dL_law_1031 rfl ?_
  refine g_aload_n C 3 dL_law_1032 rfl ?_
  refine g_iload_n C 0 dL_law_1033 rfl ?_
  refine g_iconst C 1 dL_law_1034 (by decide) ?_
  refine g_iadd C dL_law_1035 ?_
  refine g_ni (fun v1 ev1 => ?_)
  have fv1 := fadd rfl (by decide : (1 : Int32).toInt = 1) ev1 (by omega) (by omega)
  refine g_xld C hX hbl hbA (fin' (n := N) rfl (by omega) (by omega)) dL_law_1036 ?_
  refine g_ni (fun v2 ev2 => ?_)
  refine g_callVi C (n := 1) (As := [.int v2]) (st := []) (v_X10_findings l D ad cs _ _ v2 hJ.1 ) gl_X10_findings rfl rfl rfl (by decide +kernel) ⟨Nat.le_of_ble_eq_true rfl, Nat.le_of_ble_eq_true rfl⟩ rfl (Nat.le_of_ble_eq_true rfl) ⟨Nat.le_of_ble_eq_true rfl, Nat.le_of_ble_eq_true rfl⟩ (by decide) (ce_house ad cs _ _) rfl rfl dL_law_1037 (fun r3 M4 L5 hr3 => ?_)
  obtain ⟨hq1, hq2, hans⟩ := hr3
  obtain rfl := hq1.symm
  obtain rfl := hq2.symm
  refine g_pop C dL_law_1040 rfl ?_
  refine g_aload_n C 1 dL_law_1041 rfl ?_
  refine g_aload_n C 3 dL_law_1042 rfl ?_
  refine g_iload_n C 0 dL_law_1043 rfl ?_
  refine g_iconst C 1 dL_law_1044 (by decide) ?_
  refine g_iadd C dL_law_1045 ?_
  refine g_ti v1 (by rw [ev1]) ?_
  refine g_xld C hX hbl hbA (fin' (n := N) rfl (by omega) (by omega)) dL_law_1046 ?_
  refine g_ti v2 (by rw [ev2]) ?_
  refine g_callVi C (n := 1) (As := [.int v2]) (st := []) (s_X11_findings l D ad cs _ _ v2 hJ.2.1.1 ) gl_X11_findings rfl rfl rfl (by decide +kernel) ⟨Nat.le_of_ble_eq_true rfl, Nat.le_of_ble_eq_true rfl⟩ rfl (Nat.le_of_ble_eq_true rfl) ⟨Nat.le_of_ble_eq_true rfl, Nat.le_of_ble_eq_true rfl⟩ (by decide) (ce_model ad cs _ _) rfl rfl dL_law_1047 (fun r6 M7 L8 hr6 => ?_)
  obtain ⟨hq1, hq2, hA⟩ := hr6
  obtain rfl := hq1.symm
  obtain rfl := hq2.symm
  have heq : r3 = r6 := by rw [hans, hA, hJ.2.2]
  refine g_pop C dL_law_1050 rfl ?_
  refine g_goto C 1067 dL_law_1051 (by decide) ?_
  exact K _ _ ⟨hJ, h3, hL⟩
set_option maxHeartbeats 4000000 in
set_option maxRecDepth 100000 in
theorem law_c28 {p : Program} {l : Launch} {e : Env} {s : State} {m : MethodId} {below : List Frame} {meth : Method} {c : Code} {D : va_G} {ad : Nat → Nat} {cs : Nat → ClassId} {b : Nat} {xs : Nat → Int32} (C : Cx p s m #[Value.ref b] meth c code 4 lw_tbl RL D ad cs) (hr : meth.sig.returnType = ret) {N : Nat} (hN : N ≤ 3072) (hX : va_X b N xs s s.heap) (hbl : b < s.heap.size) (hbA : ¬ Ar ad b) (hnew : ∀ k, k < 297 → s.heap.size ≤ ad k) {i : Int32} (hi0 : 0 ≤ i.toInt) (hi1 : i.toInt + 6 ≤ (N : Int)) (M : MI) (L : ML) (hW : JW M) (K : ∀ M9 L9, JW M9 → G p l e room_1 s m #[Value.ref b] below meth c 297 6915 (lw_Z below #[Value.ref b] s) D ad cs 4 M9 L9 1067 [(3, .int i), (2, .ref (ad 258)), (1, .ref (ad 0)), (0, .ref b)] []) : G p l e room_1 s m #[Value.ref b] below meth c 297 6915 (lw_Z below #[Value.ref b] s) D ad cs 4 M L 1054 [(3, .int i), (2, .ref (ad 258)), (1, .ref (ad 0)), (0, .ref b)] [] := by
  obtain ⟨hJ, h3, hL⟩ := hW
  refine g_aload_n C 2 dL_law_1054 rfl ?_
  refine g_callVl C (n := 0) (As := []) (st := []) (s_X10_digest l D ad cs _ _  hJ.1) gl_X10_digest rfl rfl rfl (by decide +kernel) ⟨Nat.le_of_ble_eq_true rfl, Nat.le_of_ble_eq_true rfl⟩ rfl (Nat.le_of_ble_eq_true rfl) ⟨Nat.le_of_ble_eq_true rfl, Nat.le_of_ble_eq_true rfl⟩ (by decide) (ce_house ad cs _ _) rfl rfl dL_law_1055 (fun r1 M2 L3 hr1 => ?_)
  obtain ⟨hq1, hq2, hans⟩ := hr1
  obtain rfl := hq1.symm
  obtain rfl := hq2.symm
  refine g_pop2 C dL_law_1058 rfl ?_
  refine g_aload_n C 1 dL_law_1059 rfl ?_
  refine g_callVl C (n := 0) (As := []) (st := []) (s_X11_digest l D ad cs _ _  hJ.2.1.1 hJ.2.1.2.2.1) gl_X11_digest rfl rfl rfl (by decide +kernel) ⟨Nat.le_of_ble_eq_true rfl, Nat.le_of_ble_eq_true rfl⟩ rfl (Nat.le_of_ble_eq_true rfl) ⟨Nat.le_of_ble_eq_true rfl, Nat.le_of_ble_eq_true rfl⟩ (by decide) (ce_model ad cs _ _) rfl rfl dL_law_1060 (fun r4 M5 L6 hr4 => ?_)
  obtain ⟨hq1, hq2, hA⟩ := hr4
  obtain rfl := hq1.symm
  obtain rfl := hq2.symm
  refine g_pop2 C dL_law_1063 rfl ?_
  refine g_goto C 1067 dL_law_1064 (by decide) ?_
  exact K _ _ ⟨hJ, h3, hL⟩
