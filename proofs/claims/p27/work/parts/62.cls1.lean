set_option maxHeartbeats 4000000 in
set_option maxRecDepth 100000 in
theorem v_isUnderS_0 (l : Launch) (D : va_G) (ad : Nat → Nat) (cs : Nat → ClassId) (M : MI) (L : ML) (y : Int32) (hI : IC M) (hy : 0 ≤ y.toInt) : Ci l yX10_isUnder wsX10_isUnder ({ frames := 0, cells := 0, slots := 0, locals := 0 }) D ad cs [.int 0, .int y, .ref (ad 400)] M L (fun r M1 L1 => M1 = M ∧ L1 = L ∧ zo r (ofS 0 y)) := by
  refine enter_i RX10 rfl [(0, .int 0), (1, .int y), (2, .ref (ad 400))] rfl (Nat.le_of_ble_eq_true rfl) (by decide +kernel) rfl ?_
  intro p e s m below meth c C hr
  have hF : ∀ k i, True → M k i = M k i := fun _ _ _ => rfl
  have hG : ∀ k i, True → L k i = L k i := fun _ _ _ => rfl
  refine g_iload_n C 0 dX10_isUnder_0 rfl ?_
  refine g_istore_n C [(3, .int 0), (0, .int 0), (1, .int y), (2, .ref (ad 400))] dX10_isUnder_1 (by decide) rfl ?_
  refine g_iconst C 0 dX10_isUnder_2 (by decide) ?_
  refine g_istore C [(4, .int 0), (3, .int 0), (0, .int 0), (1, .int y), (2, .ref (ad 400))] dX10_isUnder_3 (by decide) rfl ?_
  refine g_iload C 0 dX10_isUnder_5 rfl ?_
  refine g_aload_n C 4 dX10_isUnder_7 rfl ?_
  refine g_slenS C dX10_isUnder_8 ?_
  refine g_icmp_ge C 41 dX10_isUnder_9 (by decide) (fun c1 => absurd c1 (by decide)) (fun _ => ?_)
  refine g_iload_n C 1 dX10_isUnder_12 rfl ?_
  refine g_iload_n C 3 dX10_isUnder_13 rfl ?_
  refine g_icmp_ne C 19 dX10_isUnder_14 (by decide) (fun c2 => ?_) (fun c2 => ?_)
  ·
    have f3 := fne (by decide : (0 : Int32).toInt = 0) rfl c2
    refine g_iload_n C 1 dX10_isUnder_19 rfl ?_
    refine g_if_lt C 29 dX10_isUnder_20 (by decide) (fun c4 => absurd c4 (by decide)) (fun _ => ?_)
    refine g_iload_n C 1 dX10_isUnder_23 rfl ?_
    refine g_aload_n C 4 dX10_isUnder_24 rfl ?_
    refine g_slenS C dX10_isUnder_25 ?_
    refine g_icmp_lt C 31 dX10_isUnder_26 (by decide) (fun _ => ?_) (fun c5 => absurd c5 (by decide))
    refine g_aload_n C 4 dX10_isUnder_31 rfl ?_
    refine g_iload_n C 1 dX10_isUnder_32 rfl ?_
    refine g_sldS C (by unfold vp_in; decide) dX10_isUnder_33 ?_
    refine g_ti (-9) (by decide) ?_
    refine g_istore_n C [(3, .int ((-9))), (4, .int 0), (0, .int 0), (1, .int y), (2, .ref (ad 400))] dX10_isUnder_34 (by decide) rfl ?_
    refine g_iinc C 1 1 [(4, .int 1), (3, .int ((-9))), (0, .int 0), (1, .int y), (2, .ref (ad 400))] dX10_isUnder_35 rfl (by decide) (by decide) rfl ?_
    refine g_goto C 5 dX10_isUnder_38 (by decide) ?_
    refine g_iload C 0 dX10_isUnder_5 rfl ?_
    refine g_aload_n C 4 dX10_isUnder_7 rfl ?_
    refine g_slenS C dX10_isUnder_8 ?_
    refine g_icmp_ge C 41 dX10_isUnder_9 (by decide) (fun c6 => absurd c6 (by decide)) (fun _ => ?_)
    refine g_iload_n C 1 dX10_isUnder_12 rfl ?_
    refine g_iload_n C 3 dX10_isUnder_13 rfl ?_
    refine g_icmp_ne C 19 dX10_isUnder_14 (by decide) (fun c7 => ?_) (fun c7 => ?_)
    ·
      have f8 := fne (by decide : ((-9) : Int32).toInt = (-9)) rfl c7
      refine g_iload_n C 1 dX10_isUnder_19 rfl ?_
      refine g_if_lt C 29 dX10_isUnder_20 (by decide) (fun _ => ?_) (fun c9 => absurd c9 (by decide))
      refine g_iconst C 0 dX10_isUnder_29 (by decide) ?_
      have zx : (0 : Int32).toInt = 0 := by decide
      exact g_zret C hr rfl ⟨rfl, rfl, (by first | (exfalso; omega) | exact Or.inl ⟨rfl, by dsimp only [ofS]; omega⟩ | exact Or.inr ⟨rfl, by dsimp only [ofS]; omega⟩)⟩ dX10_isUnder_30
    ·
      have f10 := feq (by decide : ((-9) : Int32).toInt = (-9)) rfl c7
      refine g_iconst C 1 dX10_isUnder_17 (by decide) ?_
      have zx : (0 : Int32).toInt = 0 := by decide
      exact g_zret C hr rfl ⟨rfl, rfl, (by first | (exfalso; omega) | exact Or.inl ⟨rfl, by dsimp only [ofS]; omega⟩ | exact Or.inr ⟨rfl, by dsimp only [ofS]; omega⟩)⟩ dX10_isUnder_18
  ·
    have f11 := feq (by decide : (0 : Int32).toInt = 0) rfl c2
    refine g_iconst C 1 dX10_isUnder_17 (by decide) ?_
    have zx : (0 : Int32).toInt = 0 := by decide
    exact g_zret C hr rfl ⟨rfl, rfl, (by first | (exfalso; omega) | exact Or.inl ⟨rfl, by dsimp only [ofS]; omega⟩ | exact Or.inr ⟨rfl, by dsimp only [ofS]; omega⟩)⟩ dX10_isUnder_18
set_option maxHeartbeats 4000000 in
set_option maxRecDepth 100000 in
theorem v_isUnderS_1 (l : Launch) (D : va_G) (ad : Nat → Nat) (cs : Nat → ClassId) (M : MI) (L : ML) (y : Int32) (hI : IC M) (hy : 0 ≤ y.toInt) : Ci l yX10_isUnder wsX10_isUnder ({ frames := 0, cells := 0, slots := 0, locals := 0 }) D ad cs [.int 1, .int y, .ref (ad 400)] M L (fun r M1 L1 => M1 = M ∧ L1 = L ∧ zo r (ofS 1 y)) := by
  refine enter_i RX10 rfl [(0, .int 1), (1, .int y), (2, .ref (ad 400))] rfl (Nat.le_of_ble_eq_true rfl) (by decide +kernel) rfl ?_
  intro p e s m below meth c C hr
  have hF : ∀ k i, True → M k i = M k i := fun _ _ _ => rfl
  have hG : ∀ k i, True → L k i = L k i := fun _ _ _ => rfl
  refine g_iload_n C 0 dX10_isUnder_0 rfl ?_
  refine g_istore_n C [(3, .int 1), (0, .int 1), (1, .int y), (2, .ref (ad 400))] dX10_isUnder_1 (by decide) rfl ?_
  refine g_iconst C 0 dX10_isUnder_2 (by decide) ?_
  refine g_istore C [(4, .int 0), (3, .int 1), (0, .int 1), (1, .int y), (2, .ref (ad 400))] dX10_isUnder_3 (by decide) rfl ?_
  refine g_iload C 0 dX10_isUnder_5 rfl ?_
  refine g_aload_n C 4 dX10_isUnder_7 rfl ?_
  refine g_slenS C dX10_isUnder_8 ?_
  refine g_icmp_ge C 41 dX10_isUnder_9 (by decide) (fun c1 => absurd c1 (by decide)) (fun _ => ?_)
  refine g_iload_n C 1 dX10_isUnder_12 rfl ?_
  refine g_iload_n C 3 dX10_isUnder_13 rfl ?_
  refine g_icmp_ne C 19 dX10_isUnder_14 (by decide) (fun c2 => ?_) (fun c2 => ?_)
  ·
    have f3 := fne (by decide : (1 : Int32).toInt = 1) rfl c2
    refine g_iload_n C 1 dX10_isUnder_19 rfl ?_
    refine g_if_lt C 29 dX10_isUnder_20 (by decide) (fun c4 => absurd c4 (by decide)) (fun _ => ?_)
    refine g_iload_n C 1 dX10_isUnder_23 rfl ?_
    refine g_aload_n C 4 dX10_isUnder_24 rfl ?_
    refine g_slenS C dX10_isUnder_25 ?_
    refine g_icmp_lt C 31 dX10_isUnder_26 (by decide) (fun _ => ?_) (fun c5 => absurd c5 (by decide))
    refine g_aload_n C 4 dX10_isUnder_31 rfl ?_
    refine g_iload_n C 1 dX10_isUnder_32 rfl ?_
    refine g_sldS C (by unfold vp_in; decide) dX10_isUnder_33 ?_
    refine g_ti 0 (by decide) ?_
    refine g_istore_n C [(3, .int 0), (4, .int 0), (0, .int 1), (1, .int y), (2, .ref (ad 400))] dX10_isUnder_34 (by decide) rfl ?_
    refine g_iinc C 1 1 [(4, .int 1), (3, .int 0), (0, .int 1), (1, .int y), (2, .ref (ad 400))] dX10_isUnder_35 rfl (by decide) (by decide) rfl ?_
    refine g_goto C 5 dX10_isUnder_38 (by decide) ?_
    refine g_iload C 0 dX10_isUnder_5 rfl ?_
    refine g_aload_n C 4 dX10_isUnder_7 rfl ?_
    refine g_slenS C dX10_isUnder_8 ?_
    refine g_icmp_ge C 41 dX10_isUnder_9 (by decide) (fun c6 => absurd c6 (by decide)) (fun _ => ?_)
    refine g_iload_n C 1 dX10_isUnder_12 rfl ?_
    refine g_iload_n C 3 dX10_isUnder_13 rfl ?_
    refine g_icmp_ne C 19 dX10_isUnder_14 (by decide) (fun c7 => ?_) (fun c7 => ?_)
    ·
      have f8 := fne (by decide : (0 : Int32).toInt = 0) rfl c7
      refine g_iload_n C 1 dX10_isUnder_19 rfl ?_
      refine g_if_lt C 29 dX10_isUnder_20 (by decide) (fun c9 => absurd c9 (by decide)) (fun _ => ?_)
      refine g_iload_n C 1 dX10_isUnder_23 rfl ?_
      refine g_aload_n C 4 dX10_isUnder_24 rfl ?_
      refine g_slenS C dX10_isUnder_25 ?_
      refine g_icmp_lt C 31 dX10_isUnder_26 (by decide) (fun _ => ?_) (fun c10 => absurd c10 (by decide))
      refine g_aload_n C 4 dX10_isUnder_31 rfl ?_
      refine g_iload_n C 1 dX10_isUnder_32 rfl ?_
      refine g_sldS C (by unfold vp_in; decide) dX10_isUnder_33 ?_
      refine g_ti (-9) (by decide) ?_
      refine g_istore_n C [(3, .int ((-9))), (4, .int 1), (0, .int 1), (1, .int y), (2, .ref (ad 400))] dX10_isUnder_34 (by decide) rfl ?_
      refine g_iinc C 1 2 [(4, .int 2), (3, .int ((-9))), (0, .int 1), (1, .int y), (2, .ref (ad 400))] dX10_isUnder_35 rfl (by decide) (by decide) rfl ?_
      refine g_goto C 5 dX10_isUnder_38 (by decide) ?_
      refine g_iload C 0 dX10_isUnder_5 rfl ?_
      refine g_aload_n C 4 dX10_isUnder_7 rfl ?_
      refine g_slenS C dX10_isUnder_8 ?_
      refine g_icmp_ge C 41 dX10_isUnder_9 (by decide) (fun c11 => absurd c11 (by decide)) (fun _ => ?_)
      refine g_iload_n C 1 dX10_isUnder_12 rfl ?_
      refine g_iload_n C 3 dX10_isUnder_13 rfl ?_
      refine g_icmp_ne C 19 dX10_isUnder_14 (by decide) (fun c12 => ?_) (fun c12 => ?_)
      ·
        have f13 := fne (by decide : ((-9) : Int32).toInt = (-9)) rfl c12
        refine g_iload_n C 1 dX10_isUnder_19 rfl ?_
        refine g_if_lt C 29 dX10_isUnder_20 (by decide) (fun _ => ?_) (fun c14 => absurd c14 (by decide))
        refine g_iconst C 0 dX10_isUnder_29 (by decide) ?_
        have zx : (1 : Int32).toInt = 1 := by decide
        exact g_zret C hr rfl ⟨rfl, rfl, (by first | (exfalso; omega) | exact Or.inl ⟨rfl, by dsimp only [ofS]; omega⟩ | exact Or.inr ⟨rfl, by dsimp only [ofS]; omega⟩)⟩ dX10_isUnder_30
      ·
        have f15 := feq (by decide : ((-9) : Int32).toInt = (-9)) rfl c12
        refine g_iconst C 1 dX10_isUnder_17 (by decide) ?_
        have zx : (1 : Int32).toInt = 1 := by decide
        exact g_zret C hr rfl ⟨rfl, rfl, (by first | (exfalso; omega) | exact Or.inl ⟨rfl, by dsimp only [ofS]; omega⟩ | exact Or.inr ⟨rfl, by dsimp only [ofS]; omega⟩)⟩ dX10_isUnder_18
    ·
      have f16 := feq (by decide : (0 : Int32).toInt = 0) rfl c7
      refine g_iconst C 1 dX10_isUnder_17 (by decide) ?_
      have zx : (1 : Int32).toInt = 1 := by decide
      exact g_zret C hr rfl ⟨rfl, rfl, (by first | (exfalso; omega) | exact Or.inl ⟨rfl, by dsimp only [ofS]; omega⟩ | exact Or.inr ⟨rfl, by dsimp only [ofS]; omega⟩)⟩ dX10_isUnder_18
  ·
    have f17 := feq (by decide : (1 : Int32).toInt = 1) rfl c2
    refine g_iconst C 1 dX10_isUnder_17 (by decide) ?_
    have zx : (1 : Int32).toInt = 1 := by decide
    exact g_zret C hr rfl ⟨rfl, rfl, (by first | (exfalso; omega) | exact Or.inl ⟨rfl, by dsimp only [ofS]; omega⟩ | exact Or.inr ⟨rfl, by dsimp only [ofS]; omega⟩)⟩ dX10_isUnder_18
set_option maxHeartbeats 4000000 in
set_option maxRecDepth 100000 in
theorem v_isUnderS_2 (l : Launch) (D : va_G) (ad : Nat → Nat) (cs : Nat → ClassId) (M : MI) (L : ML) (y : Int32) (hI : IC M) (hy : 0 ≤ y.toInt) : Ci l yX10_isUnder wsX10_isUnder ({ frames := 0, cells := 0, slots := 0, locals := 0 }) D ad cs [.int 2, .int y, .ref (ad 400)] M L (fun r M1 L1 => M1 = M ∧ L1 = L ∧ zo r (ofS 2 y)) := by
  refine enter_i RX10 rfl [(0, .int 2), (1, .int y), (2, .ref (ad 400))] rfl (Nat.le_of_ble_eq_true rfl) (by decide +kernel) rfl ?_
  intro p e s m below meth c C hr
  have hF : ∀ k i, True → M k i = M k i := fun _ _ _ => rfl
  have hG : ∀ k i, True → L k i = L k i := fun _ _ _ => rfl
  refine g_iload_n C 0 dX10_isUnder_0 rfl ?_
  refine g_istore_n C [(3, .int 2), (0, .int 2), (1, .int y), (2, .ref (ad 400))] dX10_isUnder_1 (by decide) rfl ?_
  refine g_iconst C 0 dX10_isUnder_2 (by decide) ?_
  refine g_istore C [(4, .int 0), (3, .int 2), (0, .int 2), (1, .int y), (2, .ref (ad 400))] dX10_isUnder_3 (by decide) rfl ?_
  refine g_iload C 0 dX10_isUnder_5 rfl ?_
  refine g_aload_n C 4 dX10_isUnder_7 rfl ?_
  refine g_slenS C dX10_isUnder_8 ?_
  refine g_icmp_ge C 41 dX10_isUnder_9 (by decide) (fun c1 => absurd c1 (by decide)) (fun _ => ?_)
  refine g_iload_n C 1 dX10_isUnder_12 rfl ?_
  refine g_iload_n C 3 dX10_isUnder_13 rfl ?_
  refine g_icmp_ne C 19 dX10_isUnder_14 (by decide) (fun c2 => ?_) (fun c2 => ?_)
  ·
    have f3 := fne (by decide : (2 : Int32).toInt = 2) rfl c2
    refine g_iload_n C 1 dX10_isUnder_19 rfl ?_
    refine g_if_lt C 29 dX10_isUnder_20 (by decide) (fun c4 => absurd c4 (by decide)) (fun _ => ?_)
    refine g_iload_n C 1 dX10_isUnder_23 rfl ?_
    refine g_aload_n C 4 dX10_isUnder_24 rfl ?_
    refine g_slenS C dX10_isUnder_25 ?_
    refine g_icmp_lt C 31 dX10_isUnder_26 (by decide) (fun _ => ?_) (fun c5 => absurd c5 (by decide))
    refine g_aload_n C 4 dX10_isUnder_31 rfl ?_
    refine g_iload_n C 1 dX10_isUnder_32 rfl ?_
    refine g_sldS C (by unfold vp_in; decide) dX10_isUnder_33 ?_
    refine g_ti 1 (by decide) ?_
    refine g_istore_n C [(3, .int 1), (4, .int 0), (0, .int 2), (1, .int y), (2, .ref (ad 400))] dX10_isUnder_34 (by decide) rfl ?_
    refine g_iinc C 1 1 [(4, .int 1), (3, .int 1), (0, .int 2), (1, .int y), (2, .ref (ad 400))] dX10_isUnder_35 rfl (by decide) (by decide) rfl ?_
    refine g_goto C 5 dX10_isUnder_38 (by decide) ?_
    refine g_iload C 0 dX10_isUnder_5 rfl ?_
    refine g_aload_n C 4 dX10_isUnder_7 rfl ?_
    refine g_slenS C dX10_isUnder_8 ?_
    refine g_icmp_ge C 41 dX10_isUnder_9 (by decide) (fun c6 => absurd c6 (by decide)) (fun _ => ?_)
    refine g_iload_n C 1 dX10_isUnder_12 rfl ?_
    refine g_iload_n C 3 dX10_isUnder_13 rfl ?_
    refine g_icmp_ne C 19 dX10_isUnder_14 (by decide) (fun c7 => ?_) (fun c7 => ?_)
    ·
      have f8 := fne (by decide : (1 : Int32).toInt = 1) rfl c7
      refine g_iload_n C 1 dX10_isUnder_19 rfl ?_
      refine g_if_lt C 29 dX10_isUnder_20 (by decide) (fun c9 => absurd c9 (by decide)) (fun _ => ?_)
      refine g_iload_n C 1 dX10_isUnder_23 rfl ?_
      refine g_aload_n C 4 dX10_isUnder_24 rfl ?_
      refine g_slenS C dX10_isUnder_25 ?_
      refine g_icmp_lt C 31 dX10_isUnder_26 (by decide) (fun _ => ?_) (fun c10 => absurd c10 (by decide))
      refine g_aload_n C 4 dX10_isUnder_31 rfl ?_
      refine g_iload_n C 1 dX10_isUnder_32 rfl ?_
      refine g_sldS C (by unfold vp_in; decide) dX10_isUnder_33 ?_
      refine g_ti 0 (by decide) ?_
      refine g_istore_n C [(3, .int 0), (4, .int 1), (0, .int 2), (1, .int y), (2, .ref (ad 400))] dX10_isUnder_34 (by decide) rfl ?_
      refine g_iinc C 1 2 [(4, .int 2), (3, .int 0), (0, .int 2), (1, .int y), (2, .ref (ad 400))] dX10_isUnder_35 rfl (by decide) (by decide) rfl ?_
      refine g_goto C 5 dX10_isUnder_38 (by decide) ?_
      refine g_iload C 0 dX10_isUnder_5 rfl ?_
      refine g_aload_n C 4 dX10_isUnder_7 rfl ?_
      refine g_slenS C dX10_isUnder_8 ?_
      refine g_icmp_ge C 41 dX10_isUnder_9 (by decide) (fun c11 => absurd c11 (by decide)) (fun _ => ?_)
      refine g_iload_n C 1 dX10_isUnder_12 rfl ?_
      refine g_iload_n C 3 dX10_isUnder_13 rfl ?_
      refine g_icmp_ne C 19 dX10_isUnder_14 (by decide) (fun c12 => ?_) (fun c12 => ?_)
      ·
        have f13 := fne (by decide : (0 : Int32).toInt = 0) rfl c12
        refine g_iload_n C 1 dX10_isUnder_19 rfl ?_
        refine g_if_lt C 29 dX10_isUnder_20 (by decide) (fun c14 => absurd c14 (by decide)) (fun _ => ?_)
        refine g_iload_n C 1 dX10_isUnder_23 rfl ?_
        refine g_aload_n C 4 dX10_isUnder_24 rfl ?_
        refine g_slenS C dX10_isUnder_25 ?_
        refine g_icmp_lt C 31 dX10_isUnder_26 (by decide) (fun _ => ?_) (fun c15 => absurd c15 (by decide))
        refine g_aload_n C 4 dX10_isUnder_31 rfl ?_
        refine g_iload_n C 1 dX10_isUnder_32 rfl ?_
        refine g_sldS C (by unfold vp_in; decide) dX10_isUnder_33 ?_
        refine g_ti (-9) (by decide) ?_
        refine g_istore_n C [(3, .int ((-9))), (4, .int 2), (0, .int 2), (1, .int y), (2, .ref (ad 400))] dX10_isUnder_34 (by decide) rfl ?_
        refine g_iinc C 1 3 [(4, .int 3), (3, .int ((-9))), (0, .int 2), (1, .int y), (2, .ref (ad 400))] dX10_isUnder_35 rfl (by decide) (by decide) rfl ?_
        refine g_goto C 5 dX10_isUnder_38 (by decide) ?_
        refine g_iload C 0 dX10_isUnder_5 rfl ?_
        refine g_aload_n C 4 dX10_isUnder_7 rfl ?_
        refine g_slenS C dX10_isUnder_8 ?_
        refine g_icmp_ge C 41 dX10_isUnder_9 (by decide) (fun c16 => absurd c16 (by decide)) (fun _ => ?_)
        refine g_iload_n C 1 dX10_isUnder_12 rfl ?_
        refine g_iload_n C 3 dX10_isUnder_13 rfl ?_
        refine g_icmp_ne C 19 dX10_isUnder_14 (by decide) (fun c17 => ?_) (fun c17 => ?_)
        ·
          have f18 := fne (by decide : ((-9) : Int32).toInt = (-9)) rfl c17
          refine g_iload_n C 1 dX10_isUnder_19 rfl ?_
          refine g_if_lt C 29 dX10_isUnder_20 (by decide) (fun _ => ?_) (fun c19 => absurd c19 (by decide))
          refine g_iconst C 0 dX10_isUnder_29 (by decide) ?_
          have zx : (2 : Int32).toInt = 2 := by decide
          exact g_zret C hr rfl ⟨rfl, rfl, (by first | (exfalso; omega) | exact Or.inl ⟨rfl, by dsimp only [ofS]; omega⟩ | exact Or.inr ⟨rfl, by dsimp only [ofS]; omega⟩)⟩ dX10_isUnder_30
        ·
          have f20 := feq (by decide : ((-9) : Int32).toInt = (-9)) rfl c17
          refine g_iconst C 1 dX10_isUnder_17 (by decide) ?_
          have zx : (2 : Int32).toInt = 2 := by decide
          exact g_zret C hr rfl ⟨rfl, rfl, (by first | (exfalso; omega) | exact Or.inl ⟨rfl, by dsimp only [ofS]; omega⟩ | exact Or.inr ⟨rfl, by dsimp only [ofS]; omega⟩)⟩ dX10_isUnder_18
      ·
        have f21 := feq (by decide : (0 : Int32).toInt = 0) rfl c12
        refine g_iconst C 1 dX10_isUnder_17 (by decide) ?_
        have zx : (2 : Int32).toInt = 2 := by decide
        exact g_zret C hr rfl ⟨rfl, rfl, (by first | (exfalso; omega) | exact Or.inl ⟨rfl, by dsimp only [ofS]; omega⟩ | exact Or.inr ⟨rfl, by dsimp only [ofS]; omega⟩)⟩ dX10_isUnder_18
    ·
      have f22 := feq (by decide : (1 : Int32).toInt = 1) rfl c7
      refine g_iconst C 1 dX10_isUnder_17 (by decide) ?_
      have zx : (2 : Int32).toInt = 2 := by decide
      exact g_zret C hr rfl ⟨rfl, rfl, (by first | (exfalso; omega) | exact Or.inl ⟨rfl, by dsimp only [ofS]; omega⟩ | exact Or.inr ⟨rfl, by dsimp only [ofS]; omega⟩)⟩ dX10_isUnder_18
  ·
    have f23 := feq (by decide : (2 : Int32).toInt = 2) rfl c2
    refine g_iconst C 1 dX10_isUnder_17 (by decide) ?_
    have zx : (2 : Int32).toInt = 2 := by decide
    exact g_zret C hr rfl ⟨rfl, rfl, (by first | (exfalso; omega) | exact Or.inl ⟨rfl, by dsimp only [ofS]; omega⟩ | exact Or.inr ⟨rfl, by dsimp only [ofS]; omega⟩)⟩ dX10_isUnder_18
set_option maxHeartbeats 4000000 in
set_option maxRecDepth 100000 in
theorem v_isUnderS_3 (l : Launch) (D : va_G) (ad : Nat → Nat) (cs : Nat → ClassId) (M : MI) (L : ML) (y : Int32) (hI : IC M) (hy : 0 ≤ y.toInt) : Ci l yX10_isUnder wsX10_isUnder ({ frames := 0, cells := 0, slots := 0, locals := 0 }) D ad cs [.int 3, .int y, .ref (ad 400)] M L (fun r M1 L1 => M1 = M ∧ L1 = L ∧ zo r (ofS 3 y)) := by
  refine enter_i RX10 rfl [(0, .int 3), (1, .int y), (2, .ref (ad 400))] rfl (Nat.le_of_ble_eq_true rfl) (by decide +kernel) rfl ?_
  intro p e s m below meth c C hr
  have hF : ∀ k i, True → M k i = M k i := fun _ _ _ => rfl
  have hG : ∀ k i, True → L k i = L k i := fun _ _ _ => rfl
  refine g_iload_n C 0 dX10_isUnder_0 rfl ?_
  refine g_istore_n C [(3, .int 3), (0, .int 3), (1, .int y), (2, .ref (ad 400))] dX10_isUnder_1 (by decide) rfl ?_
  refine g_iconst C 0 dX10_isUnder_2 (by decide) ?_
  refine g_istore C [(4, .int 0), (3, .int 3), (0, .int 3), (1, .int y), (2, .ref (ad 400))] dX10_isUnder_3 (by decide) rfl ?_
  refine g_iload C 0 dX10_isUnder_5 rfl ?_
  refine g_aload_n C 4 dX10_isUnder_7 rfl ?_
  refine g_slenS C dX10_isUnder_8 ?_
  refine g_icmp_ge C 41 dX10_isUnder_9 (by decide) (fun c1 => absurd c1 (by decide)) (fun _ => ?_)
  refine g_iload_n C 1 dX10_isUnder_12 rfl ?_
  refine g_iload_n C 3 dX10_isUnder_13 rfl ?_
  refine g_icmp_ne C 19 dX10_isUnder_14 (by decide) (fun c2 => ?_) (fun c2 => ?_)
  ·
    have f3 := fne (by decide : (3 : Int32).toInt = 3) rfl c2
    refine g_iload_n C 1 dX10_isUnder_19 rfl ?_
    refine g_if_lt C 29 dX10_isUnder_20 (by decide) (fun c4 => absurd c4 (by decide)) (fun _ => ?_)
    refine g_iload_n C 1 dX10_isUnder_23 rfl ?_
    refine g_aload_n C 4 dX10_isUnder_24 rfl ?_
    refine g_slenS C dX10_isUnder_25 ?_
    refine g_icmp_lt C 31 dX10_isUnder_26 (by decide) (fun _ => ?_) (fun c5 => absurd c5 (by decide))
    refine g_aload_n C 4 dX10_isUnder_31 rfl ?_
    refine g_iload_n C 1 dX10_isUnder_32 rfl ?_
    refine g_sldS C (by unfold vp_in; decide) dX10_isUnder_33 ?_
    refine g_ti 0 (by decide) ?_
    refine g_istore_n C [(3, .int 0), (4, .int 0), (0, .int 3), (1, .int y), (2, .ref (ad 400))] dX10_isUnder_34 (by decide) rfl ?_
    refine g_iinc C 1 1 [(4, .int 1), (3, .int 0), (0, .int 3), (1, .int y), (2, .ref (ad 400))] dX10_isUnder_35 rfl (by decide) (by decide) rfl ?_
    refine g_goto C 5 dX10_isUnder_38 (by decide) ?_
    refine g_iload C 0 dX10_isUnder_5 rfl ?_
    refine g_aload_n C 4 dX10_isUnder_7 rfl ?_
    refine g_slenS C dX10_isUnder_8 ?_
    refine g_icmp_ge C 41 dX10_isUnder_9 (by decide) (fun c6 => absurd c6 (by decide)) (fun _ => ?_)
    refine g_iload_n C 1 dX10_isUnder_12 rfl ?_
    refine g_iload_n C 3 dX10_isUnder_13 rfl ?_
    refine g_icmp_ne C 19 dX10_isUnder_14 (by decide) (fun c7 => ?_) (fun c7 => ?_)
    ·
      have f8 := fne (by decide : (0 : Int32).toInt = 0) rfl c7
      refine g_iload_n C 1 dX10_isUnder_19 rfl ?_
      refine g_if_lt C 29 dX10_isUnder_20 (by decide) (fun c9 => absurd c9 (by decide)) (fun _ => ?_)
      refine g_iload_n C 1 dX10_isUnder_23 rfl ?_
      refine g_aload_n C 4 dX10_isUnder_24 rfl ?_
      refine g_slenS C dX10_isUnder_25 ?_
      refine g_icmp_lt C 31 dX10_isUnder_26 (by decide) (fun _ => ?_) (fun c10 => absurd c10 (by decide))
      refine g_aload_n C 4 dX10_isUnder_31 rfl ?_
      refine g_iload_n C 1 dX10_isUnder_32 rfl ?_
      refine g_sldS C (by unfold vp_in; decide) dX10_isUnder_33 ?_
      refine g_ti (-9) (by decide) ?_
      refine g_istore_n C [(3, .int ((-9))), (4, .int 1), (0, .int 3), (1, .int y), (2, .ref (ad 400))] dX10_isUnder_34 (by decide) rfl ?_
      refine g_iinc C 1 2 [(4, .int 2), (3, .int ((-9))), (0, .int 3), (1, .int y), (2, .ref (ad 400))] dX10_isUnder_35 rfl (by decide) (by decide) rfl ?_
      refine g_goto C 5 dX10_isUnder_38 (by decide) ?_
      refine g_iload C 0 dX10_isUnder_5 rfl ?_
      refine g_aload_n C 4 dX10_isUnder_7 rfl ?_
      refine g_slenS C dX10_isUnder_8 ?_
      refine g_icmp_ge C 41 dX10_isUnder_9 (by decide) (fun c11 => absurd c11 (by decide)) (fun _ => ?_)
      refine g_iload_n C 1 dX10_isUnder_12 rfl ?_
      refine g_iload_n C 3 dX10_isUnder_13 rfl ?_
      refine g_icmp_ne C 19 dX10_isUnder_14 (by decide) (fun c12 => ?_) (fun c12 => ?_)
      ·
        have f13 := fne (by decide : ((-9) : Int32).toInt = (-9)) rfl c12
        refine g_iload_n C 1 dX10_isUnder_19 rfl ?_
        refine g_if_lt C 29 dX10_isUnder_20 (by decide) (fun _ => ?_) (fun c14 => absurd c14 (by decide))
        refine g_iconst C 0 dX10_isUnder_29 (by decide) ?_
        have zx : (3 : Int32).toInt = 3 := by decide
        exact g_zret C hr rfl ⟨rfl, rfl, (by first | (exfalso; omega) | exact Or.inl ⟨rfl, by dsimp only [ofS]; omega⟩ | exact Or.inr ⟨rfl, by dsimp only [ofS]; omega⟩)⟩ dX10_isUnder_30
      ·
        have f15 := feq (by decide : ((-9) : Int32).toInt = (-9)) rfl c12
        refine g_iconst C 1 dX10_isUnder_17 (by decide) ?_
        have zx : (3 : Int32).toInt = 3 := by decide
        exact g_zret C hr rfl ⟨rfl, rfl, (by first | (exfalso; omega) | exact Or.inl ⟨rfl, by dsimp only [ofS]; omega⟩ | exact Or.inr ⟨rfl, by dsimp only [ofS]; omega⟩)⟩ dX10_isUnder_18
    ·
      have f16 := feq (by decide : (0 : Int32).toInt = 0) rfl c7
      refine g_iconst C 1 dX10_isUnder_17 (by decide) ?_
      have zx : (3 : Int32).toInt = 3 := by decide
      exact g_zret C hr rfl ⟨rfl, rfl, (by first | (exfalso; omega) | exact Or.inl ⟨rfl, by dsimp only [ofS]; omega⟩ | exact Or.inr ⟨rfl, by dsimp only [ofS]; omega⟩)⟩ dX10_isUnder_18
  ·
    have f17 := feq (by decide : (3 : Int32).toInt = 3) rfl c2
    refine g_iconst C 1 dX10_isUnder_17 (by decide) ?_
    have zx : (3 : Int32).toInt = 3 := by decide
    exact g_zret C hr rfl ⟨rfl, rfl, (by first | (exfalso; omega) | exact Or.inl ⟨rfl, by dsimp only [ofS]; omega⟩ | exact Or.inr ⟨rfl, by dsimp only [ofS]; omega⟩)⟩ dX10_isUnder_18
theorem v_isUnderS (l : Launch) (D : va_G) (ad : Nat → Nat) (cs : Nat → ClassId) (M : MI) (L : ML) (x y : Int32) (hI : IC M) (hx : 0 ≤ x.toInt ∧ x.toInt < 4) (hy : 0 ≤ y.toInt) : Ci l yX10_isUnder wsX10_isUnder ({ frames := 0, cells := 0, slots := 0, locals := 0 }) D ad cs [.int x, .int y, .ref (ad 400)] M L (fun r M1 L1 => M1 = M ∧ L1 = L ∧ zo r (ofS x y)) := by
  obtain ⟨h1, h2⟩ := hx
  rcases (show x.toInt = 0 ∨ x.toInt = 1 ∨ x.toInt = 2 ∨ x.toInt = 3 by omega) with h | h | h | h
  · have e : x = 0 := Int32.toInt_inj.mp (by rw [h]; decide)
    subst e
    exact v_isUnderS_0 l D ad cs M L y hI hy
  · have e : x = 1 := Int32.toInt_inj.mp (by rw [h]; decide)
    subst e
    exact v_isUnderS_1 l D ad cs M L y hI hy
  · have e : x = 2 := Int32.toInt_inj.mp (by rw [h]; decide)
    subst e
    exact v_isUnderS_2 l D ad cs M L y hI hy
  · have e : x = 3 := Int32.toInt_inj.mp (by rw [h]; decide)
    subst e
    exact v_isUnderS_3 l D ad cs M L y hI hy
set_option maxHeartbeats 4000000 in
set_option maxRecDepth 100000 in
theorem v_isUnderK_0 (l : Launch) (D : va_G) (ad : Nat → Nat) (cs : Nat → ClassId) (M : MI) (L : ML) (y : Int32) (hI : IC M) (hy : 0 ≤ y.toInt) : Ci l yX10_isUnder wsX10_isUnder ({ frames := 0, cells := 0, slots := 0, locals := 0 }) D ad cs [.int 0, .int y, .ref (ad 401)] M L (fun r M1 L1 => M1 = M ∧ L1 = L ∧ zo r (ofK 0 y)) := by
  refine enter_i RX10 rfl [(0, .int 0), (1, .int y), (2, .ref (ad 401))] rfl (Nat.le_of_ble_eq_true rfl) (by decide +kernel) rfl ?_
  intro p e s m below meth c C hr
  have hF : ∀ k i, True → M k i = M k i := fun _ _ _ => rfl
  have hG : ∀ k i, True → L k i = L k i := fun _ _ _ => rfl
  refine g_iload_n C 0 dX10_isUnder_0 rfl ?_
  refine g_istore_n C [(3, .int 0), (0, .int 0), (1, .int y), (2, .ref (ad 401))] dX10_isUnder_1 (by decide) rfl ?_
  refine g_iconst C 0 dX10_isUnder_2 (by decide) ?_
  refine g_istore C [(4, .int 0), (3, .int 0), (0, .int 0), (1, .int y), (2, .ref (ad 401))] dX10_isUnder_3 (by decide) rfl ?_
  refine g_iload C 0 dX10_isUnder_5 rfl ?_
  refine g_aload_n C 4 dX10_isUnder_7 rfl ?_
  refine g_slenK C dX10_isUnder_8 ?_
  refine g_icmp_ge C 41 dX10_isUnder_9 (by decide) (fun c1 => absurd c1 (by decide)) (fun _ => ?_)
  refine g_iload_n C 1 dX10_isUnder_12 rfl ?_
  refine g_iload_n C 3 dX10_isUnder_13 rfl ?_
  refine g_icmp_ne C 19 dX10_isUnder_14 (by decide) (fun c2 => ?_) (fun c2 => ?_)
  ·
    have f3 := fne (by decide : (0 : Int32).toInt = 0) rfl c2
    refine g_iload_n C 1 dX10_isUnder_19 rfl ?_
    refine g_if_lt C 29 dX10_isUnder_20 (by decide) (fun c4 => absurd c4 (by decide)) (fun _ => ?_)
    refine g_iload_n C 1 dX10_isUnder_23 rfl ?_
    refine g_aload_n C 4 dX10_isUnder_24 rfl ?_
    refine g_slenK C dX10_isUnder_25 ?_
    refine g_icmp_lt C 31 dX10_isUnder_26 (by decide) (fun _ => ?_) (fun c5 => absurd c5 (by decide))
    refine g_aload_n C 4 dX10_isUnder_31 rfl ?_
    refine g_iload_n C 1 dX10_isUnder_32 rfl ?_
    refine g_sldK C (by unfold vp_in; decide) dX10_isUnder_33 ?_
    refine g_ti (-9) (by decide) ?_
    refine g_istore_n C [(3, .int ((-9))), (4, .int 0), (0, .int 0), (1, .int y), (2, .ref (ad 401))] dX10_isUnder_34 (by decide) rfl ?_
    refine g_iinc C 1 1 [(4, .int 1), (3, .int ((-9))), (0, .int 0), (1, .int y), (2, .ref (ad 401))] dX10_isUnder_35 rfl (by decide) (by decide) rfl ?_
    refine g_goto C 5 dX10_isUnder_38 (by decide) ?_
    refine g_iload C 0 dX10_isUnder_5 rfl ?_
    refine g_aload_n C 4 dX10_isUnder_7 rfl ?_
    refine g_slenK C dX10_isUnder_8 ?_
    refine g_icmp_ge C 41 dX10_isUnder_9 (by decide) (fun c6 => absurd c6 (by decide)) (fun _ => ?_)
    refine g_iload_n C 1 dX10_isUnder_12 rfl ?_
    refine g_iload_n C 3 dX10_isUnder_13 rfl ?_
    refine g_icmp_ne C 19 dX10_isUnder_14 (by decide) (fun c7 => ?_) (fun c7 => ?_)
    ·
      have f8 := fne (by decide : ((-9) : Int32).toInt = (-9)) rfl c7
      refine g_iload_n C 1 dX10_isUnder_19 rfl ?_
      refine g_if_lt C 29 dX10_isUnder_20 (by decide) (fun _ => ?_) (fun c9 => absurd c9 (by decide))
      refine g_iconst C 0 dX10_isUnder_29 (by decide) ?_
      have zx : (0 : Int32).toInt = 0 := by decide
      exact g_zret C hr rfl ⟨rfl, rfl, (by first | (exfalso; omega) | exact Or.inl ⟨rfl, by dsimp only [ofK]; omega⟩ | exact Or.inr ⟨rfl, by dsimp only [ofK]; omega⟩)⟩ dX10_isUnder_30
    ·
      have f10 := feq (by decide : ((-9) : Int32).toInt = (-9)) rfl c7
      refine g_iconst C 1 dX10_isUnder_17 (by decide) ?_
      have zx : (0 : Int32).toInt = 0 := by decide
      exact g_zret C hr rfl ⟨rfl, rfl, (by first | (exfalso; omega) | exact Or.inl ⟨rfl, by dsimp only [ofK]; omega⟩ | exact Or.inr ⟨rfl, by dsimp only [ofK]; omega⟩)⟩ dX10_isUnder_18
  ·
    have f11 := feq (by decide : (0 : Int32).toInt = 0) rfl c2
    refine g_iconst C 1 dX10_isUnder_17 (by decide) ?_
    have zx : (0 : Int32).toInt = 0 := by decide
    exact g_zret C hr rfl ⟨rfl, rfl, (by first | (exfalso; omega) | exact Or.inl ⟨rfl, by dsimp only [ofK]; omega⟩ | exact Or.inr ⟨rfl, by dsimp only [ofK]; omega⟩)⟩ dX10_isUnder_18
set_option maxHeartbeats 4000000 in
set_option maxRecDepth 100000 in
theorem v_isUnderK_1 (l : Launch) (D : va_G) (ad : Nat → Nat) (cs : Nat → ClassId) (M : MI) (L : ML) (y : Int32) (hI : IC M) (hy : 0 ≤ y.toInt) : Ci l yX10_isUnder wsX10_isUnder ({ frames := 0, cells := 0, slots := 0, locals := 0 }) D ad cs [.int 1, .int y, .ref (ad 401)] M L (fun r M1 L1 => M1 = M ∧ L1 = L ∧ zo r (ofK 1 y)) := by
  refine enter_i RX10 rfl [(0, .int 1), (1, .int y), (2, .ref (ad 401))] rfl (Nat.le_of_ble_eq_true rfl) (by decide +kernel) rfl ?_
  intro p e s m below meth c C hr
  have hF : ∀ k i, True → M k i = M k i := fun _ _ _ => rfl
  have hG : ∀ k i, True → L k i = L k i := fun _ _ _ => rfl
  refine g_iload_n C 0 dX10_isUnder_0 rfl ?_
  refine g_istore_n C [(3, .int 1), (0, .int 1), (1, .int y), (2, .ref (ad 401))] dX10_isUnder_1 (by decide) rfl ?_
  refine g_iconst C 0 dX10_isUnder_2 (by decide) ?_
  refine g_istore C [(4, .int 0), (3, .int 1), (0, .int 1), (1, .int y), (2, .ref (ad 401))] dX10_isUnder_3 (by decide) rfl ?_
  refine g_iload C 0 dX10_isUnder_5 rfl ?_
  refine g_aload_n C 4 dX10_isUnder_7 rfl ?_
  refine g_slenK C dX10_isUnder_8 ?_
  refine g_icmp_ge C 41 dX10_isUnder_9 (by decide) (fun c1 => absurd c1 (by decide)) (fun _ => ?_)
  refine g_iload_n C 1 dX10_isUnder_12 rfl ?_
  refine g_iload_n C 3 dX10_isUnder_13 rfl ?_
  refine g_icmp_ne C 19 dX10_isUnder_14 (by decide) (fun c2 => ?_) (fun c2 => ?_)
  ·
    have f3 := fne (by decide : (1 : Int32).toInt = 1) rfl c2
    refine g_iload_n C 1 dX10_isUnder_19 rfl ?_
    refine g_if_lt C 29 dX10_isUnder_20 (by decide) (fun c4 => absurd c4 (by decide)) (fun _ => ?_)
    refine g_iload_n C 1 dX10_isUnder_23 rfl ?_
    refine g_aload_n C 4 dX10_isUnder_24 rfl ?_
    refine g_slenK C dX10_isUnder_25 ?_
    refine g_icmp_lt C 31 dX10_isUnder_26 (by decide) (fun _ => ?_) (fun c5 => absurd c5 (by decide))
    refine g_aload_n C 4 dX10_isUnder_31 rfl ?_
    refine g_iload_n C 1 dX10_isUnder_32 rfl ?_
    refine g_sldK C (by unfold vp_in; decide) dX10_isUnder_33 ?_
    refine g_ti (-9) (by decide) ?_
    refine g_istore_n C [(3, .int ((-9))), (4, .int 0), (0, .int 1), (1, .int y), (2, .ref (ad 401))] dX10_isUnder_34 (by decide) rfl ?_
    refine g_iinc C 1 1 [(4, .int 1), (3, .int ((-9))), (0, .int 1), (1, .int y), (2, .ref (ad 401))] dX10_isUnder_35 rfl (by decide) (by decide) rfl ?_
    refine g_goto C 5 dX10_isUnder_38 (by decide) ?_
    refine g_iload C 0 dX10_isUnder_5 rfl ?_
    refine g_aload_n C 4 dX10_isUnder_7 rfl ?_
    refine g_slenK C dX10_isUnder_8 ?_
    refine g_icmp_ge C 41 dX10_isUnder_9 (by decide) (fun c6 => absurd c6 (by decide)) (fun _ => ?_)
    refine g_iload_n C 1 dX10_isUnder_12 rfl ?_
    refine g_iload_n C 3 dX10_isUnder_13 rfl ?_
    refine g_icmp_ne C 19 dX10_isUnder_14 (by decide) (fun c7 => ?_) (fun c7 => ?_)
    ·
      have f8 := fne (by decide : ((-9) : Int32).toInt = (-9)) rfl c7
      refine g_iload_n C 1 dX10_isUnder_19 rfl ?_
      refine g_if_lt C 29 dX10_isUnder_20 (by decide) (fun _ => ?_) (fun c9 => absurd c9 (by decide))
      refine g_iconst C 0 dX10_isUnder_29 (by decide) ?_
      have zx : (1 : Int32).toInt = 1 := by decide
      exact g_zret C hr rfl ⟨rfl, rfl, (by first | (exfalso; omega) | exact Or.inl ⟨rfl, by dsimp only [ofK]; omega⟩ | exact Or.inr ⟨rfl, by dsimp only [ofK]; omega⟩)⟩ dX10_isUnder_30
    ·
      have f10 := feq (by decide : ((-9) : Int32).toInt = (-9)) rfl c7
      refine g_iconst C 1 dX10_isUnder_17 (by decide) ?_
      have zx : (1 : Int32).toInt = 1 := by decide
      exact g_zret C hr rfl ⟨rfl, rfl, (by first | (exfalso; omega) | exact Or.inl ⟨rfl, by dsimp only [ofK]; omega⟩ | exact Or.inr ⟨rfl, by dsimp only [ofK]; omega⟩)⟩ dX10_isUnder_18
  ·
    have f11 := feq (by decide : (1 : Int32).toInt = 1) rfl c2
    refine g_iconst C 1 dX10_isUnder_17 (by decide) ?_
    have zx : (1 : Int32).toInt = 1 := by decide
    exact g_zret C hr rfl ⟨rfl, rfl, (by first | (exfalso; omega) | exact Or.inl ⟨rfl, by dsimp only [ofK]; omega⟩ | exact Or.inr ⟨rfl, by dsimp only [ofK]; omega⟩)⟩ dX10_isUnder_18
set_option maxHeartbeats 4000000 in
set_option maxRecDepth 100000 in
theorem v_isUnderK_2 (l : Launch) (D : va_G) (ad : Nat → Nat) (cs : Nat → ClassId) (M : MI) (L : ML) (y : Int32) (hI : IC M) (hy : 0 ≤ y.toInt) : Ci l yX10_isUnder wsX10_isUnder ({ frames := 0, cells := 0, slots := 0, locals := 0 }) D ad cs [.int 2, .int y, .ref (ad 401)] M L (fun r M1 L1 => M1 = M ∧ L1 = L ∧ zo r (ofK 2 y)) := by
  refine enter_i RX10 rfl [(0, .int 2), (1, .int y), (2, .ref (ad 401))] rfl (Nat.le_of_ble_eq_true rfl) (by decide +kernel) rfl ?_
  intro p e s m below meth c C hr
  have hF : ∀ k i, True → M k i = M k i := fun _ _ _ => rfl
  have hG : ∀ k i, True → L k i = L k i := fun _ _ _ => rfl
  refine g_iload_n C 0 dX10_isUnder_0 rfl ?_
  refine g_istore_n C [(3, .int 2), (0, .int 2), (1, .int y), (2, .ref (ad 401))] dX10_isUnder_1 (by decide) rfl ?_
  refine g_iconst C 0 dX10_isUnder_2 (by decide) ?_
  refine g_istore C [(4, .int 0), (3, .int 2), (0, .int 2), (1, .int y), (2, .ref (ad 401))] dX10_isUnder_3 (by decide) rfl ?_
  refine g_iload C 0 dX10_isUnder_5 rfl ?_
  refine g_aload_n C 4 dX10_isUnder_7 rfl ?_
  refine g_slenK C dX10_isUnder_8 ?_
  refine g_icmp_ge C 41 dX10_isUnder_9 (by decide) (fun c1 => absurd c1 (by decide)) (fun _ => ?_)
  refine g_iload_n C 1 dX10_isUnder_12 rfl ?_
  refine g_iload_n C 3 dX10_isUnder_13 rfl ?_
  refine g_icmp_ne C 19 dX10_isUnder_14 (by decide) (fun c2 => ?_) (fun c2 => ?_)
  ·
    have f3 := fne (by decide : (2 : Int32).toInt = 2) rfl c2
    refine g_iload_n C 1 dX10_isUnder_19 rfl ?_
    refine g_if_lt C 29 dX10_isUnder_20 (by decide) (fun c4 => absurd c4 (by decide)) (fun _ => ?_)
    refine g_iload_n C 1 dX10_isUnder_23 rfl ?_
    refine g_aload_n C 4 dX10_isUnder_24 rfl ?_
    refine g_slenK C dX10_isUnder_25 ?_
    refine g_icmp_lt C 31 dX10_isUnder_26 (by decide) (fun _ => ?_) (fun c5 => absurd c5 (by decide))
    refine g_aload_n C 4 dX10_isUnder_31 rfl ?_
    refine g_iload_n C 1 dX10_isUnder_32 rfl ?_
    refine g_sldK C (by unfold vp_in; decide) dX10_isUnder_33 ?_
    refine g_ti 1 (by decide) ?_
    refine g_istore_n C [(3, .int 1), (4, .int 0), (0, .int 2), (1, .int y), (2, .ref (ad 401))] dX10_isUnder_34 (by decide) rfl ?_
    refine g_iinc C 1 1 [(4, .int 1), (3, .int 1), (0, .int 2), (1, .int y), (2, .ref (ad 401))] dX10_isUnder_35 rfl (by decide) (by decide) rfl ?_
    refine g_goto C 5 dX10_isUnder_38 (by decide) ?_
    refine g_iload C 0 dX10_isUnder_5 rfl ?_
    refine g_aload_n C 4 dX10_isUnder_7 rfl ?_
    refine g_slenK C dX10_isUnder_8 ?_
    refine g_icmp_ge C 41 dX10_isUnder_9 (by decide) (fun c6 => absurd c6 (by decide)) (fun _ => ?_)
    refine g_iload_n C 1 dX10_isUnder_12 rfl ?_
    refine g_iload_n C 3 dX10_isUnder_13 rfl ?_
    refine g_icmp_ne C 19 dX10_isUnder_14 (by decide) (fun c7 => ?_) (fun c7 => ?_)
    ·
      have f8 := fne (by decide : (1 : Int32).toInt = 1) rfl c7
      refine g_iload_n C 1 dX10_isUnder_19 rfl ?_
      refine g_if_lt C 29 dX10_isUnder_20 (by decide) (fun c9 => absurd c9 (by decide)) (fun _ => ?_)
      refine g_iload_n C 1 dX10_isUnder_23 rfl ?_
      refine g_aload_n C 4 dX10_isUnder_24 rfl ?_
      refine g_slenK C dX10_isUnder_25 ?_
      refine g_icmp_lt C 31 dX10_isUnder_26 (by decide) (fun _ => ?_) (fun c10 => absurd c10 (by decide))
      refine g_aload_n C 4 dX10_isUnder_31 rfl ?_
      refine g_iload_n C 1 dX10_isUnder_32 rfl ?_
      refine g_sldK C (by unfold vp_in; decide) dX10_isUnder_33 ?_
      refine g_ti (-9) (by decide) ?_
      refine g_istore_n C [(3, .int ((-9))), (4, .int 1), (0, .int 2), (1, .int y), (2, .ref (ad 401))] dX10_isUnder_34 (by decide) rfl ?_
      refine g_iinc C 1 2 [(4, .int 2), (3, .int ((-9))), (0, .int 2), (1, .int y), (2, .ref (ad 401))] dX10_isUnder_35 rfl (by decide) (by decide) rfl ?_
      refine g_goto C 5 dX10_isUnder_38 (by decide) ?_
      refine g_iload C 0 dX10_isUnder_5 rfl ?_
      refine g_aload_n C 4 dX10_isUnder_7 rfl ?_
      refine g_slenK C dX10_isUnder_8 ?_
      refine g_icmp_ge C 41 dX10_isUnder_9 (by decide) (fun c11 => absurd c11 (by decide)) (fun _ => ?_)
      refine g_iload_n C 1 dX10_isUnder_12 rfl ?_
      refine g_iload_n C 3 dX10_isUnder_13 rfl ?_
      refine g_icmp_ne C 19 dX10_isUnder_14 (by decide) (fun c12 => ?_) (fun c12 => ?_)
      ·
        have f13 := fne (by decide : ((-9) : Int32).toInt = (-9)) rfl c12
        refine g_iload_n C 1 dX10_isUnder_19 rfl ?_
        refine g_if_lt C 29 dX10_isUnder_20 (by decide) (fun _ => ?_) (fun c14 => absurd c14 (by decide))
        refine g_iconst C 0 dX10_isUnder_29 (by decide) ?_
        have zx : (2 : Int32).toInt = 2 := by decide
        exact g_zret C hr rfl ⟨rfl, rfl, (by first | (exfalso; omega) | exact Or.inl ⟨rfl, by dsimp only [ofK]; omega⟩ | exact Or.inr ⟨rfl, by dsimp only [ofK]; omega⟩)⟩ dX10_isUnder_30
      ·
        have f15 := feq (by decide : ((-9) : Int32).toInt = (-9)) rfl c12
        refine g_iconst C 1 dX10_isUnder_17 (by decide) ?_
        have zx : (2 : Int32).toInt = 2 := by decide
        exact g_zret C hr rfl ⟨rfl, rfl, (by first | (exfalso; omega) | exact Or.inl ⟨rfl, by dsimp only [ofK]; omega⟩ | exact Or.inr ⟨rfl, by dsimp only [ofK]; omega⟩)⟩ dX10_isUnder_18
    ·
      have f16 := feq (by decide : (1 : Int32).toInt = 1) rfl c7
      refine g_iconst C 1 dX10_isUnder_17 (by decide) ?_
      have zx : (2 : Int32).toInt = 2 := by decide
      exact g_zret C hr rfl ⟨rfl, rfl, (by first | (exfalso; omega) | exact Or.inl ⟨rfl, by dsimp only [ofK]; omega⟩ | exact Or.inr ⟨rfl, by dsimp only [ofK]; omega⟩)⟩ dX10_isUnder_18
  ·
    have f17 := feq (by decide : (2 : Int32).toInt = 2) rfl c2
    refine g_iconst C 1 dX10_isUnder_17 (by decide) ?_
    have zx : (2 : Int32).toInt = 2 := by decide
    exact g_zret C hr rfl ⟨rfl, rfl, (by first | (exfalso; omega) | exact Or.inl ⟨rfl, by dsimp only [ofK]; omega⟩ | exact Or.inr ⟨rfl, by dsimp only [ofK]; omega⟩)⟩ dX10_isUnder_18
set_option maxHeartbeats 4000000 in
set_option maxRecDepth 100000 in
theorem v_isUnderK_3 (l : Launch) (D : va_G) (ad : Nat → Nat) (cs : Nat → ClassId) (M : MI) (L : ML) (y : Int32) (hI : IC M) (hy : 0 ≤ y.toInt) : Ci l yX10_isUnder wsX10_isUnder ({ frames := 0, cells := 0, slots := 0, locals := 0 }) D ad cs [.int 3, .int y, .ref (ad 401)] M L (fun r M1 L1 => M1 = M ∧ L1 = L ∧ zo r (ofK 3 y)) := by
  refine enter_i RX10 rfl [(0, .int 3), (1, .int y), (2, .ref (ad 401))] rfl (Nat.le_of_ble_eq_true rfl) (by decide +kernel) rfl ?_
  intro p e s m below meth c C hr
  have hF : ∀ k i, True → M k i = M k i := fun _ _ _ => rfl
  have hG : ∀ k i, True → L k i = L k i := fun _ _ _ => rfl
  refine g_iload_n C 0 dX10_isUnder_0 rfl ?_
  refine g_istore_n C [(3, .int 3), (0, .int 3), (1, .int y), (2, .ref (ad 401))] dX10_isUnder_1 (by decide) rfl ?_
  refine g_iconst C 0 dX10_isUnder_2 (by decide) ?_
  refine g_istore C [(4, .int 0), (3, .int 3), (0, .int 3), (1, .int y), (2, .ref (ad 401))] dX10_isUnder_3 (by decide) rfl ?_
  refine g_iload C 0 dX10_isUnder_5 rfl ?_
  refine g_aload_n C 4 dX10_isUnder_7 rfl ?_
  refine g_slenK C dX10_isUnder_8 ?_
  refine g_icmp_ge C 41 dX10_isUnder_9 (by decide) (fun c1 => absurd c1 (by decide)) (fun _ => ?_)
  refine g_iload_n C 1 dX10_isUnder_12 rfl ?_
  refine g_iload_n C 3 dX10_isUnder_13 rfl ?_
  refine g_icmp_ne C 19 dX10_isUnder_14 (by decide) (fun c2 => ?_) (fun c2 => ?_)
  ·
    have f3 := fne (by decide : (3 : Int32).toInt = 3) rfl c2
    refine g_iload_n C 1 dX10_isUnder_19 rfl ?_
    refine g_if_lt C 29 dX10_isUnder_20 (by decide) (fun c4 => absurd c4 (by decide)) (fun _ => ?_)
    refine g_iload_n C 1 dX10_isUnder_23 rfl ?_
    refine g_aload_n C 4 dX10_isUnder_24 rfl ?_
    refine g_slenK C dX10_isUnder_25 ?_
    refine g_icmp_lt C 31 dX10_isUnder_26 (by decide) (fun _ => ?_) (fun c5 => absurd c5 (by decide))
    refine g_aload_n C 4 dX10_isUnder_31 rfl ?_
    refine g_iload_n C 1 dX10_isUnder_32 rfl ?_
    refine g_sldK C (by unfold vp_in; decide) dX10_isUnder_33 ?_
    refine g_ti (-9) (by decide) ?_
    refine g_istore_n C [(3, .int ((-9))), (4, .int 0), (0, .int 3), (1, .int y), (2, .ref (ad 401))] dX10_isUnder_34 (by decide) rfl ?_
    refine g_iinc C 1 1 [(4, .int 1), (3, .int ((-9))), (0, .int 3), (1, .int y), (2, .ref (ad 401))] dX10_isUnder_35 rfl (by decide) (by decide) rfl ?_
    refine g_goto C 5 dX10_isUnder_38 (by decide) ?_
    refine g_iload C 0 dX10_isUnder_5 rfl ?_
    refine g_aload_n C 4 dX10_isUnder_7 rfl ?_
    refine g_slenK C dX10_isUnder_8 ?_
    refine g_icmp_ge C 41 dX10_isUnder_9 (by decide) (fun c6 => absurd c6 (by decide)) (fun _ => ?_)
    refine g_iload_n C 1 dX10_isUnder_12 rfl ?_
    refine g_iload_n C 3 dX10_isUnder_13 rfl ?_
    refine g_icmp_ne C 19 dX10_isUnder_14 (by decide) (fun c7 => ?_) (fun c7 => ?_)
    ·
      have f8 := fne (by decide : ((-9) : Int32).toInt = (-9)) rfl c7
      refine g_iload_n C 1 dX10_isUnder_19 rfl ?_
      refine g_if_lt C 29 dX10_isUnder_20 (by decide) (fun _ => ?_) (fun c9 => absurd c9 (by decide))
      refine g_iconst C 0 dX10_isUnder_29 (by decide) ?_
      have zx : (3 : Int32).toInt = 3 := by decide
      exact g_zret C hr rfl ⟨rfl, rfl, (by first | (exfalso; omega) | exact Or.inl ⟨rfl, by dsimp only [ofK]; omega⟩ | exact Or.inr ⟨rfl, by dsimp only [ofK]; omega⟩)⟩ dX10_isUnder_30
    ·
      have f10 := feq (by decide : ((-9) : Int32).toInt = (-9)) rfl c7
      refine g_iconst C 1 dX10_isUnder_17 (by decide) ?_
      have zx : (3 : Int32).toInt = 3 := by decide
      exact g_zret C hr rfl ⟨rfl, rfl, (by first | (exfalso; omega) | exact Or.inl ⟨rfl, by dsimp only [ofK]; omega⟩ | exact Or.inr ⟨rfl, by dsimp only [ofK]; omega⟩)⟩ dX10_isUnder_18
  ·
    have f11 := feq (by decide : (3 : Int32).toInt = 3) rfl c2
    refine g_iconst C 1 dX10_isUnder_17 (by decide) ?_
    have zx : (3 : Int32).toInt = 3 := by decide
    exact g_zret C hr rfl ⟨rfl, rfl, (by first | (exfalso; omega) | exact Or.inl ⟨rfl, by dsimp only [ofK]; omega⟩ | exact Or.inr ⟨rfl, by dsimp only [ofK]; omega⟩)⟩ dX10_isUnder_18
set_option maxHeartbeats 4000000 in
set_option maxRecDepth 100000 in
theorem v_isUnderK_4 (l : Launch) (D : va_G) (ad : Nat → Nat) (cs : Nat → ClassId) (M : MI) (L : ML) (y : Int32) (hI : IC M) (hy : 0 ≤ y.toInt) : Ci l yX10_isUnder wsX10_isUnder ({ frames := 0, cells := 0, slots := 0, locals := 0 }) D ad cs [.int 4, .int y, .ref (ad 401)] M L (fun r M1 L1 => M1 = M ∧ L1 = L ∧ zo r (ofK 4 y)) := by
  refine enter_i RX10 rfl [(0, .int 4), (1, .int y), (2, .ref (ad 401))] rfl (Nat.le_of_ble_eq_true rfl) (by decide +kernel) rfl ?_
  intro p e s m below meth c C hr
  have hF : ∀ k i, True → M k i = M k i := fun _ _ _ => rfl
  have hG : ∀ k i, True → L k i = L k i := fun _ _ _ => rfl
  refine g_iload_n C 0 dX10_isUnder_0 rfl ?_
  refine g_istore_n C [(3, .int 4), (0, .int 4), (1, .int y), (2, .ref (ad 401))] dX10_isUnder_1 (by decide) rfl ?_
  refine g_iconst C 0 dX10_isUnder_2 (by decide) ?_
  refine g_istore C [(4, .int 0), (3, .int 4), (0, .int 4), (1, .int y), (2, .ref (ad 401))] dX10_isUnder_3 (by decide) rfl ?_
  refine g_iload C 0 dX10_isUnder_5 rfl ?_
  refine g_aload_n C 4 dX10_isUnder_7 rfl ?_
  refine g_slenK C dX10_isUnder_8 ?_
  refine g_icmp_ge C 41 dX10_isUnder_9 (by decide) (fun c1 => absurd c1 (by decide)) (fun _ => ?_)
  refine g_iload_n C 1 dX10_isUnder_12 rfl ?_
  refine g_iload_n C 3 dX10_isUnder_13 rfl ?_
  refine g_icmp_ne C 19 dX10_isUnder_14 (by decide) (fun c2 => ?_) (fun c2 => ?_)
  ·
    have f3 := fne (by decide : (4 : Int32).toInt = 4) rfl c2
    refine g_iload_n C 1 dX10_isUnder_19 rfl ?_
    refine g_if_lt C 29 dX10_isUnder_20 (by decide) (fun c4 => absurd c4 (by decide)) (fun _ => ?_)
    refine g_iload_n C 1 dX10_isUnder_23 rfl ?_
    refine g_aload_n C 4 dX10_isUnder_24 rfl ?_
    refine g_slenK C dX10_isUnder_25 ?_
    refine g_icmp_lt C 31 dX10_isUnder_26 (by decide) (fun _ => ?_) (fun c5 => absurd c5 (by decide))
    refine g_aload_n C 4 dX10_isUnder_31 rfl ?_
    refine g_iload_n C 1 dX10_isUnder_32 rfl ?_
    refine g_sldK C (by unfold vp_in; decide) dX10_isUnder_33 ?_
    refine g_ti (-9) (by decide) ?_
    refine g_istore_n C [(3, .int ((-9))), (4, .int 0), (0, .int 4), (1, .int y), (2, .ref (ad 401))] dX10_isUnder_34 (by decide) rfl ?_
    refine g_iinc C 1 1 [(4, .int 1), (3, .int ((-9))), (0, .int 4), (1, .int y), (2, .ref (ad 401))] dX10_isUnder_35 rfl (by decide) (by decide) rfl ?_
    refine g_goto C 5 dX10_isUnder_38 (by decide) ?_
    refine g_iload C 0 dX10_isUnder_5 rfl ?_
    refine g_aload_n C 4 dX10_isUnder_7 rfl ?_
    refine g_slenK C dX10_isUnder_8 ?_
    refine g_icmp_ge C 41 dX10_isUnder_9 (by decide) (fun c6 => absurd c6 (by decide)) (fun _ => ?_)
    refine g_iload_n C 1 dX10_isUnder_12 rfl ?_
    refine g_iload_n C 3 dX10_isUnder_13 rfl ?_
    refine g_icmp_ne C 19 dX10_isUnder_14 (by decide) (fun c7 => ?_) (fun c7 => ?_)
    ·
      have f8 := fne (by decide : ((-9) : Int32).toInt = (-9)) rfl c7
      refine g_iload_n C 1 dX10_isUnder_19 rfl ?_
      refine g_if_lt C 29 dX10_isUnder_20 (by decide) (fun _ => ?_) (fun c9 => absurd c9 (by decide))
      refine g_iconst C 0 dX10_isUnder_29 (by decide) ?_
      have zx : (4 : Int32).toInt = 4 := by decide
      exact g_zret C hr rfl ⟨rfl, rfl, (by first | (exfalso; omega) | exact Or.inl ⟨rfl, by dsimp only [ofK]; omega⟩ | exact Or.inr ⟨rfl, by dsimp only [ofK]; omega⟩)⟩ dX10_isUnder_30
    ·
      have f10 := feq (by decide : ((-9) : Int32).toInt = (-9)) rfl c7
      refine g_iconst C 1 dX10_isUnder_17 (by decide) ?_
      have zx : (4 : Int32).toInt = 4 := by decide
      exact g_zret C hr rfl ⟨rfl, rfl, (by first | (exfalso; omega) | exact Or.inl ⟨rfl, by dsimp only [ofK]; omega⟩ | exact Or.inr ⟨rfl, by dsimp only [ofK]; omega⟩)⟩ dX10_isUnder_18
  ·
    have f11 := feq (by decide : (4 : Int32).toInt = 4) rfl c2
    refine g_iconst C 1 dX10_isUnder_17 (by decide) ?_
    have zx : (4 : Int32).toInt = 4 := by decide
    exact g_zret C hr rfl ⟨rfl, rfl, (by first | (exfalso; omega) | exact Or.inl ⟨rfl, by dsimp only [ofK]; omega⟩ | exact Or.inr ⟨rfl, by dsimp only [ofK]; omega⟩)⟩ dX10_isUnder_18
set_option maxHeartbeats 4000000 in
set_option maxRecDepth 100000 in
theorem v_isUnderK_5 (l : Launch) (D : va_G) (ad : Nat → Nat) (cs : Nat → ClassId) (M : MI) (L : ML) (y : Int32) (hI : IC M) (hy : 0 ≤ y.toInt) : Ci l yX10_isUnder wsX10_isUnder ({ frames := 0, cells := 0, slots := 0, locals := 0 }) D ad cs [.int 5, .int y, .ref (ad 401)] M L (fun r M1 L1 => M1 = M ∧ L1 = L ∧ zo r (ofK 5 y)) := by
  refine enter_i RX10 rfl [(0, .int 5), (1, .int y), (2, .ref (ad 401))] rfl (Nat.le_of_ble_eq_true rfl) (by decide +kernel) rfl ?_
  intro p e s m below meth c C hr
  have hF : ∀ k i, True → M k i = M k i := fun _ _ _ => rfl
  have hG : ∀ k i, True → L k i = L k i := fun _ _ _ => rfl
  refine g_iload_n C 0 dX10_isUnder_0 rfl ?_
  refine g_istore_n C [(3, .int 5), (0, .int 5), (1, .int y), (2, .ref (ad 401))] dX10_isUnder_1 (by decide) rfl ?_
  refine g_iconst C 0 dX10_isUnder_2 (by decide) ?_
  refine g_istore C [(4, .int 0), (3, .int 5), (0, .int 5), (1, .int y), (2, .ref (ad 401))] dX10_isUnder_3 (by decide) rfl ?_
  refine g_iload C 0 dX10_isUnder_5 rfl ?_
  refine g_aload_n C 4 dX10_isUnder_7 rfl ?_
  refine g_slenK C dX10_isUnder_8 ?_
  refine g_icmp_ge C 41 dX10_isUnder_9 (by decide) (fun c1 => absurd c1 (by decide)) (fun _ => ?_)
  refine g_iload_n C 1 dX10_isUnder_12 rfl ?_
  refine g_iload_n C 3 dX10_isUnder_13 rfl ?_
  refine g_icmp_ne C 19 dX10_isUnder_14 (by decide) (fun c2 => ?_) (fun c2 => ?_)
  ·
    have f3 := fne (by decide : (5 : Int32).toInt = 5) rfl c2
    refine g_iload_n C 1 dX10_isUnder_19 rfl ?_
    refine g_if_lt C 29 dX10_isUnder_20 (by decide) (fun c4 => absurd c4 (by decide)) (fun _ => ?_)
    refine g_iload_n C 1 dX10_isUnder_23 rfl ?_
    refine g_aload_n C 4 dX10_isUnder_24 rfl ?_
    refine g_slenK C dX10_isUnder_25 ?_
    refine g_icmp_lt C 31 dX10_isUnder_26 (by decide) (fun _ => ?_) (fun c5 => absurd c5 (by decide))
    refine g_aload_n C 4 dX10_isUnder_31 rfl ?_
    refine g_iload_n C 1 dX10_isUnder_32 rfl ?_
    refine g_sldK C (by unfold vp_in; decide) dX10_isUnder_33 ?_
    refine g_ti (-9) (by decide) ?_
    refine g_istore_n C [(3, .int ((-9))), (4, .int 0), (0, .int 5), (1, .int y), (2, .ref (ad 401))] dX10_isUnder_34 (by decide) rfl ?_
    refine g_iinc C 1 1 [(4, .int 1), (3, .int ((-9))), (0, .int 5), (1, .int y), (2, .ref (ad 401))] dX10_isUnder_35 rfl (by decide) (by decide) rfl ?_
    refine g_goto C 5 dX10_isUnder_38 (by decide) ?_
    refine g_iload C 0 dX10_isUnder_5 rfl ?_
    refine g_aload_n C 4 dX10_isUnder_7 rfl ?_
    refine g_slenK C dX10_isUnder_8 ?_
    refine g_icmp_ge C 41 dX10_isUnder_9 (by decide) (fun c6 => absurd c6 (by decide)) (fun _ => ?_)
    refine g_iload_n C 1 dX10_isUnder_12 rfl ?_
    refine g_iload_n C 3 dX10_isUnder_13 rfl ?_
    refine g_icmp_ne C 19 dX10_isUnder_14 (by decide) (fun c7 => ?_) (fun c7 => ?_)
    ·
      have f8 := fne (by decide : ((-9) : Int32).toInt = (-9)) rfl c7
      refine g_iload_n C 1 dX10_isUnder_19 rfl ?_
      refine g_if_lt C 29 dX10_isUnder_20 (by decide) (fun _ => ?_) (fun c9 => absurd c9 (by decide))
      refine g_iconst C 0 dX10_isUnder_29 (by decide) ?_
      have zx : (5 : Int32).toInt = 5 := by decide
      exact g_zret C hr rfl ⟨rfl, rfl, (by first | (exfalso; omega) | exact Or.inl ⟨rfl, by dsimp only [ofK]; omega⟩ | exact Or.inr ⟨rfl, by dsimp only [ofK]; omega⟩)⟩ dX10_isUnder_30
    ·
      have f10 := feq (by decide : ((-9) : Int32).toInt = (-9)) rfl c7
      refine g_iconst C 1 dX10_isUnder_17 (by decide) ?_
      have zx : (5 : Int32).toInt = 5 := by decide
      exact g_zret C hr rfl ⟨rfl, rfl, (by first | (exfalso; omega) | exact Or.inl ⟨rfl, by dsimp only [ofK]; omega⟩ | exact Or.inr ⟨rfl, by dsimp only [ofK]; omega⟩)⟩ dX10_isUnder_18
  ·
    have f11 := feq (by decide : (5 : Int32).toInt = 5) rfl c2
    refine g_iconst C 1 dX10_isUnder_17 (by decide) ?_
    have zx : (5 : Int32).toInt = 5 := by decide
    exact g_zret C hr rfl ⟨rfl, rfl, (by first | (exfalso; omega) | exact Or.inl ⟨rfl, by dsimp only [ofK]; omega⟩ | exact Or.inr ⟨rfl, by dsimp only [ofK]; omega⟩)⟩ dX10_isUnder_18
set_option maxHeartbeats 4000000 in
set_option maxRecDepth 100000 in
theorem v_isUnderK_6 (l : Launch) (D : va_G) (ad : Nat → Nat) (cs : Nat → ClassId) (M : MI) (L : ML) (y : Int32) (hI : IC M) (hy : 0 ≤ y.toInt) : Ci l yX10_isUnder wsX10_isUnder ({ frames := 0, cells := 0, slots := 0, locals := 0 }) D ad cs [.int 6, .int y, .ref (ad 401)] M L (fun r M1 L1 => M1 = M ∧ L1 = L ∧ zo r (ofK 6 y)) := by
  refine enter_i RX10 rfl [(0, .int 6), (1, .int y), (2, .ref (ad 401))] rfl (Nat.le_of_ble_eq_true rfl) (by decide +kernel) rfl ?_
  intro p e s m below meth c C hr
  have hF : ∀ k i, True → M k i = M k i := fun _ _ _ => rfl
  have hG : ∀ k i, True → L k i = L k i := fun _ _ _ => rfl
  refine g_iload_n C 0 dX10_isUnder_0 rfl ?_
  refine g_istore_n C [(3, .int 6), (0, .int 6), (1, .int y), (2, .ref (ad 401))] dX10_isUnder_1 (by decide) rfl ?_
  refine g_iconst C 0 dX10_isUnder_2 (by decide) ?_
  refine g_istore C [(4, .int 0), (3, .int 6), (0, .int 6), (1, .int y), (2, .ref (ad 401))] dX10_isUnder_3 (by decide) rfl ?_
  refine g_iload C 0 dX10_isUnder_5 rfl ?_
  refine g_aload_n C 4 dX10_isUnder_7 rfl ?_
  refine g_slenK C dX10_isUnder_8 ?_
  refine g_icmp_ge C 41 dX10_isUnder_9 (by decide) (fun c1 => absurd c1 (by decide)) (fun _ => ?_)
  refine g_iload_n C 1 dX10_isUnder_12 rfl ?_
  refine g_iload_n C 3 dX10_isUnder_13 rfl ?_
  refine g_icmp_ne C 19 dX10_isUnder_14 (by decide) (fun c2 => ?_) (fun c2 => ?_)
  ·
    have f3 := fne (by decide : (6 : Int32).toInt = 6) rfl c2
    refine g_iload_n C 1 dX10_isUnder_19 rfl ?_
    refine g_if_lt C 29 dX10_isUnder_20 (by decide) (fun c4 => absurd c4 (by decide)) (fun _ => ?_)
    refine g_iload_n C 1 dX10_isUnder_23 rfl ?_
    refine g_aload_n C 4 dX10_isUnder_24 rfl ?_
    refine g_slenK C dX10_isUnder_25 ?_
    refine g_icmp_lt C 31 dX10_isUnder_26 (by decide) (fun _ => ?_) (fun c5 => absurd c5 (by decide))
    refine g_aload_n C 4 dX10_isUnder_31 rfl ?_
    refine g_iload_n C 1 dX10_isUnder_32 rfl ?_
    refine g_sldK C (by unfold vp_in; decide) dX10_isUnder_33 ?_
    refine g_ti 0 (by decide) ?_
    refine g_istore_n C [(3, .int 0), (4, .int 0), (0, .int 6), (1, .int y), (2, .ref (ad 401))] dX10_isUnder_34 (by decide) rfl ?_
    refine g_iinc C 1 1 [(4, .int 1), (3, .int 0), (0, .int 6), (1, .int y), (2, .ref (ad 401))] dX10_isUnder_35 rfl (by decide) (by decide) rfl ?_
    refine g_goto C 5 dX10_isUnder_38 (by decide) ?_
    refine g_iload C 0 dX10_isUnder_5 rfl ?_
    refine g_aload_n C 4 dX10_isUnder_7 rfl ?_
    refine g_slenK C dX10_isUnder_8 ?_
    refine g_icmp_ge C 41 dX10_isUnder_9 (by decide) (fun c6 => absurd c6 (by decide)) (fun _ => ?_)
    refine g_iload_n C 1 dX10_isUnder_12 rfl ?_
    refine g_iload_n C 3 dX10_isUnder_13 rfl ?_
    refine g_icmp_ne C 19 dX10_isUnder_14 (by decide) (fun c7 => ?_) (fun c7 => ?_)
    ·
      have f8 := fne (by decide : (0 : Int32).toInt = 0) rfl c7
      refine g_iload_n C 1 dX10_isUnder_19 rfl ?_
      refine g_if_lt C 29 dX10_isUnder_20 (by decide) (fun c9 => absurd c9 (by decide)) (fun _ => ?_)
      refine g_iload_n C 1 dX10_isUnder_23 rfl ?_
      refine g_aload_n C 4 dX10_isUnder_24 rfl ?_
      refine g_slenK C dX10_isUnder_25 ?_
      refine g_icmp_lt C 31 dX10_isUnder_26 (by decide) (fun _ => ?_) (fun c10 => absurd c10 (by decide))
      refine g_aload_n C 4 dX10_isUnder_31 rfl ?_
      refine g_iload_n C 1 dX10_isUnder_32 rfl ?_
      refine g_sldK C (by unfold vp_in; decide) dX10_isUnder_33 ?_
      refine g_ti (-9) (by decide) ?_
      refine g_istore_n C [(3, .int ((-9))), (4, .int 1), (0, .int 6), (1, .int y), (2, .ref (ad 401))] dX10_isUnder_34 (by decide) rfl ?_
      refine g_iinc C 1 2 [(4, .int 2), (3, .int ((-9))), (0, .int 6), (1, .int y), (2, .ref (ad 401))] dX10_isUnder_35 rfl (by decide) (by decide) rfl ?_
      refine g_goto C 5 dX10_isUnder_38 (by decide) ?_
      refine g_iload C 0 dX10_isUnder_5 rfl ?_
      refine g_aload_n C 4 dX10_isUnder_7 rfl ?_
      refine g_slenK C dX10_isUnder_8 ?_
      refine g_icmp_ge C 41 dX10_isUnder_9 (by decide) (fun c11 => absurd c11 (by decide)) (fun _ => ?_)
      refine g_iload_n C 1 dX10_isUnder_12 rfl ?_
      refine g_iload_n C 3 dX10_isUnder_13 rfl ?_
      refine g_icmp_ne C 19 dX10_isUnder_14 (by decide) (fun c12 => ?_) (fun c12 => ?_)
      ·
        have f13 := fne (by decide : ((-9) : Int32).toInt = (-9)) rfl c12
        refine g_iload_n C 1 dX10_isUnder_19 rfl ?_
        refine g_if_lt C 29 dX10_isUnder_20 (by decide) (fun _ => ?_) (fun c14 => absurd c14 (by decide))
        refine g_iconst C 0 dX10_isUnder_29 (by decide) ?_
        have zx : (6 : Int32).toInt = 6 := by decide
        exact g_zret C hr rfl ⟨rfl, rfl, (by first | (exfalso; omega) | exact Or.inl ⟨rfl, by dsimp only [ofK]; omega⟩ | exact Or.inr ⟨rfl, by dsimp only [ofK]; omega⟩)⟩ dX10_isUnder_30
      ·
        have f15 := feq (by decide : ((-9) : Int32).toInt = (-9)) rfl c12
        refine g_iconst C 1 dX10_isUnder_17 (by decide) ?_
        have zx : (6 : Int32).toInt = 6 := by decide
        exact g_zret C hr rfl ⟨rfl, rfl, (by first | (exfalso; omega) | exact Or.inl ⟨rfl, by dsimp only [ofK]; omega⟩ | exact Or.inr ⟨rfl, by dsimp only [ofK]; omega⟩)⟩ dX10_isUnder_18
    ·
      have f16 := feq (by decide : (0 : Int32).toInt = 0) rfl c7
      refine g_iconst C 1 dX10_isUnder_17 (by decide) ?_
      have zx : (6 : Int32).toInt = 6 := by decide
      exact g_zret C hr rfl ⟨rfl, rfl, (by first | (exfalso; omega) | exact Or.inl ⟨rfl, by dsimp only [ofK]; omega⟩ | exact Or.inr ⟨rfl, by dsimp only [ofK]; omega⟩)⟩ dX10_isUnder_18
  ·
    have f17 := feq (by decide : (6 : Int32).toInt = 6) rfl c2
    refine g_iconst C 1 dX10_isUnder_17 (by decide) ?_
    have zx : (6 : Int32).toInt = 6 := by decide
    exact g_zret C hr rfl ⟨rfl, rfl, (by first | (exfalso; omega) | exact Or.inl ⟨rfl, by dsimp only [ofK]; omega⟩ | exact Or.inr ⟨rfl, by dsimp only [ofK]; omega⟩)⟩ dX10_isUnder_18
set_option maxHeartbeats 4000000 in
set_option maxRecDepth 100000 in
theorem v_isUnderK_7 (l : Launch) (D : va_G) (ad : Nat → Nat) (cs : Nat → ClassId) (M : MI) (L : ML) (y : Int32) (hI : IC M) (hy : 0 ≤ y.toInt) : Ci l yX10_isUnder wsX10_isUnder ({ frames := 0, cells := 0, slots := 0, locals := 0 }) D ad cs [.int 7, .int y, .ref (ad 401)] M L (fun r M1 L1 => M1 = M ∧ L1 = L ∧ zo r (ofK 7 y)) := by
  refine enter_i RX10 rfl [(0, .int 7), (1, .int y), (2, .ref (ad 401))] rfl (Nat.le_of_ble_eq_true rfl) (by decide +kernel) rfl ?_
  intro p e s m below meth c C hr
  have hF : ∀ k i, True → M k i = M k i := fun _ _ _ => rfl
  have hG : ∀ k i, True → L k i = L k i := fun _ _ _ => rfl
  refine g_iload_n C 0 dX10_isUnder_0 rfl ?_
  refine g_istore_n C [(3, .int 7), (0, .int 7), (1, .int y), (2, .ref (ad 401))] dX10_isUnder_1 (by decide) rfl ?_
  refine g_iconst C 0 dX10_isUnder_2 (by decide) ?_
  refine g_istore C [(4, .int 0), (3, .int 7), (0, .int 7), (1, .int y), (2, .ref (ad 401))] dX10_isUnder_3 (by decide) rfl ?_
  refine g_iload C 0 dX10_isUnder_5 rfl ?_
  refine g_aload_n C 4 dX10_isUnder_7 rfl ?_
  refine g_slenK C dX10_isUnder_8 ?_
  refine g_icmp_ge C 41 dX10_isUnder_9 (by decide) (fun c1 => absurd c1 (by decide)) (fun _ => ?_)
  refine g_iload_n C 1 dX10_isUnder_12 rfl ?_
  refine g_iload_n C 3 dX10_isUnder_13 rfl ?_
  refine g_icmp_ne C 19 dX10_isUnder_14 (by decide) (fun c2 => ?_) (fun c2 => ?_)
  ·
    have f3 := fne (by decide : (7 : Int32).toInt = 7) rfl c2
    refine g_iload_n C 1 dX10_isUnder_19 rfl ?_
    refine g_if_lt C 29 dX10_isUnder_20 (by decide) (fun c4 => absurd c4 (by decide)) (fun _ => ?_)
    refine g_iload_n C 1 dX10_isUnder_23 rfl ?_
    refine g_aload_n C 4 dX10_isUnder_24 rfl ?_
    refine g_slenK C dX10_isUnder_25 ?_
    refine g_icmp_lt C 31 dX10_isUnder_26 (by decide) (fun _ => ?_) (fun c5 => absurd c5 (by decide))
    refine g_aload_n C 4 dX10_isUnder_31 rfl ?_
    refine g_iload_n C 1 dX10_isUnder_32 rfl ?_
    refine g_sldK C (by unfold vp_in; decide) dX10_isUnder_33 ?_
    refine g_ti 6 (by decide) ?_
    refine g_istore_n C [(3, .int 6), (4, .int 0), (0, .int 7), (1, .int y), (2, .ref (ad 401))] dX10_isUnder_34 (by decide) rfl ?_
    refine g_iinc C 1 1 [(4, .int 1), (3, .int 6), (0, .int 7), (1, .int y), (2, .ref (ad 401))] dX10_isUnder_35 rfl (by decide) (by decide) rfl ?_
    refine g_goto C 5 dX10_isUnder_38 (by decide) ?_
    refine g_iload C 0 dX10_isUnder_5 rfl ?_
    refine g_aload_n C 4 dX10_isUnder_7 rfl ?_
    refine g_slenK C dX10_isUnder_8 ?_
    refine g_icmp_ge C 41 dX10_isUnder_9 (by decide) (fun c6 => absurd c6 (by decide)) (fun _ => ?_)
    refine g_iload_n C 1 dX10_isUnder_12 rfl ?_
    refine g_iload_n C 3 dX10_isUnder_13 rfl ?_
    refine g_icmp_ne C 19 dX10_isUnder_14 (by decide) (fun c7 => ?_) (fun c7 => ?_)
    ·
      have f8 := fne (by decide : (6 : Int32).toInt = 6) rfl c7
      refine g_iload_n C 1 dX10_isUnder_19 rfl ?_
      refine g_if_lt C 29 dX10_isUnder_20 (by decide) (fun c9 => absurd c9 (by decide)) (fun _ => ?_)
      refine g_iload_n C 1 dX10_isUnder_23 rfl ?_
      refine g_aload_n C 4 dX10_isUnder_24 rfl ?_
      refine g_slenK C dX10_isUnder_25 ?_
      refine g_icmp_lt C 31 dX10_isUnder_26 (by decide) (fun _ => ?_) (fun c10 => absurd c10 (by decide))
      refine g_aload_n C 4 dX10_isUnder_31 rfl ?_
      refine g_iload_n C 1 dX10_isUnder_32 rfl ?_
      refine g_sldK C (by unfold vp_in; decide) dX10_isUnder_33 ?_
      refine g_ti 0 (by decide) ?_
      refine g_istore_n C [(3, .int 0), (4, .int 1), (0, .int 7), (1, .int y), (2, .ref (ad 401))] dX10_isUnder_34 (by decide) rfl ?_
      refine g_iinc C 1 2 [(4, .int 2), (3, .int 0), (0, .int 7), (1, .int y), (2, .ref (ad 401))] dX10_isUnder_35 rfl (by decide) (by decide) rfl ?_
      refine g_goto C 5 dX10_isUnder_38 (by decide) ?_
      refine g_iload C 0 dX10_isUnder_5 rfl ?_
      refine g_aload_n C 4 dX10_isUnder_7 rfl ?_
      refine g_slenK C dX10_isUnder_8 ?_
      refine g_icmp_ge C 41 dX10_isUnder_9 (by decide) (fun c11 => absurd c11 (by decide)) (fun _ => ?_)
      refine g_iload_n C 1 dX10_isUnder_12 rfl ?_
      refine g_iload_n C 3 dX10_isUnder_13 rfl ?_
      refine g_icmp_ne C 19 dX10_isUnder_14 (by decide) (fun c12 => ?_) (fun c12 => ?_)
      ·
        have f13 := fne (by decide : (0 : Int32).toInt = 0) rfl c12
        refine g_iload_n C 1 dX10_isUnder_19 rfl ?_
        refine g_if_lt C 29 dX10_isUnder_20 (by decide) (fun c14 => absurd c14 (by decide)) (fun _ => ?_)
        refine g_iload_n C 1 dX10_isUnder_23 rfl ?_
        refine g_aload_n C 4 dX10_isUnder_24 rfl ?_
        refine g_slenK C dX10_isUnder_25 ?_
        refine g_icmp_lt C 31 dX10_isUnder_26 (by decide) (fun _ => ?_) (fun c15 => absurd c15 (by decide))
        refine g_aload_n C 4 dX10_isUnder_31 rfl ?_
        refine g_iload_n C 1 dX10_isUnder_32 rfl ?_
        refine g_sldK C (by unfold vp_in; decide) dX10_isUnder_33 ?_
        refine g_ti (-9) (by decide) ?_
        refine g_istore_n C [(3, .int ((-9))), (4, .int 2), (0, .int 7), (1, .int y), (2, .ref (ad 401))] dX10_isUnder_34 (by decide) rfl ?_
        refine g_iinc C 1 3 [(4, .int 3), (3, .int ((-9))), (0, .int 7), (1, .int y), (2, .ref (ad 401))] dX10_isUnder_35 rfl (by decide) (by decide) rfl ?_
        refine g_goto C 5 dX10_isUnder_38 (by decide) ?_
        refine g_iload C 0 dX10_isUnder_5 rfl ?_
        refine g_aload_n C 4 dX10_isUnder_7 rfl ?_
        refine g_slenK C dX10_isUnder_8 ?_
        refine g_icmp_ge C 41 dX10_isUnder_9 (by decide) (fun c16 => absurd c16 (by decide)) (fun _ => ?_)
        refine g_iload_n C 1 dX10_isUnder_12 rfl ?_
        refine g_iload_n C 3 dX10_isUnder_13 rfl ?_
        refine g_icmp_ne C 19 dX10_isUnder_14 (by decide) (fun c17 => ?_) (fun c17 => ?_)
        ·
          have f18 := fne (by decide : ((-9) : Int32).toInt = (-9)) rfl c17
          refine g_iload_n C 1 dX10_isUnder_19 rfl ?_
          refine g_if_lt C 29 dX10_isUnder_20 (by decide) (fun _ => ?_) (fun c19 => absurd c19 (by decide))
          refine g_iconst C 0 dX10_isUnder_29 (by decide) ?_
          have zx : (7 : Int32).toInt = 7 := by decide
          exact g_zret C hr rfl ⟨rfl, rfl, (by first | (exfalso; omega) | exact Or.inl ⟨rfl, by dsimp only [ofK]; omega⟩ | exact Or.inr ⟨rfl, by dsimp only [ofK]; omega⟩)⟩ dX10_isUnder_30
        ·
          have f20 := feq (by decide : ((-9) : Int32).toInt = (-9)) rfl c17
          refine g_iconst C 1 dX10_isUnder_17 (by decide) ?_
          have zx : (7 : Int32).toInt = 7 := by decide
          exact g_zret C hr rfl ⟨rfl, rfl, (by first | (exfalso; omega) | exact Or.inl ⟨rfl, by dsimp only [ofK]; omega⟩ | exact Or.inr ⟨rfl, by dsimp only [ofK]; omega⟩)⟩ dX10_isUnder_18
      ·
        have f21 := feq (by decide : (0 : Int32).toInt = 0) rfl c12
        refine g_iconst C 1 dX10_isUnder_17 (by decide) ?_
        have zx : (7 : Int32).toInt = 7 := by decide
        exact g_zret C hr rfl ⟨rfl, rfl, (by first | (exfalso; omega) | exact Or.inl ⟨rfl, by dsimp only [ofK]; omega⟩ | exact Or.inr ⟨rfl, by dsimp only [ofK]; omega⟩)⟩ dX10_isUnder_18
    ·
      have f22 := feq (by decide : (6 : Int32).toInt = 6) rfl c7
      refine g_iconst C 1 dX10_isUnder_17 (by decide) ?_
      have zx : (7 : Int32).toInt = 7 := by decide
      exact g_zret C hr rfl ⟨rfl, rfl, (by first | (exfalso; omega) | exact Or.inl ⟨rfl, by dsimp only [ofK]; omega⟩ | exact Or.inr ⟨rfl, by dsimp only [ofK]; omega⟩)⟩ dX10_isUnder_18
  ·
    have f23 := feq (by decide : (7 : Int32).toInt = 7) rfl c2
    refine g_iconst C 1 dX10_isUnder_17 (by decide) ?_
    have zx : (7 : Int32).toInt = 7 := by decide
    exact g_zret C hr rfl ⟨rfl, rfl, (by first | (exfalso; omega) | exact Or.inl ⟨rfl, by dsimp only [ofK]; omega⟩ | exact Or.inr ⟨rfl, by dsimp only [ofK]; omega⟩)⟩ dX10_isUnder_18
set_option maxHeartbeats 4000000 in
set_option maxRecDepth 100000 in
theorem v_isUnderK_8 (l : Launch) (D : va_G) (ad : Nat → Nat) (cs : Nat → ClassId) (M : MI) (L : ML) (y : Int32) (hI : IC M) (hy : 0 ≤ y.toInt) : Ci l yX10_isUnder wsX10_isUnder ({ frames := 0, cells := 0, slots := 0, locals := 0 }) D ad cs [.int 8, .int y, .ref (ad 401)] M L (fun r M1 L1 => M1 = M ∧ L1 = L ∧ zo r (ofK 8 y)) := by
  refine enter_i RX10 rfl [(0, .int 8), (1, .int y), (2, .ref (ad 401))] rfl (Nat.le_of_ble_eq_true rfl) (by decide +kernel) rfl ?_
  intro p e s m below meth c C hr
  have hF : ∀ k i, True → M k i = M k i := fun _ _ _ => rfl
  have hG : ∀ k i, True → L k i = L k i := fun _ _ _ => rfl
  refine g_iload_n C 0 dX10_isUnder_0 rfl ?_
  refine g_istore_n C [(3, .int 8), (0, .int 8), (1, .int y), (2, .ref (ad 401))] dX10_isUnder_1 (by decide) rfl ?_
  refine g_iconst C 0 dX10_isUnder_2 (by decide) ?_
  refine g_istore C [(4, .int 0), (3, .int 8), (0, .int 8), (1, .int y), (2, .ref (ad 401))] dX10_isUnder_3 (by decide) rfl ?_
  refine g_iload C 0 dX10_isUnder_5 rfl ?_
  refine g_aload_n C 4 dX10_isUnder_7 rfl ?_
  refine g_slenK C dX10_isUnder_8 ?_
  refine g_icmp_ge C 41 dX10_isUnder_9 (by decide) (fun c1 => absurd c1 (by decide)) (fun _ => ?_)
  refine g_iload_n C 1 dX10_isUnder_12 rfl ?_
  refine g_iload_n C 3 dX10_isUnder_13 rfl ?_
  refine g_icmp_ne C 19 dX10_isUnder_14 (by decide) (fun c2 => ?_) (fun c2 => ?_)
  ·
    have f3 := fne (by decide : (8 : Int32).toInt = 8) rfl c2
    refine g_iload_n C 1 dX10_isUnder_19 rfl ?_
    refine g_if_lt C 29 dX10_isUnder_20 (by decide) (fun c4 => absurd c4 (by decide)) (fun _ => ?_)
    refine g_iload_n C 1 dX10_isUnder_23 rfl ?_
    refine g_aload_n C 4 dX10_isUnder_24 rfl ?_
    refine g_slenK C dX10_isUnder_25 ?_
    refine g_icmp_lt C 31 dX10_isUnder_26 (by decide) (fun _ => ?_) (fun c5 => absurd c5 (by decide))
    refine g_aload_n C 4 dX10_isUnder_31 rfl ?_
    refine g_iload_n C 1 dX10_isUnder_32 rfl ?_
    refine g_sldK C (by unfold vp_in; decide) dX10_isUnder_33 ?_
    refine g_ti (-9) (by decide) ?_
    refine g_istore_n C [(3, .int ((-9))), (4, .int 0), (0, .int 8), (1, .int y), (2, .ref (ad 401))] dX10_isUnder_34 (by decide) rfl ?_
    refine g_iinc C 1 1 [(4, .int 1), (3, .int ((-9))), (0, .int 8), (1, .int y), (2, .ref (ad 401))] dX10_isUnder_35 rfl (by decide) (by decide) rfl ?_
    refine g_goto C 5 dX10_isUnder_38 (by decide) ?_
    refine g_iload C 0 dX10_isUnder_5 rfl ?_
    refine g_aload_n C 4 dX10_isUnder_7 rfl ?_
    refine g_slenK C dX10_isUnder_8 ?_
    refine g_icmp_ge C 41 dX10_isUnder_9 (by decide) (fun c6 => absurd c6 (by decide)) (fun _ => ?_)
    refine g_iload_n C 1 dX10_isUnder_12 rfl ?_
    refine g_iload_n C 3 dX10_isUnder_13 rfl ?_
    refine g_icmp_ne C 19 dX10_isUnder_14 (by decide) (fun c7 => ?_) (fun c7 => ?_)
    ·
      have f8 := fne (by decide : ((-9) : Int32).toInt = (-9)) rfl c7
      refine g_iload_n C 1 dX10_isUnder_19 rfl ?_
      refine g_if_lt C 29 dX10_isUnder_20 (by decide) (fun _ => ?_) (fun c9 => absurd c9 (by decide))
      refine g_iconst C 0 dX10_isUnder_29 (by decide) ?_
      have zx : (8 : Int32).toInt = 8 := by decide
      exact g_zret C hr rfl ⟨rfl, rfl, (by first | (exfalso; omega) | exact Or.inl ⟨rfl, by dsimp only [ofK]; omega⟩ | exact Or.inr ⟨rfl, by dsimp only [ofK]; omega⟩)⟩ dX10_isUnder_30
    ·
      have f10 := feq (by decide : ((-9) : Int32).toInt = (-9)) rfl c7
      refine g_iconst C 1 dX10_isUnder_17 (by decide) ?_
      have zx : (8 : Int32).toInt = 8 := by decide
      exact g_zret C hr rfl ⟨rfl, rfl, (by first | (exfalso; omega) | exact Or.inl ⟨rfl, by dsimp only [ofK]; omega⟩ | exact Or.inr ⟨rfl, by dsimp only [ofK]; omega⟩)⟩ dX10_isUnder_18
  ·
    have f11 := feq (by decide : (8 : Int32).toInt = 8) rfl c2
    refine g_iconst C 1 dX10_isUnder_17 (by decide) ?_
    have zx : (8 : Int32).toInt = 8 := by decide
    exact g_zret C hr rfl ⟨rfl, rfl, (by first | (exfalso; omega) | exact Or.inl ⟨rfl, by dsimp only [ofK]; omega⟩ | exact Or.inr ⟨rfl, by dsimp only [ofK]; omega⟩)⟩ dX10_isUnder_18
theorem v_isUnderK (l : Launch) (D : va_G) (ad : Nat → Nat) (cs : Nat → ClassId) (M : MI) (L : ML) (x y : Int32) (hI : IC M) (hx : 0 ≤ x.toInt ∧ x.toInt < 9) (hy : 0 ≤ y.toInt) : Ci l yX10_isUnder wsX10_isUnder ({ frames := 0, cells := 0, slots := 0, locals := 0 }) D ad cs [.int x, .int y, .ref (ad 401)] M L (fun r M1 L1 => M1 = M ∧ L1 = L ∧ zo r (ofK x y)) := by
  obtain ⟨h1, h2⟩ := hx
  rcases (show x.toInt = 0 ∨ x.toInt = 1 ∨ x.toInt = 2 ∨ x.toInt = 3 ∨ x.toInt = 4 ∨ x.toInt = 5 ∨ x.toInt = 6 ∨ x.toInt = 7 ∨ x.toInt = 8 by omega) with h | h | h | h | h | h | h | h | h
  · have e : x = 0 := Int32.toInt_inj.mp (by rw [h]; decide)
    subst e
    exact v_isUnderK_0 l D ad cs M L y hI hy
  · have e : x = 1 := Int32.toInt_inj.mp (by rw [h]; decide)
    subst e
    exact v_isUnderK_1 l D ad cs M L y hI hy
  · have e : x = 2 := Int32.toInt_inj.mp (by rw [h]; decide)
    subst e
    exact v_isUnderK_2 l D ad cs M L y hI hy
  · have e : x = 3 := Int32.toInt_inj.mp (by rw [h]; decide)
    subst e
    exact v_isUnderK_3 l D ad cs M L y hI hy
  · have e : x = 4 := Int32.toInt_inj.mp (by rw [h]; decide)
    subst e
    exact v_isUnderK_4 l D ad cs M L y hI hy
  · have e : x = 5 := Int32.toInt_inj.mp (by rw [h]; decide)
    subst e
    exact v_isUnderK_5 l D ad cs M L y hI hy
  · have e : x = 6 := Int32.toInt_inj.mp (by rw [h]; decide)
    subst e
    exact v_isUnderK_6 l D ad cs M L y hI hy
  · have e : x = 7 := Int32.toInt_inj.mp (by rw [h]; decide)
    subst e
    exact v_isUnderK_7 l D ad cs M L y hI hy
  · have e : x = 8 := Int32.toInt_inj.mp (by rw [h]; decide)
    subst e
    exact v_isUnderK_8 l D ad cs M L y hI hy
set_option maxHeartbeats 4000000 in
set_option maxRecDepth 100000 in
theorem v_X0_isOf (l : Launch) (D : va_G) (ad : Nat → Nat) (cs : Nat → ClassId) (M : MI) (L : ML) (b : Int32) (x : Int32) (hI : IC M) (hb : 0 ≤ b.toInt ∧ b.toInt < 60) (hy : 0 ≤ x.toInt) (hS : ∀ b, 0 ≤ (vC M 2 b).toInt ∧ (vC M 2 b).toInt ≤ 3) : Ci l yX0_isOf wsX0_isOf ({ frames := 1, cells := 0, slots := 0, locals := 24 }) D ad cs [.ref (ad 3), .int b, .int x] M L (fun r M1 L1 => M1 = M ∧ L1 = L ∧ (zo r (ofS (vC M 2 (b.toNatClampNeg)) x))) := by
  refine enter_i RX0 rfl [(0, .ref (ad 3)), (1, .int b), (2, .int x)] rfl (Nat.le_of_ble_eq_true rfl) (by decide +kernel) rfl ?_
  intro p e s m below meth c C hr
  have hF : ∀ k i, True → M k i = M k i := fun _ _ _ => rfl
  have hG : ∀ k i, True → L k i = L k i := fun _ _ _ => rfl
  have w0 : (vC M 0 0).toInt = (M 1 0).toInt := rfl
  have w1 : (vC M 0 1).toInt = (M 3 0).toInt := rfl
  have w2 : (vC M 0 2).toInt = (M 68 0).toInt := rfl
  have w3 : (vC M 0 3).toInt = (M 81 0).toInt := rfl
  obtain ⟨y0a, y0b⟩ := (show rg 0 10 (M 1 0) from hI 1 0 rfl)
  obtain ⟨y1a, y1b⟩ := (show rg 0 60 (M 3 0) from hI 3 0 rfl)
  obtain ⟨y2a, y2b⟩ := (show rg 0 8 (M 68 0) from hI 68 0 rfl)
  obtain ⟨y3a, y3b⟩ := (show rg 0 20 (M 81 0) from hI 81 0 rfl)
  obtain ⟨hb1, hb2⟩ := hb
  have hSb := hS b.toNatClampNeg
  refine g_aload_n C 0 dX0_isOf_0 rfl ?_
  refine g_get C (.ref (ad 4)) 1 in_X0_isOf_0 (List.mem_of_getElem? (i := 1) rfl) (by decide) (ce_ball ad cs _ _) rfl (by decide) rfl rfl dX0_isOf_1 ?_
  refine g_iload_n C 1 dX0_isOf_4 rfl ?_
  have nb := ixn (x := b) (by omega)
  refine g_iald C (by decide) (ce_bsort ad cs _ _) (fin' (n := 60) rfl (by omega) (by omega)) dX0_isOf_5 ?_
  refine g_ni (fun v1 ev1 => ?_)
  have gv1 : v1 = vC M 2 b.toNatClampNeg := ev1
  have tv1 := congrArg Int32.toInt gv1
  refine g_iload_n C 2 dX0_isOf_6 rfl ?_
  refine g_getsN C dX0_isOf_7 rfl ?_
  refine g_callSNi C (n := 3) (As := [.int v1, .int x, .ref (ad 400)]) (st := []) (v_isUnderS l D ad cs _ _ v1 x hI ⟨by omega, by omega⟩ hy) gX0_isOf_X10_isUnder_n33 rfl rfl rfl (C.2.2.2.2.2.2.1.2.2.1) (C.2.2.2.2.1 _ (List.mem_of_getElem? (i := 3) rfl)) (List.mem_of_getElem? (i := 2) rfl) (by decide +kernel) ⟨Nat.le_of_ble_eq_true rfl, Nat.le_of_ble_eq_true rfl⟩ rfl (Nat.le_of_ble_eq_true rfl) ⟨Nat.zero_le _, Nat.zero_le _⟩ rfl dX0_isOf_10 (fun r2 M3 L4 hr2 => ?_)
  obtain ⟨hq1, hq2, hr2⟩ := hr2
  obtain rfl := hq1.symm
  obtain rfl := hq2.symm
  obtain ⟨bar2, bbr2⟩ := zo_b hr2
  have hz9 := z_of (r := r2) (by omega) (by omega)
  exact g_zret C hr (by rcases hz9 with h9 | h9 <;> rw [h9] <;> rfl) ⟨rfl, rfl, zo_i hr2 (by dsimp only [ofS]; omega)⟩ dX0_isOf_13
