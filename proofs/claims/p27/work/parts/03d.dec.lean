/-! what stands at a pc, by its bytes -/
theorem u1_run {c : ByteArray} {pc : Nat} {b : UInt8} (h : c.data.toList[pc]? = some b) : (Jvm.ClassFile.Reader.u1 : Jvm.ClassFile.Decoder Nat) c pc = .ok (b.toNat, pc + 1) := by
  have hs : pc < c.size := by
    have := (List.getElem?_eq_some_iff.mp h).1
    simpa using this
  have hb : c[pc] = b := (List.getElem?_eq_some_iff.mp h).2
  unfold Jvm.ClassFile.Reader.u1
  show (if h : pc < c.size then _ else _ : Jvm.ClassFile.Reader _ _) c pc = _
  rw [dif_pos hs, hb]
  rfl
theorem u2_run {c : ByteArray} {pc : Nat} {a b : UInt8} (h1 : c.data.toList[pc]? = some a) (h2 : c.data.toList[pc + 1]? = some b) : (Jvm.ClassFile.Reader.u2 : Jvm.ClassFile.Decoder Nat) c pc = .ok (a.toNat * 256 + b.toNat, pc + 2) := by
  show Except.bind ((Jvm.ClassFile.Reader.u1 : Jvm.ClassFile.Decoder Nat) c pc) (fun p => Except.bind ((Jvm.ClassFile.Reader.u1 : Jvm.ClassFile.Decoder Nat) c p.2) (fun r => .ok (p.1 * 256 + r.1, r.2))) = _
  rw [u1_run h1]
  show Except.bind ((Jvm.ClassFile.Reader.u1 : Jvm.ClassFile.Decoder Nat) c (pc + 1)) (fun r => .ok (a.toNat * 256 + r.1, r.2)) = _
  rw [u1_run h2]
  rfl
theorem s1_run {c : ByteArray} {pc : Nat} {a : UInt8} (h1 : c.data.toList[pc]? = some a) : (Jvm.ClassFile.Reader.s1 : Jvm.ClassFile.Decoder Int) c pc = .ok (Jvm.ClassFile.Reader.signed 8 a.toNat, pc + 1) := by
  show Except.map (fun p => (Jvm.ClassFile.Reader.signed 8 p.1, p.2)) ((Jvm.ClassFile.Reader.u1 : Jvm.ClassFile.Decoder Nat) c pc) = _
  rw [u1_run h1]
  rfl
theorem s2_run {c : ByteArray} {pc : Nat} {a b : UInt8} (h1 : c.data.toList[pc]? = some a) (h2 : c.data.toList[pc + 1]? = some b) : (Jvm.ClassFile.Reader.s2 : Jvm.ClassFile.Decoder Int) c pc = .ok (Jvm.ClassFile.Reader.signed 16 (a.toNat * 256 + b.toNat), pc + 2) := by
  show Except.map (fun p => (Jvm.ClassFile.Reader.signed 16 p.1, p.2)) ((Jvm.ClassFile.Reader.u2 : Jvm.ClassFile.Decoder Nat) c pc) = _
  rw [u2_run h1 h2]
  rfl
theorem runB {c : ByteArray} {pc s n l : Nat} {i : Instr} (e : (Jvm.ClassFile.Reader.u1 : Jvm.ClassFile.Decoder Nat) c pc = .ok (n, pc + 1)) {K : Nat → Jvm.ClassFile.Decoder Instr} (hK : Jvm.ClassFile.Decoder.instr pc = (Jvm.ClassFile.Reader.u1 >>= K)) (h : K n c (pc + 1) = .ok (i, s)) (hs : s = pc + l) : decode c pc = .ok (i, l) := by
  have h1 : Jvm.ClassFile.Decoder.instr pc c pc = .ok (i, s) := by
    rw [hK]
    show Except.bind ((Jvm.ClassFile.Reader.u1 : Jvm.ClassFile.Decoder Nat) c pc) (fun p => K p.1 c p.2) = _
    rw [e]
    exact h
  show Except.bind (Jvm.ClassFile.Decoder.instr pc c pc) (fun p => .ok (p.1, p.2 - pc)) = _
  rw [h1, hs]
  show Except.ok (i, pc + l - pc) = _
  rw [Nat.add_sub_cancel_left]
def ckA (ch : List UInt8) (i b : Nat) : Bool := match ch[i]? with | some x => x.toNat.beq b | none => false
theorem ckA_at {c : ByteArray} {n k i b : Nat} {ch : List UInt8} (q : (c.data.toList.drop n).take k = ch) (h : ckA ch i b = true) : c.data.toList[n + i]? = some (UInt8.ofNat b) ∧ (UInt8.ofNat b).toNat = b := by
  unfold ckA at h
  split at h
  · rename_i x e
    have h1 := Nat.eq_of_beq_eq_true h
    subst h1
    rw [← q, List.getElem?_take] at e
    split at e
    · rw [List.getElem?_drop] at e
      exact ⟨by rw [e]; simp, by simp⟩
    · exact absurd e (by simp)
  · exact absurd h (by decide)
theorem and2 {a b : Bool} (h : (a && b) = true) : a = true ∧ b = true := by cases a <;> cases b <;> first | exact ⟨rfl, rfl⟩ | exact absurd h (by decide)
set_option maxRecDepth 20000 in
theorem dw2 {c : ByteArray} {n i : Nat} {ch : List UInt8} (q : (c.data.toList.drop n).take 35 = ch) (h : ckA ch i 2 = true) : decode c (n + i) = .ok (.iconst (-1), 1) := by
  obtain ⟨h0, e0⟩ := ckA_at q h
  have e := u1_run h0
  rw [e0] at e
  refine @runB c (n + i) (n + i + 1) _ _ _ e _ (by unfold Jvm.ClassFile.Decoder.instr; rfl) ?_ rfl
  rfl
set_option maxRecDepth 20000 in
theorem dw3 {c : ByteArray} {n i : Nat} {ch : List UInt8} (q : (c.data.toList.drop n).take 35 = ch) (h : ckA ch i 3 = true) : decode c (n + i) = .ok (.iconst 0, 1) := by
  obtain ⟨h0, e0⟩ := ckA_at q h
  have e := u1_run h0
  rw [e0] at e
  refine @runB c (n + i) (n + i + 1) _ _ _ e _ (by unfold Jvm.ClassFile.Decoder.instr; rfl) ?_ rfl
  rfl
set_option maxRecDepth 20000 in
theorem dw4 {c : ByteArray} {n i : Nat} {ch : List UInt8} (q : (c.data.toList.drop n).take 35 = ch) (h : ckA ch i 4 = true) : decode c (n + i) = .ok (.iconst 1, 1) := by
  obtain ⟨h0, e0⟩ := ckA_at q h
  have e := u1_run h0
  rw [e0] at e
  refine @runB c (n + i) (n + i + 1) _ _ _ e _ (by unfold Jvm.ClassFile.Decoder.instr; rfl) ?_ rfl
  rfl
set_option maxRecDepth 20000 in
theorem dw5 {c : ByteArray} {n i : Nat} {ch : List UInt8} (q : (c.data.toList.drop n).take 35 = ch) (h : ckA ch i 5 = true) : decode c (n + i) = .ok (.iconst 2, 1) := by
  obtain ⟨h0, e0⟩ := ckA_at q h
  have e := u1_run h0
  rw [e0] at e
  refine @runB c (n + i) (n + i + 1) _ _ _ e _ (by unfold Jvm.ClassFile.Decoder.instr; rfl) ?_ rfl
  rfl
set_option maxRecDepth 20000 in
theorem dw6 {c : ByteArray} {n i : Nat} {ch : List UInt8} (q : (c.data.toList.drop n).take 35 = ch) (h : ckA ch i 6 = true) : decode c (n + i) = .ok (.iconst 3, 1) := by
  obtain ⟨h0, e0⟩ := ckA_at q h
  have e := u1_run h0
  rw [e0] at e
  refine @runB c (n + i) (n + i + 1) _ _ _ e _ (by unfold Jvm.ClassFile.Decoder.instr; rfl) ?_ rfl
  rfl
set_option maxRecDepth 20000 in
theorem dw7 {c : ByteArray} {n i : Nat} {ch : List UInt8} (q : (c.data.toList.drop n).take 35 = ch) (h : ckA ch i 7 = true) : decode c (n + i) = .ok (.iconst 4, 1) := by
  obtain ⟨h0, e0⟩ := ckA_at q h
  have e := u1_run h0
  rw [e0] at e
  refine @runB c (n + i) (n + i + 1) _ _ _ e _ (by unfold Jvm.ClassFile.Decoder.instr; rfl) ?_ rfl
  rfl
set_option maxRecDepth 20000 in
theorem dw8 {c : ByteArray} {n i : Nat} {ch : List UInt8} (q : (c.data.toList.drop n).take 35 = ch) (h : ckA ch i 8 = true) : decode c (n + i) = .ok (.iconst 5, 1) := by
  obtain ⟨h0, e0⟩ := ckA_at q h
  have e := u1_run h0
  rw [e0] at e
  refine @runB c (n + i) (n + i + 1) _ _ _ e _ (by unfold Jvm.ClassFile.Decoder.instr; rfl) ?_ rfl
  rfl
set_option maxRecDepth 20000 in
theorem dw9 {c : ByteArray} {n i : Nat} {ch : List UInt8} (q : (c.data.toList.drop n).take 35 = ch) (h : ckA ch i 9 = true) : decode c (n + i) = .ok (.lconst 0, 1) := by
  obtain ⟨h0, e0⟩ := ckA_at q h
  have e := u1_run h0
  rw [e0] at e
  refine @runB c (n + i) (n + i + 1) _ _ _ e _ (by unfold Jvm.ClassFile.Decoder.instr; rfl) ?_ rfl
  rfl
set_option maxRecDepth 20000 in
theorem dw10 {c : ByteArray} {n i : Nat} {ch : List UInt8} (q : (c.data.toList.drop n).take 35 = ch) (h : ckA ch i 10 = true) : decode c (n + i) = .ok (.lconst 1, 1) := by
  obtain ⟨h0, e0⟩ := ckA_at q h
  have e := u1_run h0
  rw [e0] at e
  refine @runB c (n + i) (n + i + 1) _ _ _ e _ (by unfold Jvm.ClassFile.Decoder.instr; rfl) ?_ rfl
  rfl
set_option maxRecDepth 20000 in
theorem dw16 {c : ByteArray} {n i a : Nat} {v : Int} {ch : List UInt8} (q : (c.data.toList.drop n).take 35 = ch) (h : (ckA ch i 16 && ckA ch (i + 1) a) = true) (hv : Jvm.ClassFile.Reader.signed 8 a = v) : decode c (n + i) = .ok (.bipush v, 2) := by
  obtain ⟨h0, e0⟩ := ckA_at q (and2 h).1
  obtain ⟨h1, e1⟩ := ckA_at q (and2 h).2
  have e := u1_run h0
  rw [e0] at e
  refine @runB c (n + i) (n + i + 2) _ _ _ e _ (by unfold Jvm.ClassFile.Decoder.instr; rfl) ?_ rfl
  show Except.bind ((Jvm.ClassFile.Reader.s1 : Jvm.ClassFile.Decoder Int) c (n + i + 1)) (fun r => .ok (Instr.bipush r.1, r.2)) = _
  rw [s1_run (pc := n + i + 1) h1, e1]
  show Except.ok (Instr.bipush (Jvm.ClassFile.Reader.signed 8 a), n + i + 1 + 1) = _
  rw [hv]
set_option maxRecDepth 20000 in
theorem dw17 {c : ByteArray} {n i a b : Nat} {v : Int} {ch : List UInt8} (q : (c.data.toList.drop n).take 35 = ch) (h : (ckA ch i 17 && (ckA ch (i + 1) a && ckA ch (i + 2) b)) = true) (hv : Jvm.ClassFile.Reader.signed 16 (a * 256 + b) = v) : decode c (n + i) = .ok (.sipush v, 3) := by
  obtain ⟨h0, e0⟩ := ckA_at q (and2 h).1
  obtain ⟨h1, e1⟩ := ckA_at q (and2 (and2 h).2).1
  obtain ⟨h2, e2⟩ := ckA_at q (and2 (and2 h).2).2
  have e := u1_run h0
  rw [e0] at e
  refine @runB c (n + i) (n + i + 3) _ _ _ e _ (by unfold Jvm.ClassFile.Decoder.instr; rfl) ?_ rfl
  show Except.bind ((Jvm.ClassFile.Reader.s2 : Jvm.ClassFile.Decoder Int) c (n + i + 1)) (fun r => .ok (Instr.sipush r.1, r.2)) = _
  rw [s2_run (pc := n + i + 1) h1 h2, e1, e2]
  show Except.ok (Instr.sipush (Jvm.ClassFile.Reader.signed 16 (a * 256 + b)), n + i + 1 + 2) = _
  rw [hv]
set_option maxRecDepth 20000 in
theorem dw18 {c : ByteArray} {n i a : Nat} {v : Nat} {ch : List UInt8} (q : (c.data.toList.drop n).take 35 = ch) (h : (ckA ch i 18 && ckA ch (i + 1) a) = true) (hv : a = v) : decode c (n + i) = .ok (.ldc v, 2) := by
  obtain ⟨h0, e0⟩ := ckA_at q (and2 h).1
  obtain ⟨h1, e1⟩ := ckA_at q (and2 h).2
  have e := u1_run h0
  rw [e0] at e
  refine @runB c (n + i) (n + i + 2) _ _ _ e _ (by unfold Jvm.ClassFile.Decoder.instr; rfl) ?_ rfl
  show Except.bind ((Jvm.ClassFile.Reader.u1 : Jvm.ClassFile.Decoder Nat) c (n + i + 1)) (fun r => .ok (Instr.ldc r.1, r.2)) = _
  rw [u1_run (pc := n + i + 1) h1, e1]
  show Except.ok (Instr.ldc (a), n + i + 1 + 1) = _
  rw [hv]
set_option maxRecDepth 20000 in
theorem dw20 {c : ByteArray} {n i a b : Nat} {v : Nat} {ch : List UInt8} (q : (c.data.toList.drop n).take 35 = ch) (h : (ckA ch i 20 && (ckA ch (i + 1) a && ckA ch (i + 2) b)) = true) (hv : a * 256 + b = v) : decode c (n + i) = .ok (.ldc2_w v, 3) := by
  obtain ⟨h0, e0⟩ := ckA_at q (and2 h).1
  obtain ⟨h1, e1⟩ := ckA_at q (and2 (and2 h).2).1
  obtain ⟨h2, e2⟩ := ckA_at q (and2 (and2 h).2).2
  have e := u1_run h0
  rw [e0] at e
  refine @runB c (n + i) (n + i + 3) _ _ _ e _ (by unfold Jvm.ClassFile.Decoder.instr; rfl) ?_ rfl
  show Except.bind ((Jvm.ClassFile.Reader.u2 : Jvm.ClassFile.Decoder Nat) c (n + i + 1)) (fun r => .ok (Instr.ldc2_w r.1, r.2)) = _
  rw [u2_run (pc := n + i + 1) h1 h2, e1, e2]
  show Except.ok (Instr.ldc2_w (a * 256 + b), n + i + 1 + 2) = _
  rw [hv]
set_option maxRecDepth 20000 in
theorem dw21 {c : ByteArray} {n i a : Nat} {v : Nat} {ch : List UInt8} (q : (c.data.toList.drop n).take 35 = ch) (h : (ckA ch i 21 && ckA ch (i + 1) a) = true) (hv : a = v) : decode c (n + i) = .ok (.iload v, 2) := by
  obtain ⟨h0, e0⟩ := ckA_at q (and2 h).1
  obtain ⟨h1, e1⟩ := ckA_at q (and2 h).2
  have e := u1_run h0
  rw [e0] at e
  refine @runB c (n + i) (n + i + 2) _ _ _ e _ (by unfold Jvm.ClassFile.Decoder.instr; rfl) ?_ rfl
  show Except.bind ((Jvm.ClassFile.Reader.u1 : Jvm.ClassFile.Decoder Nat) c (n + i + 1)) (fun r => .ok (Instr.iload r.1, r.2)) = _
  rw [u1_run (pc := n + i + 1) h1, e1]
  show Except.ok (Instr.iload (a), n + i + 1 + 1) = _
  rw [hv]
set_option maxRecDepth 20000 in
theorem dw22 {c : ByteArray} {n i a : Nat} {v : Nat} {ch : List UInt8} (q : (c.data.toList.drop n).take 35 = ch) (h : (ckA ch i 22 && ckA ch (i + 1) a) = true) (hv : a = v) : decode c (n + i) = .ok (.lload v, 2) := by
  obtain ⟨h0, e0⟩ := ckA_at q (and2 h).1
  obtain ⟨h1, e1⟩ := ckA_at q (and2 h).2
  have e := u1_run h0
  rw [e0] at e
  refine @runB c (n + i) (n + i + 2) _ _ _ e _ (by unfold Jvm.ClassFile.Decoder.instr; rfl) ?_ rfl
  show Except.bind ((Jvm.ClassFile.Reader.u1 : Jvm.ClassFile.Decoder Nat) c (n + i + 1)) (fun r => .ok (Instr.lload r.1, r.2)) = _
  rw [u1_run (pc := n + i + 1) h1, e1]
  show Except.ok (Instr.lload (a), n + i + 1 + 1) = _
  rw [hv]
set_option maxRecDepth 20000 in
theorem dw25 {c : ByteArray} {n i a : Nat} {v : Nat} {ch : List UInt8} (q : (c.data.toList.drop n).take 35 = ch) (h : (ckA ch i 25 && ckA ch (i + 1) a) = true) (hv : a = v) : decode c (n + i) = .ok (.aload v, 2) := by
  obtain ⟨h0, e0⟩ := ckA_at q (and2 h).1
  obtain ⟨h1, e1⟩ := ckA_at q (and2 h).2
  have e := u1_run h0
  rw [e0] at e
  refine @runB c (n + i) (n + i + 2) _ _ _ e _ (by unfold Jvm.ClassFile.Decoder.instr; rfl) ?_ rfl
  show Except.bind ((Jvm.ClassFile.Reader.u1 : Jvm.ClassFile.Decoder Nat) c (n + i + 1)) (fun r => .ok (Instr.aload r.1, r.2)) = _
  rw [u1_run (pc := n + i + 1) h1, e1]
  show Except.ok (Instr.aload (a), n + i + 1 + 1) = _
  rw [hv]
set_option maxRecDepth 20000 in
theorem dw26 {c : ByteArray} {n i : Nat} {ch : List UInt8} (q : (c.data.toList.drop n).take 35 = ch) (h : ckA ch i 26 = true) : decode c (n + i) = .ok (.iload_n 0, 1) := by
  obtain ⟨h0, e0⟩ := ckA_at q h
  have e := u1_run h0
  rw [e0] at e
  refine @runB c (n + i) (n + i + 1) _ _ _ e _ (by unfold Jvm.ClassFile.Decoder.instr; rfl) ?_ rfl
  rfl
set_option maxRecDepth 20000 in
theorem dw27 {c : ByteArray} {n i : Nat} {ch : List UInt8} (q : (c.data.toList.drop n).take 35 = ch) (h : ckA ch i 27 = true) : decode c (n + i) = .ok (.iload_n 1, 1) := by
  obtain ⟨h0, e0⟩ := ckA_at q h
  have e := u1_run h0
  rw [e0] at e
  refine @runB c (n + i) (n + i + 1) _ _ _ e _ (by unfold Jvm.ClassFile.Decoder.instr; rfl) ?_ rfl
  rfl
set_option maxRecDepth 20000 in
theorem dw28 {c : ByteArray} {n i : Nat} {ch : List UInt8} (q : (c.data.toList.drop n).take 35 = ch) (h : ckA ch i 28 = true) : decode c (n + i) = .ok (.iload_n 2, 1) := by
  obtain ⟨h0, e0⟩ := ckA_at q h
  have e := u1_run h0
  rw [e0] at e
  refine @runB c (n + i) (n + i + 1) _ _ _ e _ (by unfold Jvm.ClassFile.Decoder.instr; rfl) ?_ rfl
  rfl
set_option maxRecDepth 20000 in
theorem dw29 {c : ByteArray} {n i : Nat} {ch : List UInt8} (q : (c.data.toList.drop n).take 35 = ch) (h : ckA ch i 29 = true) : decode c (n + i) = .ok (.iload_n 3, 1) := by
  obtain ⟨h0, e0⟩ := ckA_at q h
  have e := u1_run h0
  rw [e0] at e
  refine @runB c (n + i) (n + i + 1) _ _ _ e _ (by unfold Jvm.ClassFile.Decoder.instr; rfl) ?_ rfl
  rfl
set_option maxRecDepth 20000 in
theorem dw30 {c : ByteArray} {n i : Nat} {ch : List UInt8} (q : (c.data.toList.drop n).take 35 = ch) (h : ckA ch i 30 = true) : decode c (n + i) = .ok (.lload_n 0, 1) := by
  obtain ⟨h0, e0⟩ := ckA_at q h
  have e := u1_run h0
  rw [e0] at e
  refine @runB c (n + i) (n + i + 1) _ _ _ e _ (by unfold Jvm.ClassFile.Decoder.instr; rfl) ?_ rfl
  rfl
set_option maxRecDepth 20000 in
theorem dw31 {c : ByteArray} {n i : Nat} {ch : List UInt8} (q : (c.data.toList.drop n).take 35 = ch) (h : ckA ch i 31 = true) : decode c (n + i) = .ok (.lload_n 1, 1) := by
  obtain ⟨h0, e0⟩ := ckA_at q h
  have e := u1_run h0
  rw [e0] at e
  refine @runB c (n + i) (n + i + 1) _ _ _ e _ (by unfold Jvm.ClassFile.Decoder.instr; rfl) ?_ rfl
  rfl
set_option maxRecDepth 20000 in
theorem dw32 {c : ByteArray} {n i : Nat} {ch : List UInt8} (q : (c.data.toList.drop n).take 35 = ch) (h : ckA ch i 32 = true) : decode c (n + i) = .ok (.lload_n 2, 1) := by
  obtain ⟨h0, e0⟩ := ckA_at q h
  have e := u1_run h0
  rw [e0] at e
  refine @runB c (n + i) (n + i + 1) _ _ _ e _ (by unfold Jvm.ClassFile.Decoder.instr; rfl) ?_ rfl
  rfl
set_option maxRecDepth 20000 in
theorem dw33 {c : ByteArray} {n i : Nat} {ch : List UInt8} (q : (c.data.toList.drop n).take 35 = ch) (h : ckA ch i 33 = true) : decode c (n + i) = .ok (.lload_n 3, 1) := by
  obtain ⟨h0, e0⟩ := ckA_at q h
  have e := u1_run h0
  rw [e0] at e
  refine @runB c (n + i) (n + i + 1) _ _ _ e _ (by unfold Jvm.ClassFile.Decoder.instr; rfl) ?_ rfl
  rfl
set_option maxRecDepth 20000 in
theorem dw42 {c : ByteArray} {n i : Nat} {ch : List UInt8} (q : (c.data.toList.drop n).take 35 = ch) (h : ckA ch i 42 = true) : decode c (n + i) = .ok (.aload_n 0, 1) := by
  obtain ⟨h0, e0⟩ := ckA_at q h
  have e := u1_run h0
  rw [e0] at e
  refine @runB c (n + i) (n + i + 1) _ _ _ e _ (by unfold Jvm.ClassFile.Decoder.instr; rfl) ?_ rfl
  rfl
set_option maxRecDepth 20000 in
theorem dw43 {c : ByteArray} {n i : Nat} {ch : List UInt8} (q : (c.data.toList.drop n).take 35 = ch) (h : ckA ch i 43 = true) : decode c (n + i) = .ok (.aload_n 1, 1) := by
  obtain ⟨h0, e0⟩ := ckA_at q h
  have e := u1_run h0
  rw [e0] at e
  refine @runB c (n + i) (n + i + 1) _ _ _ e _ (by unfold Jvm.ClassFile.Decoder.instr; rfl) ?_ rfl
  rfl
set_option maxRecDepth 20000 in
theorem dw44 {c : ByteArray} {n i : Nat} {ch : List UInt8} (q : (c.data.toList.drop n).take 35 = ch) (h : ckA ch i 44 = true) : decode c (n + i) = .ok (.aload_n 2, 1) := by
  obtain ⟨h0, e0⟩ := ckA_at q h
  have e := u1_run h0
  rw [e0] at e
  refine @runB c (n + i) (n + i + 1) _ _ _ e _ (by unfold Jvm.ClassFile.Decoder.instr; rfl) ?_ rfl
  rfl
set_option maxRecDepth 20000 in
theorem dw45 {c : ByteArray} {n i : Nat} {ch : List UInt8} (q : (c.data.toList.drop n).take 35 = ch) (h : ckA ch i 45 = true) : decode c (n + i) = .ok (.aload_n 3, 1) := by
  obtain ⟨h0, e0⟩ := ckA_at q h
  have e := u1_run h0
  rw [e0] at e
  refine @runB c (n + i) (n + i + 1) _ _ _ e _ (by unfold Jvm.ClassFile.Decoder.instr; rfl) ?_ rfl
  rfl
set_option maxRecDepth 20000 in
theorem dw46 {c : ByteArray} {n i : Nat} {ch : List UInt8} (q : (c.data.toList.drop n).take 35 = ch) (h : ckA ch i 46 = true) : decode c (n + i) = .ok (.iaload, 1) := by
  obtain ⟨h0, e0⟩ := ckA_at q h
  have e := u1_run h0
  rw [e0] at e
  refine @runB c (n + i) (n + i + 1) _ _ _ e _ (by unfold Jvm.ClassFile.Decoder.instr; rfl) ?_ rfl
  rfl
set_option maxRecDepth 20000 in
theorem dw47 {c : ByteArray} {n i : Nat} {ch : List UInt8} (q : (c.data.toList.drop n).take 35 = ch) (h : ckA ch i 47 = true) : decode c (n + i) = .ok (.laload, 1) := by
  obtain ⟨h0, e0⟩ := ckA_at q h
  have e := u1_run h0
  rw [e0] at e
  refine @runB c (n + i) (n + i + 1) _ _ _ e _ (by unfold Jvm.ClassFile.Decoder.instr; rfl) ?_ rfl
  rfl
set_option maxRecDepth 20000 in
theorem dw50 {c : ByteArray} {n i : Nat} {ch : List UInt8} (q : (c.data.toList.drop n).take 35 = ch) (h : ckA ch i 50 = true) : decode c (n + i) = .ok (.aaload, 1) := by
  obtain ⟨h0, e0⟩ := ckA_at q h
  have e := u1_run h0
  rw [e0] at e
  refine @runB c (n + i) (n + i + 1) _ _ _ e _ (by unfold Jvm.ClassFile.Decoder.instr; rfl) ?_ rfl
  rfl
set_option maxRecDepth 20000 in
theorem dw51 {c : ByteArray} {n i : Nat} {ch : List UInt8} (q : (c.data.toList.drop n).take 35 = ch) (h : ckA ch i 51 = true) : decode c (n + i) = .ok (.baload, 1) := by
  obtain ⟨h0, e0⟩ := ckA_at q h
  have e := u1_run h0
  rw [e0] at e
  refine @runB c (n + i) (n + i + 1) _ _ _ e _ (by unfold Jvm.ClassFile.Decoder.instr; rfl) ?_ rfl
  rfl
set_option maxRecDepth 20000 in
theorem dw54 {c : ByteArray} {n i a : Nat} {v : Nat} {ch : List UInt8} (q : (c.data.toList.drop n).take 35 = ch) (h : (ckA ch i 54 && ckA ch (i + 1) a) = true) (hv : a = v) : decode c (n + i) = .ok (.istore v, 2) := by
  obtain ⟨h0, e0⟩ := ckA_at q (and2 h).1
  obtain ⟨h1, e1⟩ := ckA_at q (and2 h).2
  have e := u1_run h0
  rw [e0] at e
  refine @runB c (n + i) (n + i + 2) _ _ _ e _ (by unfold Jvm.ClassFile.Decoder.instr; rfl) ?_ rfl
  show Except.bind ((Jvm.ClassFile.Reader.u1 : Jvm.ClassFile.Decoder Nat) c (n + i + 1)) (fun r => .ok (Instr.istore r.1, r.2)) = _
  rw [u1_run (pc := n + i + 1) h1, e1]
  show Except.ok (Instr.istore (a), n + i + 1 + 1) = _
  rw [hv]
set_option maxRecDepth 20000 in
theorem dw55 {c : ByteArray} {n i a : Nat} {v : Nat} {ch : List UInt8} (q : (c.data.toList.drop n).take 35 = ch) (h : (ckA ch i 55 && ckA ch (i + 1) a) = true) (hv : a = v) : decode c (n + i) = .ok (.lstore v, 2) := by
  obtain ⟨h0, e0⟩ := ckA_at q (and2 h).1
  obtain ⟨h1, e1⟩ := ckA_at q (and2 h).2
  have e := u1_run h0
  rw [e0] at e
  refine @runB c (n + i) (n + i + 2) _ _ _ e _ (by unfold Jvm.ClassFile.Decoder.instr; rfl) ?_ rfl
  show Except.bind ((Jvm.ClassFile.Reader.u1 : Jvm.ClassFile.Decoder Nat) c (n + i + 1)) (fun r => .ok (Instr.lstore r.1, r.2)) = _
  rw [u1_run (pc := n + i + 1) h1, e1]
  show Except.ok (Instr.lstore (a), n + i + 1 + 1) = _
  rw [hv]
set_option maxRecDepth 20000 in
theorem dw58 {c : ByteArray} {n i a : Nat} {v : Nat} {ch : List UInt8} (q : (c.data.toList.drop n).take 35 = ch) (h : (ckA ch i 58 && ckA ch (i + 1) a) = true) (hv : a = v) : decode c (n + i) = .ok (.astore v, 2) := by
  obtain ⟨h0, e0⟩ := ckA_at q (and2 h).1
  obtain ⟨h1, e1⟩ := ckA_at q (and2 h).2
  have e := u1_run h0
  rw [e0] at e
  refine @runB c (n + i) (n + i + 2) _ _ _ e _ (by unfold Jvm.ClassFile.Decoder.instr; rfl) ?_ rfl
  show Except.bind ((Jvm.ClassFile.Reader.u1 : Jvm.ClassFile.Decoder Nat) c (n + i + 1)) (fun r => .ok (Instr.astore r.1, r.2)) = _
  rw [u1_run (pc := n + i + 1) h1, e1]
  show Except.ok (Instr.astore (a), n + i + 1 + 1) = _
  rw [hv]
set_option maxRecDepth 20000 in
theorem dw60 {c : ByteArray} {n i : Nat} {ch : List UInt8} (q : (c.data.toList.drop n).take 35 = ch) (h : ckA ch i 60 = true) : decode c (n + i) = .ok (.istore_n 1, 1) := by
  obtain ⟨h0, e0⟩ := ckA_at q h
  have e := u1_run h0
  rw [e0] at e
  refine @runB c (n + i) (n + i + 1) _ _ _ e _ (by unfold Jvm.ClassFile.Decoder.instr; rfl) ?_ rfl
  rfl
set_option maxRecDepth 20000 in
theorem dw61 {c : ByteArray} {n i : Nat} {ch : List UInt8} (q : (c.data.toList.drop n).take 35 = ch) (h : ckA ch i 61 = true) : decode c (n + i) = .ok (.istore_n 2, 1) := by
  obtain ⟨h0, e0⟩ := ckA_at q h
  have e := u1_run h0
  rw [e0] at e
  refine @runB c (n + i) (n + i + 1) _ _ _ e _ (by unfold Jvm.ClassFile.Decoder.instr; rfl) ?_ rfl
  rfl
set_option maxRecDepth 20000 in
theorem dw62 {c : ByteArray} {n i : Nat} {ch : List UInt8} (q : (c.data.toList.drop n).take 35 = ch) (h : ckA ch i 62 = true) : decode c (n + i) = .ok (.istore_n 3, 1) := by
  obtain ⟨h0, e0⟩ := ckA_at q h
  have e := u1_run h0
  rw [e0] at e
  refine @runB c (n + i) (n + i + 1) _ _ _ e _ (by unfold Jvm.ClassFile.Decoder.instr; rfl) ?_ rfl
  rfl
set_option maxRecDepth 20000 in
theorem dw64 {c : ByteArray} {n i : Nat} {ch : List UInt8} (q : (c.data.toList.drop n).take 35 = ch) (h : ckA ch i 64 = true) : decode c (n + i) = .ok (.lstore_n 1, 1) := by
  obtain ⟨h0, e0⟩ := ckA_at q h
  have e := u1_run h0
  rw [e0] at e
  refine @runB c (n + i) (n + i + 1) _ _ _ e _ (by unfold Jvm.ClassFile.Decoder.instr; rfl) ?_ rfl
  rfl
set_option maxRecDepth 20000 in
theorem dw65 {c : ByteArray} {n i : Nat} {ch : List UInt8} (q : (c.data.toList.drop n).take 35 = ch) (h : ckA ch i 65 = true) : decode c (n + i) = .ok (.lstore_n 2, 1) := by
  obtain ⟨h0, e0⟩ := ckA_at q h
  have e := u1_run h0
  rw [e0] at e
  refine @runB c (n + i) (n + i + 1) _ _ _ e _ (by unfold Jvm.ClassFile.Decoder.instr; rfl) ?_ rfl
  rfl
set_option maxRecDepth 20000 in
theorem dw76 {c : ByteArray} {n i : Nat} {ch : List UInt8} (q : (c.data.toList.drop n).take 35 = ch) (h : ckA ch i 76 = true) : decode c (n + i) = .ok (.astore_n 1, 1) := by
  obtain ⟨h0, e0⟩ := ckA_at q h
  have e := u1_run h0
  rw [e0] at e
  refine @runB c (n + i) (n + i + 1) _ _ _ e _ (by unfold Jvm.ClassFile.Decoder.instr; rfl) ?_ rfl
  rfl
set_option maxRecDepth 20000 in
theorem dw77 {c : ByteArray} {n i : Nat} {ch : List UInt8} (q : (c.data.toList.drop n).take 35 = ch) (h : ckA ch i 77 = true) : decode c (n + i) = .ok (.astore_n 2, 1) := by
  obtain ⟨h0, e0⟩ := ckA_at q h
  have e := u1_run h0
  rw [e0] at e
  refine @runB c (n + i) (n + i + 1) _ _ _ e _ (by unfold Jvm.ClassFile.Decoder.instr; rfl) ?_ rfl
  rfl
set_option maxRecDepth 20000 in
theorem dw79 {c : ByteArray} {n i : Nat} {ch : List UInt8} (q : (c.data.toList.drop n).take 35 = ch) (h : ckA ch i 79 = true) : decode c (n + i) = .ok (.iastore, 1) := by
  obtain ⟨h0, e0⟩ := ckA_at q h
  have e := u1_run h0
  rw [e0] at e
  refine @runB c (n + i) (n + i + 1) _ _ _ e _ (by unfold Jvm.ClassFile.Decoder.instr; rfl) ?_ rfl
  rfl
set_option maxRecDepth 20000 in
theorem dw80 {c : ByteArray} {n i : Nat} {ch : List UInt8} (q : (c.data.toList.drop n).take 35 = ch) (h : ckA ch i 80 = true) : decode c (n + i) = .ok (.lastore, 1) := by
  obtain ⟨h0, e0⟩ := ckA_at q h
  have e := u1_run h0
  rw [e0] at e
  refine @runB c (n + i) (n + i + 1) _ _ _ e _ (by unfold Jvm.ClassFile.Decoder.instr; rfl) ?_ rfl
  rfl
set_option maxRecDepth 20000 in
theorem dw84 {c : ByteArray} {n i : Nat} {ch : List UInt8} (q : (c.data.toList.drop n).take 35 = ch) (h : ckA ch i 84 = true) : decode c (n + i) = .ok (.bastore, 1) := by
  obtain ⟨h0, e0⟩ := ckA_at q h
  have e := u1_run h0
  rw [e0] at e
  refine @runB c (n + i) (n + i + 1) _ _ _ e _ (by unfold Jvm.ClassFile.Decoder.instr; rfl) ?_ rfl
  rfl
set_option maxRecDepth 20000 in
theorem dw87 {c : ByteArray} {n i : Nat} {ch : List UInt8} (q : (c.data.toList.drop n).take 35 = ch) (h : ckA ch i 87 = true) : decode c (n + i) = .ok (.pop, 1) := by
  obtain ⟨h0, e0⟩ := ckA_at q h
  have e := u1_run h0
  rw [e0] at e
  refine @runB c (n + i) (n + i + 1) _ _ _ e _ (by unfold Jvm.ClassFile.Decoder.instr; rfl) ?_ rfl
  rfl
set_option maxRecDepth 20000 in
theorem dw88 {c : ByteArray} {n i : Nat} {ch : List UInt8} (q : (c.data.toList.drop n).take 35 = ch) (h : ckA ch i 88 = true) : decode c (n + i) = .ok (.pop2, 1) := by
  obtain ⟨h0, e0⟩ := ckA_at q h
  have e := u1_run h0
  rw [e0] at e
  refine @runB c (n + i) (n + i + 1) _ _ _ e _ (by unfold Jvm.ClassFile.Decoder.instr; rfl) ?_ rfl
  rfl
set_option maxRecDepth 20000 in
theorem dw89 {c : ByteArray} {n i : Nat} {ch : List UInt8} (q : (c.data.toList.drop n).take 35 = ch) (h : ckA ch i 89 = true) : decode c (n + i) = .ok (.dup, 1) := by
  obtain ⟨h0, e0⟩ := ckA_at q h
  have e := u1_run h0
  rw [e0] at e
  refine @runB c (n + i) (n + i + 1) _ _ _ e _ (by unfold Jvm.ClassFile.Decoder.instr; rfl) ?_ rfl
  rfl
set_option maxRecDepth 20000 in
theorem dw92 {c : ByteArray} {n i : Nat} {ch : List UInt8} (q : (c.data.toList.drop n).take 35 = ch) (h : ckA ch i 92 = true) : decode c (n + i) = .ok (.dup2, 1) := by
  obtain ⟨h0, e0⟩ := ckA_at q h
  have e := u1_run h0
  rw [e0] at e
  refine @runB c (n + i) (n + i + 1) _ _ _ e _ (by unfold Jvm.ClassFile.Decoder.instr; rfl) ?_ rfl
  rfl
set_option maxRecDepth 20000 in
theorem dw96 {c : ByteArray} {n i : Nat} {ch : List UInt8} (q : (c.data.toList.drop n).take 35 = ch) (h : ckA ch i 96 = true) : decode c (n + i) = .ok (.iadd, 1) := by
  obtain ⟨h0, e0⟩ := ckA_at q h
  have e := u1_run h0
  rw [e0] at e
  refine @runB c (n + i) (n + i + 1) _ _ _ e _ (by unfold Jvm.ClassFile.Decoder.instr; rfl) ?_ rfl
  rfl
set_option maxRecDepth 20000 in
theorem dw97 {c : ByteArray} {n i : Nat} {ch : List UInt8} (q : (c.data.toList.drop n).take 35 = ch) (h : ckA ch i 97 = true) : decode c (n + i) = .ok (.ladd, 1) := by
  obtain ⟨h0, e0⟩ := ckA_at q h
  have e := u1_run h0
  rw [e0] at e
  refine @runB c (n + i) (n + i + 1) _ _ _ e _ (by unfold Jvm.ClassFile.Decoder.instr; rfl) ?_ rfl
  rfl
set_option maxRecDepth 20000 in
theorem dw100 {c : ByteArray} {n i : Nat} {ch : List UInt8} (q : (c.data.toList.drop n).take 35 = ch) (h : ckA ch i 100 = true) : decode c (n + i) = .ok (.isub, 1) := by
  obtain ⟨h0, e0⟩ := ckA_at q h
  have e := u1_run h0
  rw [e0] at e
  refine @runB c (n + i) (n + i + 1) _ _ _ e _ (by unfold Jvm.ClassFile.Decoder.instr; rfl) ?_ rfl
  rfl
set_option maxRecDepth 20000 in
theorem dw101 {c : ByteArray} {n i : Nat} {ch : List UInt8} (q : (c.data.toList.drop n).take 35 = ch) (h : ckA ch i 101 = true) : decode c (n + i) = .ok (.lsub, 1) := by
  obtain ⟨h0, e0⟩ := ckA_at q h
  have e := u1_run h0
  rw [e0] at e
  refine @runB c (n + i) (n + i + 1) _ _ _ e _ (by unfold Jvm.ClassFile.Decoder.instr; rfl) ?_ rfl
  rfl
set_option maxRecDepth 20000 in
theorem dw104 {c : ByteArray} {n i : Nat} {ch : List UInt8} (q : (c.data.toList.drop n).take 35 = ch) (h : ckA ch i 104 = true) : decode c (n + i) = .ok (.imul, 1) := by
  obtain ⟨h0, e0⟩ := ckA_at q h
  have e := u1_run h0
  rw [e0] at e
  refine @runB c (n + i) (n + i + 1) _ _ _ e _ (by unfold Jvm.ClassFile.Decoder.instr; rfl) ?_ rfl
  rfl
set_option maxRecDepth 20000 in
theorem dw105 {c : ByteArray} {n i : Nat} {ch : List UInt8} (q : (c.data.toList.drop n).take 35 = ch) (h : ckA ch i 105 = true) : decode c (n + i) = .ok (.lmul, 1) := by
  obtain ⟨h0, e0⟩ := ckA_at q h
  have e := u1_run h0
  rw [e0] at e
  refine @runB c (n + i) (n + i + 1) _ _ _ e _ (by unfold Jvm.ClassFile.Decoder.instr; rfl) ?_ rfl
  rfl
set_option maxRecDepth 20000 in
theorem dw108 {c : ByteArray} {n i : Nat} {ch : List UInt8} (q : (c.data.toList.drop n).take 35 = ch) (h : ckA ch i 108 = true) : decode c (n + i) = .ok (.idiv, 1) := by
  obtain ⟨h0, e0⟩ := ckA_at q h
  have e := u1_run h0
  rw [e0] at e
  refine @runB c (n + i) (n + i + 1) _ _ _ e _ (by unfold Jvm.ClassFile.Decoder.instr; rfl) ?_ rfl
  rfl
set_option maxRecDepth 20000 in
theorem dw109 {c : ByteArray} {n i : Nat} {ch : List UInt8} (q : (c.data.toList.drop n).take 35 = ch) (h : ckA ch i 109 = true) : decode c (n + i) = .ok (.ldiv, 1) := by
  obtain ⟨h0, e0⟩ := ckA_at q h
  have e := u1_run h0
  rw [e0] at e
  refine @runB c (n + i) (n + i + 1) _ _ _ e _ (by unfold Jvm.ClassFile.Decoder.instr; rfl) ?_ rfl
  rfl
set_option maxRecDepth 20000 in
theorem dw113 {c : ByteArray} {n i : Nat} {ch : List UInt8} (q : (c.data.toList.drop n).take 35 = ch) (h : ckA ch i 113 = true) : decode c (n + i) = .ok (.lrem, 1) := by
  obtain ⟨h0, e0⟩ := ckA_at q h
  have e := u1_run h0
  rw [e0] at e
  refine @runB c (n + i) (n + i + 1) _ _ _ e _ (by unfold Jvm.ClassFile.Decoder.instr; rfl) ?_ rfl
  rfl
set_option maxRecDepth 20000 in
theorem dw117 {c : ByteArray} {n i : Nat} {ch : List UInt8} (q : (c.data.toList.drop n).take 35 = ch) (h : ckA ch i 117 = true) : decode c (n + i) = .ok (.lneg, 1) := by
  obtain ⟨h0, e0⟩ := ckA_at q h
  have e := u1_run h0
  rw [e0] at e
  refine @runB c (n + i) (n + i + 1) _ _ _ e _ (by unfold Jvm.ClassFile.Decoder.instr; rfl) ?_ rfl
  rfl
set_option maxRecDepth 20000 in
theorem dw122 {c : ByteArray} {n i : Nat} {ch : List UInt8} (q : (c.data.toList.drop n).take 35 = ch) (h : ckA ch i 122 = true) : decode c (n + i) = .ok (.ishr, 1) := by
  obtain ⟨h0, e0⟩ := ckA_at q h
  have e := u1_run h0
  rw [e0] at e
  refine @runB c (n + i) (n + i + 1) _ _ _ e _ (by unfold Jvm.ClassFile.Decoder.instr; rfl) ?_ rfl
  rfl
set_option maxRecDepth 20000 in
theorem dw126 {c : ByteArray} {n i : Nat} {ch : List UInt8} (q : (c.data.toList.drop n).take 35 = ch) (h : ckA ch i 126 = true) : decode c (n + i) = .ok (.iand, 1) := by
  obtain ⟨h0, e0⟩ := ckA_at q h
  have e := u1_run h0
  rw [e0] at e
  refine @runB c (n + i) (n + i + 1) _ _ _ e _ (by unfold Jvm.ClassFile.Decoder.instr; rfl) ?_ rfl
  rfl
set_option maxRecDepth 20000 in
theorem dw133 {c : ByteArray} {n i : Nat} {ch : List UInt8} (q : (c.data.toList.drop n).take 35 = ch) (h : ckA ch i 133 = true) : decode c (n + i) = .ok (.i2l, 1) := by
  obtain ⟨h0, e0⟩ := ckA_at q h
  have e := u1_run h0
  rw [e0] at e
  refine @runB c (n + i) (n + i + 1) _ _ _ e _ (by unfold Jvm.ClassFile.Decoder.instr; rfl) ?_ rfl
  rfl
set_option maxRecDepth 20000 in
theorem dw148 {c : ByteArray} {n i : Nat} {ch : List UInt8} (q : (c.data.toList.drop n).take 35 = ch) (h : ckA ch i 148 = true) : decode c (n + i) = .ok (.lcmp, 1) := by
  obtain ⟨h0, e0⟩ := ckA_at q h
  have e := u1_run h0
  rw [e0] at e
  refine @runB c (n + i) (n + i + 1) _ _ _ e _ (by unfold Jvm.ClassFile.Decoder.instr; rfl) ?_ rfl
  rfl
set_option maxRecDepth 20000 in
theorem dw153 {c : ByteArray} {n i a b : Nat} {v : Int} {ch : List UInt8} (q : (c.data.toList.drop n).take 35 = ch) (h : (ckA ch i 153 && (ckA ch (i + 1) a && ckA ch (i + 2) b)) = true) (hv : Jvm.ClassFile.Reader.signed 16 (a * 256 + b) = v) : decode c (n + i) = .ok (.ifCond .eq v, 3) := by
  obtain ⟨h0, e0⟩ := ckA_at q (and2 h).1
  obtain ⟨h1, e1⟩ := ckA_at q (and2 (and2 h).2).1
  obtain ⟨h2, e2⟩ := ckA_at q (and2 (and2 h).2).2
  have e := u1_run h0
  rw [e0] at e
  refine @runB c (n + i) (n + i + 3) _ _ _ e _ (by unfold Jvm.ClassFile.Decoder.instr; rfl) ?_ rfl
  show Except.bind ((Jvm.ClassFile.Reader.s2 : Jvm.ClassFile.Decoder Int) c (n + i + 1)) (fun r => .ok (Instr.ifCond .eq r.1, r.2)) = _
  rw [s2_run (pc := n + i + 1) h1 h2, e1, e2]
  show Except.ok (Instr.ifCond .eq (Jvm.ClassFile.Reader.signed 16 (a * 256 + b)), n + i + 1 + 2) = _
  rw [hv]
set_option maxRecDepth 20000 in
theorem dw154 {c : ByteArray} {n i a b : Nat} {v : Int} {ch : List UInt8} (q : (c.data.toList.drop n).take 35 = ch) (h : (ckA ch i 154 && (ckA ch (i + 1) a && ckA ch (i + 2) b)) = true) (hv : Jvm.ClassFile.Reader.signed 16 (a * 256 + b) = v) : decode c (n + i) = .ok (.ifCond .ne v, 3) := by
  obtain ⟨h0, e0⟩ := ckA_at q (and2 h).1
  obtain ⟨h1, e1⟩ := ckA_at q (and2 (and2 h).2).1
  obtain ⟨h2, e2⟩ := ckA_at q (and2 (and2 h).2).2
  have e := u1_run h0
  rw [e0] at e
  refine @runB c (n + i) (n + i + 3) _ _ _ e _ (by unfold Jvm.ClassFile.Decoder.instr; rfl) ?_ rfl
  show Except.bind ((Jvm.ClassFile.Reader.s2 : Jvm.ClassFile.Decoder Int) c (n + i + 1)) (fun r => .ok (Instr.ifCond .ne r.1, r.2)) = _
  rw [s2_run (pc := n + i + 1) h1 h2, e1, e2]
  show Except.ok (Instr.ifCond .ne (Jvm.ClassFile.Reader.signed 16 (a * 256 + b)), n + i + 1 + 2) = _
  rw [hv]
set_option maxRecDepth 20000 in
theorem dw155 {c : ByteArray} {n i a b : Nat} {v : Int} {ch : List UInt8} (q : (c.data.toList.drop n).take 35 = ch) (h : (ckA ch i 155 && (ckA ch (i + 1) a && ckA ch (i + 2) b)) = true) (hv : Jvm.ClassFile.Reader.signed 16 (a * 256 + b) = v) : decode c (n + i) = .ok (.ifCond .lt v, 3) := by
  obtain ⟨h0, e0⟩ := ckA_at q (and2 h).1
  obtain ⟨h1, e1⟩ := ckA_at q (and2 (and2 h).2).1
  obtain ⟨h2, e2⟩ := ckA_at q (and2 (and2 h).2).2
  have e := u1_run h0
  rw [e0] at e
  refine @runB c (n + i) (n + i + 3) _ _ _ e _ (by unfold Jvm.ClassFile.Decoder.instr; rfl) ?_ rfl
  show Except.bind ((Jvm.ClassFile.Reader.s2 : Jvm.ClassFile.Decoder Int) c (n + i + 1)) (fun r => .ok (Instr.ifCond .lt r.1, r.2)) = _
  rw [s2_run (pc := n + i + 1) h1 h2, e1, e2]
  show Except.ok (Instr.ifCond .lt (Jvm.ClassFile.Reader.signed 16 (a * 256 + b)), n + i + 1 + 2) = _
  rw [hv]
set_option maxRecDepth 20000 in
theorem dw156 {c : ByteArray} {n i a b : Nat} {v : Int} {ch : List UInt8} (q : (c.data.toList.drop n).take 35 = ch) (h : (ckA ch i 156 && (ckA ch (i + 1) a && ckA ch (i + 2) b)) = true) (hv : Jvm.ClassFile.Reader.signed 16 (a * 256 + b) = v) : decode c (n + i) = .ok (.ifCond .ge v, 3) := by
  obtain ⟨h0, e0⟩ := ckA_at q (and2 h).1
  obtain ⟨h1, e1⟩ := ckA_at q (and2 (and2 h).2).1
  obtain ⟨h2, e2⟩ := ckA_at q (and2 (and2 h).2).2
  have e := u1_run h0
  rw [e0] at e
  refine @runB c (n + i) (n + i + 3) _ _ _ e _ (by unfold Jvm.ClassFile.Decoder.instr; rfl) ?_ rfl
  show Except.bind ((Jvm.ClassFile.Reader.s2 : Jvm.ClassFile.Decoder Int) c (n + i + 1)) (fun r => .ok (Instr.ifCond .ge r.1, r.2)) = _
  rw [s2_run (pc := n + i + 1) h1 h2, e1, e2]
  show Except.ok (Instr.ifCond .ge (Jvm.ClassFile.Reader.signed 16 (a * 256 + b)), n + i + 1 + 2) = _
  rw [hv]
set_option maxRecDepth 20000 in
theorem dw157 {c : ByteArray} {n i a b : Nat} {v : Int} {ch : List UInt8} (q : (c.data.toList.drop n).take 35 = ch) (h : (ckA ch i 157 && (ckA ch (i + 1) a && ckA ch (i + 2) b)) = true) (hv : Jvm.ClassFile.Reader.signed 16 (a * 256 + b) = v) : decode c (n + i) = .ok (.ifCond .gt v, 3) := by
  obtain ⟨h0, e0⟩ := ckA_at q (and2 h).1
  obtain ⟨h1, e1⟩ := ckA_at q (and2 (and2 h).2).1
  obtain ⟨h2, e2⟩ := ckA_at q (and2 (and2 h).2).2
  have e := u1_run h0
  rw [e0] at e
  refine @runB c (n + i) (n + i + 3) _ _ _ e _ (by unfold Jvm.ClassFile.Decoder.instr; rfl) ?_ rfl
  show Except.bind ((Jvm.ClassFile.Reader.s2 : Jvm.ClassFile.Decoder Int) c (n + i + 1)) (fun r => .ok (Instr.ifCond .gt r.1, r.2)) = _
  rw [s2_run (pc := n + i + 1) h1 h2, e1, e2]
  show Except.ok (Instr.ifCond .gt (Jvm.ClassFile.Reader.signed 16 (a * 256 + b)), n + i + 1 + 2) = _
  rw [hv]
set_option maxRecDepth 20000 in
theorem dw158 {c : ByteArray} {n i a b : Nat} {v : Int} {ch : List UInt8} (q : (c.data.toList.drop n).take 35 = ch) (h : (ckA ch i 158 && (ckA ch (i + 1) a && ckA ch (i + 2) b)) = true) (hv : Jvm.ClassFile.Reader.signed 16 (a * 256 + b) = v) : decode c (n + i) = .ok (.ifCond .le v, 3) := by
  obtain ⟨h0, e0⟩ := ckA_at q (and2 h).1
  obtain ⟨h1, e1⟩ := ckA_at q (and2 (and2 h).2).1
  obtain ⟨h2, e2⟩ := ckA_at q (and2 (and2 h).2).2
  have e := u1_run h0
  rw [e0] at e
  refine @runB c (n + i) (n + i + 3) _ _ _ e _ (by unfold Jvm.ClassFile.Decoder.instr; rfl) ?_ rfl
  show Except.bind ((Jvm.ClassFile.Reader.s2 : Jvm.ClassFile.Decoder Int) c (n + i + 1)) (fun r => .ok (Instr.ifCond .le r.1, r.2)) = _
  rw [s2_run (pc := n + i + 1) h1 h2, e1, e2]
  show Except.ok (Instr.ifCond .le (Jvm.ClassFile.Reader.signed 16 (a * 256 + b)), n + i + 1 + 2) = _
  rw [hv]
set_option maxRecDepth 20000 in
theorem dw159 {c : ByteArray} {n i a b : Nat} {v : Int} {ch : List UInt8} (q : (c.data.toList.drop n).take 35 = ch) (h : (ckA ch i 159 && (ckA ch (i + 1) a && ckA ch (i + 2) b)) = true) (hv : Jvm.ClassFile.Reader.signed 16 (a * 256 + b) = v) : decode c (n + i) = .ok (.if_icmp .eq v, 3) := by
  obtain ⟨h0, e0⟩ := ckA_at q (and2 h).1
  obtain ⟨h1, e1⟩ := ckA_at q (and2 (and2 h).2).1
  obtain ⟨h2, e2⟩ := ckA_at q (and2 (and2 h).2).2
  have e := u1_run h0
  rw [e0] at e
  refine @runB c (n + i) (n + i + 3) _ _ _ e _ (by unfold Jvm.ClassFile.Decoder.instr; rfl) ?_ rfl
  show Except.bind ((Jvm.ClassFile.Reader.s2 : Jvm.ClassFile.Decoder Int) c (n + i + 1)) (fun r => .ok (Instr.if_icmp .eq r.1, r.2)) = _
  rw [s2_run (pc := n + i + 1) h1 h2, e1, e2]
  show Except.ok (Instr.if_icmp .eq (Jvm.ClassFile.Reader.signed 16 (a * 256 + b)), n + i + 1 + 2) = _
  rw [hv]
set_option maxRecDepth 20000 in
theorem dw160 {c : ByteArray} {n i a b : Nat} {v : Int} {ch : List UInt8} (q : (c.data.toList.drop n).take 35 = ch) (h : (ckA ch i 160 && (ckA ch (i + 1) a && ckA ch (i + 2) b)) = true) (hv : Jvm.ClassFile.Reader.signed 16 (a * 256 + b) = v) : decode c (n + i) = .ok (.if_icmp .ne v, 3) := by
  obtain ⟨h0, e0⟩ := ckA_at q (and2 h).1
  obtain ⟨h1, e1⟩ := ckA_at q (and2 (and2 h).2).1
  obtain ⟨h2, e2⟩ := ckA_at q (and2 (and2 h).2).2
  have e := u1_run h0
  rw [e0] at e
  refine @runB c (n + i) (n + i + 3) _ _ _ e _ (by unfold Jvm.ClassFile.Decoder.instr; rfl) ?_ rfl
  show Except.bind ((Jvm.ClassFile.Reader.s2 : Jvm.ClassFile.Decoder Int) c (n + i + 1)) (fun r => .ok (Instr.if_icmp .ne r.1, r.2)) = _
  rw [s2_run (pc := n + i + 1) h1 h2, e1, e2]
  show Except.ok (Instr.if_icmp .ne (Jvm.ClassFile.Reader.signed 16 (a * 256 + b)), n + i + 1 + 2) = _
  rw [hv]
set_option maxRecDepth 20000 in
theorem dw161 {c : ByteArray} {n i a b : Nat} {v : Int} {ch : List UInt8} (q : (c.data.toList.drop n).take 35 = ch) (h : (ckA ch i 161 && (ckA ch (i + 1) a && ckA ch (i + 2) b)) = true) (hv : Jvm.ClassFile.Reader.signed 16 (a * 256 + b) = v) : decode c (n + i) = .ok (.if_icmp .lt v, 3) := by
  obtain ⟨h0, e0⟩ := ckA_at q (and2 h).1
  obtain ⟨h1, e1⟩ := ckA_at q (and2 (and2 h).2).1
  obtain ⟨h2, e2⟩ := ckA_at q (and2 (and2 h).2).2
  have e := u1_run h0
  rw [e0] at e
  refine @runB c (n + i) (n + i + 3) _ _ _ e _ (by unfold Jvm.ClassFile.Decoder.instr; rfl) ?_ rfl
  show Except.bind ((Jvm.ClassFile.Reader.s2 : Jvm.ClassFile.Decoder Int) c (n + i + 1)) (fun r => .ok (Instr.if_icmp .lt r.1, r.2)) = _
  rw [s2_run (pc := n + i + 1) h1 h2, e1, e2]
  show Except.ok (Instr.if_icmp .lt (Jvm.ClassFile.Reader.signed 16 (a * 256 + b)), n + i + 1 + 2) = _
  rw [hv]
set_option maxRecDepth 20000 in
theorem dw162 {c : ByteArray} {n i a b : Nat} {v : Int} {ch : List UInt8} (q : (c.data.toList.drop n).take 35 = ch) (h : (ckA ch i 162 && (ckA ch (i + 1) a && ckA ch (i + 2) b)) = true) (hv : Jvm.ClassFile.Reader.signed 16 (a * 256 + b) = v) : decode c (n + i) = .ok (.if_icmp .ge v, 3) := by
  obtain ⟨h0, e0⟩ := ckA_at q (and2 h).1
  obtain ⟨h1, e1⟩ := ckA_at q (and2 (and2 h).2).1
  obtain ⟨h2, e2⟩ := ckA_at q (and2 (and2 h).2).2
  have e := u1_run h0
  rw [e0] at e
  refine @runB c (n + i) (n + i + 3) _ _ _ e _ (by unfold Jvm.ClassFile.Decoder.instr; rfl) ?_ rfl
  show Except.bind ((Jvm.ClassFile.Reader.s2 : Jvm.ClassFile.Decoder Int) c (n + i + 1)) (fun r => .ok (Instr.if_icmp .ge r.1, r.2)) = _
  rw [s2_run (pc := n + i + 1) h1 h2, e1, e2]
  show Except.ok (Instr.if_icmp .ge (Jvm.ClassFile.Reader.signed 16 (a * 256 + b)), n + i + 1 + 2) = _
  rw [hv]
set_option maxRecDepth 20000 in
theorem dw163 {c : ByteArray} {n i a b : Nat} {v : Int} {ch : List UInt8} (q : (c.data.toList.drop n).take 35 = ch) (h : (ckA ch i 163 && (ckA ch (i + 1) a && ckA ch (i + 2) b)) = true) (hv : Jvm.ClassFile.Reader.signed 16 (a * 256 + b) = v) : decode c (n + i) = .ok (.if_icmp .gt v, 3) := by
  obtain ⟨h0, e0⟩ := ckA_at q (and2 h).1
  obtain ⟨h1, e1⟩ := ckA_at q (and2 (and2 h).2).1
  obtain ⟨h2, e2⟩ := ckA_at q (and2 (and2 h).2).2
  have e := u1_run h0
  rw [e0] at e
  refine @runB c (n + i) (n + i + 3) _ _ _ e _ (by unfold Jvm.ClassFile.Decoder.instr; rfl) ?_ rfl
  show Except.bind ((Jvm.ClassFile.Reader.s2 : Jvm.ClassFile.Decoder Int) c (n + i + 1)) (fun r => .ok (Instr.if_icmp .gt r.1, r.2)) = _
  rw [s2_run (pc := n + i + 1) h1 h2, e1, e2]
  show Except.ok (Instr.if_icmp .gt (Jvm.ClassFile.Reader.signed 16 (a * 256 + b)), n + i + 1 + 2) = _
  rw [hv]
set_option maxRecDepth 20000 in
theorem dw164 {c : ByteArray} {n i a b : Nat} {v : Int} {ch : List UInt8} (q : (c.data.toList.drop n).take 35 = ch) (h : (ckA ch i 164 && (ckA ch (i + 1) a && ckA ch (i + 2) b)) = true) (hv : Jvm.ClassFile.Reader.signed 16 (a * 256 + b) = v) : decode c (n + i) = .ok (.if_icmp .le v, 3) := by
  obtain ⟨h0, e0⟩ := ckA_at q (and2 h).1
  obtain ⟨h1, e1⟩ := ckA_at q (and2 (and2 h).2).1
  obtain ⟨h2, e2⟩ := ckA_at q (and2 (and2 h).2).2
  have e := u1_run h0
  rw [e0] at e
  refine @runB c (n + i) (n + i + 3) _ _ _ e _ (by unfold Jvm.ClassFile.Decoder.instr; rfl) ?_ rfl
  show Except.bind ((Jvm.ClassFile.Reader.s2 : Jvm.ClassFile.Decoder Int) c (n + i + 1)) (fun r => .ok (Instr.if_icmp .le r.1, r.2)) = _
  rw [s2_run (pc := n + i + 1) h1 h2, e1, e2]
  show Except.ok (Instr.if_icmp .le (Jvm.ClassFile.Reader.signed 16 (a * 256 + b)), n + i + 1 + 2) = _
  rw [hv]
set_option maxRecDepth 20000 in
theorem dw167 {c : ByteArray} {n i a b : Nat} {v : Int} {ch : List UInt8} (q : (c.data.toList.drop n).take 35 = ch) (h : (ckA ch i 167 && (ckA ch (i + 1) a && ckA ch (i + 2) b)) = true) (hv : Jvm.ClassFile.Reader.signed 16 (a * 256 + b) = v) : decode c (n + i) = .ok (.goto v, 3) := by
  obtain ⟨h0, e0⟩ := ckA_at q (and2 h).1
  obtain ⟨h1, e1⟩ := ckA_at q (and2 (and2 h).2).1
  obtain ⟨h2, e2⟩ := ckA_at q (and2 (and2 h).2).2
  have e := u1_run h0
  rw [e0] at e
  refine @runB c (n + i) (n + i + 3) _ _ _ e _ (by unfold Jvm.ClassFile.Decoder.instr; rfl) ?_ rfl
  show Except.bind ((Jvm.ClassFile.Reader.s2 : Jvm.ClassFile.Decoder Int) c (n + i + 1)) (fun r => .ok (Instr.goto r.1, r.2)) = _
  rw [s2_run (pc := n + i + 1) h1 h2, e1, e2]
  show Except.ok (Instr.goto (Jvm.ClassFile.Reader.signed 16 (a * 256 + b)), n + i + 1 + 2) = _
  rw [hv]
set_option maxRecDepth 20000 in
theorem dw172 {c : ByteArray} {n i : Nat} {ch : List UInt8} (q : (c.data.toList.drop n).take 35 = ch) (h : ckA ch i 172 = true) : decode c (n + i) = .ok (.ireturn, 1) := by
  obtain ⟨h0, e0⟩ := ckA_at q h
  have e := u1_run h0
  rw [e0] at e
  refine @runB c (n + i) (n + i + 1) _ _ _ e _ (by unfold Jvm.ClassFile.Decoder.instr; rfl) ?_ rfl
  rfl
set_option maxRecDepth 20000 in
theorem dw173 {c : ByteArray} {n i : Nat} {ch : List UInt8} (q : (c.data.toList.drop n).take 35 = ch) (h : ckA ch i 173 = true) : decode c (n + i) = .ok (.lreturn, 1) := by
  obtain ⟨h0, e0⟩ := ckA_at q h
  have e := u1_run h0
  rw [e0] at e
  refine @runB c (n + i) (n + i + 1) _ _ _ e _ (by unfold Jvm.ClassFile.Decoder.instr; rfl) ?_ rfl
  rfl
set_option maxRecDepth 20000 in
theorem dw177 {c : ByteArray} {n i : Nat} {ch : List UInt8} (q : (c.data.toList.drop n).take 35 = ch) (h : ckA ch i 177 = true) : decode c (n + i) = .ok (.return_, 1) := by
  obtain ⟨h0, e0⟩ := ckA_at q h
  have e := u1_run h0
  rw [e0] at e
  refine @runB c (n + i) (n + i + 1) _ _ _ e _ (by unfold Jvm.ClassFile.Decoder.instr; rfl) ?_ rfl
  rfl
set_option maxRecDepth 20000 in
theorem dw178 {c : ByteArray} {n i a b : Nat} {v : Nat} {ch : List UInt8} (q : (c.data.toList.drop n).take 35 = ch) (h : (ckA ch i 178 && (ckA ch (i + 1) a && ckA ch (i + 2) b)) = true) (hv : a * 256 + b = v) : decode c (n + i) = .ok (.getstatic v, 3) := by
  obtain ⟨h0, e0⟩ := ckA_at q (and2 h).1
  obtain ⟨h1, e1⟩ := ckA_at q (and2 (and2 h).2).1
  obtain ⟨h2, e2⟩ := ckA_at q (and2 (and2 h).2).2
  have e := u1_run h0
  rw [e0] at e
  refine @runB c (n + i) (n + i + 3) _ _ _ e _ (by unfold Jvm.ClassFile.Decoder.instr; rfl) ?_ rfl
  show Except.bind ((Jvm.ClassFile.Reader.u2 : Jvm.ClassFile.Decoder Nat) c (n + i + 1)) (fun r => .ok (Instr.getstatic r.1, r.2)) = _
  rw [u2_run (pc := n + i + 1) h1 h2, e1, e2]
  show Except.ok (Instr.getstatic (a * 256 + b), n + i + 1 + 2) = _
  rw [hv]
set_option maxRecDepth 20000 in
theorem dw180 {c : ByteArray} {n i a b : Nat} {v : Nat} {ch : List UInt8} (q : (c.data.toList.drop n).take 35 = ch) (h : (ckA ch i 180 && (ckA ch (i + 1) a && ckA ch (i + 2) b)) = true) (hv : a * 256 + b = v) : decode c (n + i) = .ok (.getfield v, 3) := by
  obtain ⟨h0, e0⟩ := ckA_at q (and2 h).1
  obtain ⟨h1, e1⟩ := ckA_at q (and2 (and2 h).2).1
  obtain ⟨h2, e2⟩ := ckA_at q (and2 (and2 h).2).2
  have e := u1_run h0
  rw [e0] at e
  refine @runB c (n + i) (n + i + 3) _ _ _ e _ (by unfold Jvm.ClassFile.Decoder.instr; rfl) ?_ rfl
  show Except.bind ((Jvm.ClassFile.Reader.u2 : Jvm.ClassFile.Decoder Nat) c (n + i + 1)) (fun r => .ok (Instr.getfield r.1, r.2)) = _
  rw [u2_run (pc := n + i + 1) h1 h2, e1, e2]
  show Except.ok (Instr.getfield (a * 256 + b), n + i + 1 + 2) = _
  rw [hv]
set_option maxRecDepth 20000 in
theorem dw181 {c : ByteArray} {n i a b : Nat} {v : Nat} {ch : List UInt8} (q : (c.data.toList.drop n).take 35 = ch) (h : (ckA ch i 181 && (ckA ch (i + 1) a && ckA ch (i + 2) b)) = true) (hv : a * 256 + b = v) : decode c (n + i) = .ok (.putfield v, 3) := by
  obtain ⟨h0, e0⟩ := ckA_at q (and2 h).1
  obtain ⟨h1, e1⟩ := ckA_at q (and2 (and2 h).2).1
  obtain ⟨h2, e2⟩ := ckA_at q (and2 (and2 h).2).2
  have e := u1_run h0
  rw [e0] at e
  refine @runB c (n + i) (n + i + 3) _ _ _ e _ (by unfold Jvm.ClassFile.Decoder.instr; rfl) ?_ rfl
  show Except.bind ((Jvm.ClassFile.Reader.u2 : Jvm.ClassFile.Decoder Nat) c (n + i + 1)) (fun r => .ok (Instr.putfield r.1, r.2)) = _
  rw [u2_run (pc := n + i + 1) h1 h2, e1, e2]
  show Except.ok (Instr.putfield (a * 256 + b), n + i + 1 + 2) = _
  rw [hv]
set_option maxRecDepth 20000 in
theorem dw182 {c : ByteArray} {n i a b : Nat} {v : Nat} {ch : List UInt8} (q : (c.data.toList.drop n).take 35 = ch) (h : (ckA ch i 182 && (ckA ch (i + 1) a && ckA ch (i + 2) b)) = true) (hv : a * 256 + b = v) : decode c (n + i) = .ok (.invokevirtual v, 3) := by
  obtain ⟨h0, e0⟩ := ckA_at q (and2 h).1
  obtain ⟨h1, e1⟩ := ckA_at q (and2 (and2 h).2).1
  obtain ⟨h2, e2⟩ := ckA_at q (and2 (and2 h).2).2
  have e := u1_run h0
  rw [e0] at e
  refine @runB c (n + i) (n + i + 3) _ _ _ e _ (by unfold Jvm.ClassFile.Decoder.instr; rfl) ?_ rfl
  show Except.bind ((Jvm.ClassFile.Reader.u2 : Jvm.ClassFile.Decoder Nat) c (n + i + 1)) (fun r => .ok (Instr.invokevirtual r.1, r.2)) = _
  rw [u2_run (pc := n + i + 1) h1 h2, e1, e2]
  show Except.ok (Instr.invokevirtual (a * 256 + b), n + i + 1 + 2) = _
  rw [hv]
set_option maxRecDepth 20000 in
theorem dw183 {c : ByteArray} {n i a b : Nat} {v : Nat} {ch : List UInt8} (q : (c.data.toList.drop n).take 35 = ch) (h : (ckA ch i 183 && (ckA ch (i + 1) a && ckA ch (i + 2) b)) = true) (hv : a * 256 + b = v) : decode c (n + i) = .ok (.invokespecial v, 3) := by
  obtain ⟨h0, e0⟩ := ckA_at q (and2 h).1
  obtain ⟨h1, e1⟩ := ckA_at q (and2 (and2 h).2).1
  obtain ⟨h2, e2⟩ := ckA_at q (and2 (and2 h).2).2
  have e := u1_run h0
  rw [e0] at e
  refine @runB c (n + i) (n + i + 3) _ _ _ e _ (by unfold Jvm.ClassFile.Decoder.instr; rfl) ?_ rfl
  show Except.bind ((Jvm.ClassFile.Reader.u2 : Jvm.ClassFile.Decoder Nat) c (n + i + 1)) (fun r => .ok (Instr.invokespecial r.1, r.2)) = _
  rw [u2_run (pc := n + i + 1) h1 h2, e1, e2]
  show Except.ok (Instr.invokespecial (a * 256 + b), n + i + 1 + 2) = _
  rw [hv]
set_option maxRecDepth 20000 in
theorem dw184 {c : ByteArray} {n i a b : Nat} {v : Nat} {ch : List UInt8} (q : (c.data.toList.drop n).take 35 = ch) (h : (ckA ch i 184 && (ckA ch (i + 1) a && ckA ch (i + 2) b)) = true) (hv : a * 256 + b = v) : decode c (n + i) = .ok (.invokestatic v, 3) := by
  obtain ⟨h0, e0⟩ := ckA_at q (and2 h).1
  obtain ⟨h1, e1⟩ := ckA_at q (and2 (and2 h).2).1
  obtain ⟨h2, e2⟩ := ckA_at q (and2 (and2 h).2).2
  have e := u1_run h0
  rw [e0] at e
  refine @runB c (n + i) (n + i + 3) _ _ _ e _ (by unfold Jvm.ClassFile.Decoder.instr; rfl) ?_ rfl
  show Except.bind ((Jvm.ClassFile.Reader.u2 : Jvm.ClassFile.Decoder Nat) c (n + i + 1)) (fun r => .ok (Instr.invokestatic r.1, r.2)) = _
  rw [u2_run (pc := n + i + 1) h1 h2, e1, e2]
  show Except.ok (Instr.invokestatic (a * 256 + b), n + i + 1 + 2) = _
  rw [hv]
set_option maxRecDepth 20000 in
theorem dw187 {c : ByteArray} {n i a b : Nat} {v : Nat} {ch : List UInt8} (q : (c.data.toList.drop n).take 35 = ch) (h : (ckA ch i 187 && (ckA ch (i + 1) a && ckA ch (i + 2) b)) = true) (hv : a * 256 + b = v) : decode c (n + i) = .ok (.new v, 3) := by
  obtain ⟨h0, e0⟩ := ckA_at q (and2 h).1
  obtain ⟨h1, e1⟩ := ckA_at q (and2 (and2 h).2).1
  obtain ⟨h2, e2⟩ := ckA_at q (and2 (and2 h).2).2
  have e := u1_run h0
  rw [e0] at e
  refine @runB c (n + i) (n + i + 3) _ _ _ e _ (by unfold Jvm.ClassFile.Decoder.instr; rfl) ?_ rfl
  show Except.bind ((Jvm.ClassFile.Reader.u2 : Jvm.ClassFile.Decoder Nat) c (n + i + 1)) (fun r => .ok (Instr.new r.1, r.2)) = _
  rw [u2_run (pc := n + i + 1) h1 h2, e1, e2]
  show Except.ok (Instr.new (a * 256 + b), n + i + 1 + 2) = _
  rw [hv]
set_option maxRecDepth 20000 in
theorem dw190 {c : ByteArray} {n i : Nat} {ch : List UInt8} (q : (c.data.toList.drop n).take 35 = ch) (h : ckA ch i 190 = true) : decode c (n + i) = .ok (.arraylength, 1) := by
  obtain ⟨h0, e0⟩ := ckA_at q h
  have e := u1_run h0
  rw [e0] at e
  refine @runB c (n + i) (n + i + 1) _ _ _ e _ (by unfold Jvm.ClassFile.Decoder.instr; rfl) ?_ rfl
  rfl
def ch_cJ13_compare_74951_0 : List UInt8 := [30, 32, 148, 156, 0, 7, 2, 167, 0, 14, 30, 32, 148, 154, 0, 7, 3, 167, 0, 4, 4, 172]
set_option maxRecDepth 20000 in
theorem kc_cJ13_compare_74951_0 : (cJ13_compare_74951.data.toList.drop 0).take 35 = ch_cJ13_compare_74951_0 := by decide +kernel
def ch_cL_law_0 : List UInt8 := [187, 0, 7, 89, 183, 0, 9, 76, 187, 0, 10, 89, 183, 0, 12, 77, 3, 62, 29, 42, 190, 16, 6, 100, 163, 4, 25, 42, 29, 46, 16, 31, 126, 170, 0]
set_option maxRecDepth 20000 in
theorem kc_cL_law_0 : (cL_law.data.toList.drop 0).take 35 = ch_cL_law_0 := by decide +kernel
def ch_cL_law_1 : List UInt8 := [126, 170, 0, 0, 0, 0, 4, 10, 0, 0, 0, 0, 0, 0, 0, 28, 0, 0, 0, 131, 0, 0, 0, 144, 0, 0, 0, 177, 0, 0, 0, 200, 0, 0, 0]
set_option maxRecDepth 20000 in
theorem kc_cL_law_1 : (cL_law.data.toList.drop 32).take 35 = ch_cL_law_1 := by decide +kernel
def ch_cL_law_5 : List UInt8 := [0, 0, 3, 253, 43, 182, 0, 13, 87, 44, 182, 0, 17, 87, 167, 3, 125, 43, 42, 29, 4, 96, 46, 42, 29, 5, 96, 46, 182, 0, 18, 87, 44, 42, 29]
set_option maxRecDepth 20000 in
theorem kc_cL_law_5 : (cL_law.data.toList.drop 160).take 35 = ch_cL_law_5 := by decide +kernel
def ch_cL_law_6 : List UInt8 := [44, 42, 29, 4, 96, 46, 42, 29, 5, 96, 46, 182, 0, 22, 87, 167, 3, 92, 43, 42, 29, 4, 96, 46, 182, 0, 23, 87, 44, 42, 29, 4, 96, 46, 182]
set_option maxRecDepth 20000 in
theorem kc_cL_law_6 : (cL_law.data.toList.drop 192).take 35 = ch_cL_law_6 := by decide +kernel
def ch_cL_law_7 : List UInt8 := [96, 46, 182, 0, 27, 87, 167, 3, 69, 43, 42, 29, 4, 96, 46, 42, 29, 5, 96, 46, 182, 0, 28, 87, 44, 42, 29, 4, 96, 46, 42, 29, 5, 96, 46]
set_option maxRecDepth 20000 in
theorem kc_cL_law_7 : (cL_law.data.toList.drop 224).take 35 = ch_cL_law_7 := by decide +kernel
def ch_cL_law_8 : List UInt8 := [5, 96, 46, 182, 0, 31, 87, 167, 3, 36, 43, 42, 29, 4, 96, 46, 42, 29, 5, 96, 46, 182, 0, 32, 87, 44, 42, 29, 4, 96, 46, 42, 29, 5, 96]
set_option maxRecDepth 20000 in
theorem kc_cL_law_8 : (cL_law.data.toList.drop 256).take 35 = ch_cL_law_8 := by decide +kernel
def ch_cL_law_9 : List UInt8 := [29, 5, 96, 46, 182, 0, 35, 87, 167, 3, 3, 43, 42, 29, 4, 96, 46, 42, 29, 5, 96, 46, 42, 29, 6, 96, 46, 182, 0, 36, 87, 44, 42, 29, 4]
set_option maxRecDepth 20000 in
theorem kc_cL_law_9 : (cL_law.data.toList.drop 288).take 35 = ch_cL_law_9 := by decide +kernel
def ch_cL_law_10 : List UInt8 := [42, 29, 4, 96, 46, 42, 29, 5, 96, 46, 42, 29, 6, 96, 46, 182, 0, 40, 87, 167, 2, 216, 43, 42, 29, 4, 96, 46, 42, 29, 5, 96, 46, 182, 0]
set_option maxRecDepth 20000 in
theorem kc_cL_law_10 : (cL_law.data.toList.drop 320).take 35 = ch_cL_law_10 := by decide +kernel
def ch_cL_law_11 : List UInt8 := [46, 182, 0, 41, 87, 44, 42, 29, 4, 96, 46, 42, 29, 5, 96, 46, 182, 0, 44, 87, 167, 2, 183, 43, 42, 29, 4, 96, 46, 42, 29, 5, 96, 46, 182]
set_option maxRecDepth 20000 in
theorem kc_cL_law_11 : (cL_law.data.toList.drop 352).take 35 = ch_cL_law_11 := by decide +kernel
def ch_cL_law_12 : List UInt8 := [96, 46, 182, 0, 45, 87, 44, 42, 29, 4, 96, 46, 42, 29, 5, 96, 46, 182, 0, 48, 87, 167, 2, 150, 43, 42, 29, 4, 96, 46, 42, 29, 5, 96, 46]
set_option maxRecDepth 20000 in
theorem kc_cL_law_12 : (cL_law.data.toList.drop 384).take 35 = ch_cL_law_12 := by decide +kernel
def ch_cL_law_13 : List UInt8 := [5, 96, 46, 182, 0, 49, 87, 44, 42, 29, 4, 96, 46, 42, 29, 5, 96, 46, 182, 0, 52, 87, 167, 2, 117, 43, 42, 29, 4, 96, 46, 42, 29, 5, 96]
set_option maxRecDepth 20000 in
theorem kc_cL_law_13 : (cL_law.data.toList.drop 416).take 35 = ch_cL_law_13 := by decide +kernel
def ch_cL_law_14 : List UInt8 := [29, 5, 96, 46, 42, 29, 6, 96, 46, 182, 0, 53, 87, 44, 42, 29, 4, 96, 46, 42, 29, 5, 96, 46, 42, 29, 6, 96, 46, 182, 0, 56, 87, 167, 2]
set_option maxRecDepth 20000 in
theorem kc_cL_law_14 : (cL_law.data.toList.drop 448).take 35 = ch_cL_law_14 := by decide +kernel
def ch_cL_law_15 : List UInt8 := [87, 167, 2, 74, 43, 42, 29, 4, 96, 46, 42, 29, 5, 96, 46, 42, 29, 6, 96, 46, 42, 29, 7, 96, 46, 42, 29, 8, 96, 46, 182, 0, 57, 87, 44]
set_option maxRecDepth 20000 in
theorem kc_cL_law_15 : (cL_law.data.toList.drop 480).take 35 = ch_cL_law_15 := by decide +kernel
def ch_cL_law_16 : List UInt8 := [57, 87, 44, 42, 29, 4, 96, 46, 42, 29, 5, 96, 46, 42, 29, 6, 96, 46, 42, 29, 7, 96, 46, 42, 29, 8, 96, 46, 182, 0, 61, 87, 167, 2, 11]
set_option maxRecDepth 20000 in
theorem kc_cL_law_16 : (cL_law.data.toList.drop 512).take 35 = ch_cL_law_16 := by decide +kernel
def ch_cL_law_17 : List UInt8 := [167, 2, 11, 43, 42, 29, 4, 96, 46, 42, 29, 5, 96, 46, 182, 0, 62, 87, 44, 42, 29, 4, 96, 46, 42, 29, 5, 96, 46, 182, 0, 65, 87, 167, 1]
set_option maxRecDepth 20000 in
theorem kc_cL_law_17 : (cL_law.data.toList.drop 544).take 35 = ch_cL_law_17 := by decide +kernel
def ch_cL_law_18 : List UInt8 := [87, 167, 1, 234, 43, 42, 29, 4, 96, 46, 42, 29, 5, 96, 46, 182, 0, 66, 87, 44, 42, 29, 4, 96, 46, 42, 29, 5, 96, 46, 182, 0, 69, 87, 167]
set_option maxRecDepth 20000 in
theorem kc_cL_law_18 : (cL_law.data.toList.drop 576).take 35 = ch_cL_law_18 := by decide +kernel
def ch_cL_law_19 : List UInt8 := [69, 87, 167, 1, 201, 43, 42, 29, 4, 96, 46, 42, 29, 5, 96, 46, 182, 0, 70, 87, 44, 42, 29, 4, 96, 46, 42, 29, 5, 96, 46, 182, 0, 73, 87]
set_option maxRecDepth 20000 in
theorem kc_cL_law_19 : (cL_law.data.toList.drop 608).take 35 = ch_cL_law_19 := by decide +kernel
def ch_cL_law_20 : List UInt8 := [0, 73, 87, 167, 1, 168, 43, 42, 29, 4, 96, 46, 42, 29, 5, 96, 46, 42, 29, 6, 96, 46, 42, 29, 7, 96, 46, 182, 0, 74, 87, 44, 42, 29, 4]
set_option maxRecDepth 20000 in
theorem kc_cL_law_20 : (cL_law.data.toList.drop 640).take 35 = ch_cL_law_20 := by decide +kernel
def ch_cL_law_21 : List UInt8 := [42, 29, 4, 96, 46, 42, 29, 5, 96, 46, 42, 29, 6, 96, 46, 42, 29, 7, 96, 46, 182, 0, 78, 87, 167, 1, 115, 43, 42, 29, 4, 96, 46, 42, 29]
set_option maxRecDepth 20000 in
theorem kc_cL_law_21 : (cL_law.data.toList.drop 672).take 35 = ch_cL_law_21 := by decide +kernel
def ch_cL_law_22 : List UInt8 := [46, 42, 29, 5, 96, 46, 182, 0, 79, 87, 44, 42, 29, 4, 96, 46, 42, 29, 5, 96, 46, 182, 0, 82, 87, 167, 1, 82, 43, 42, 29, 4, 96, 46, 42]
set_option maxRecDepth 20000 in
theorem kc_cL_law_22 : (cL_law.data.toList.drop 704).take 35 = ch_cL_law_22 := by decide +kernel
def ch_cL_law_23 : List UInt8 := [96, 46, 42, 29, 5, 96, 46, 182, 0, 83, 87, 44, 42, 29, 4, 96, 46, 42, 29, 5, 96, 46, 182, 0, 86, 87, 167, 1, 49, 43, 42, 29, 4, 96, 46]
set_option maxRecDepth 20000 in
theorem kc_cL_law_23 : (cL_law.data.toList.drop 736).take 35 = ch_cL_law_23 := by decide +kernel
def ch_cL_law_24 : List UInt8 := [4, 96, 46, 182, 0, 87, 87, 44, 42, 29, 4, 96, 46, 182, 0, 90, 87, 167, 1, 26, 43, 42, 29, 4, 96, 46, 182, 0, 91, 87, 44, 42, 29, 4, 96]
set_option maxRecDepth 20000 in
theorem kc_cL_law_24 : (cL_law.data.toList.drop 768).take 35 = ch_cL_law_24 := by decide +kernel
def ch_cL_law_25 : List UInt8 := [29, 4, 96, 46, 182, 0, 94, 87, 167, 1, 3, 43, 42, 29, 4, 96, 46, 42, 29, 5, 96, 46, 42, 29, 6, 96, 46, 182, 0, 95, 87, 44, 42, 29, 4]
set_option maxRecDepth 20000 in
theorem kc_cL_law_25 : (cL_law.data.toList.drop 800).take 35 = ch_cL_law_25 := by decide +kernel
def ch_cL_law_26 : List UInt8 := [42, 29, 4, 96, 46, 42, 29, 5, 96, 46, 42, 29, 6, 96, 46, 182, 0, 98, 87, 167, 0, 216, 43, 182, 0, 99, 87, 44, 182, 0, 102, 87, 167, 0, 203]
set_option maxRecDepth 20000 in
theorem kc_cL_law_26 : (cL_law.data.toList.drop 832).take 35 = ch_cL_law_26 := by decide +kernel
def ch_cL_law_27 : List UInt8 := [167, 0, 203, 43, 42, 29, 4, 96, 46, 182, 0, 103, 87, 44, 42, 29, 4, 96, 46, 182, 0, 106, 87, 167, 0, 180, 43, 182, 0, 107, 87, 44, 182, 0, 110]
set_option maxRecDepth 20000 in
theorem kc_cL_law_27 : (cL_law.data.toList.drop 864).take 35 = ch_cL_law_27 := by decide +kernel
def ch_cL_law_28 : List UInt8 := [182, 0, 110, 87, 167, 0, 167, 43, 42, 29, 4, 96, 46, 42, 29, 5, 96, 46, 182, 0, 111, 87, 44, 42, 29, 4, 96, 46, 42, 29, 5, 96, 46, 182, 0]
set_option maxRecDepth 20000 in
theorem kc_cL_law_28 : (cL_law.data.toList.drop 896).take 35 = ch_cL_law_28 := by decide +kernel
def ch_cL_law_29 : List UInt8 := [46, 182, 0, 114, 87, 167, 0, 134, 43, 42, 29, 4, 96, 46, 42, 29, 5, 96, 46, 42, 29, 6, 96, 46, 153, 0, 7, 4, 167, 0, 4, 3, 182, 0, 115]
set_option maxRecDepth 20000 in
theorem kc_cL_law_29 : (cL_law.data.toList.drop 928).take 35 = ch_cL_law_29 := by decide +kernel
def ch_cL_law_30 : List UInt8 := [182, 0, 115, 88, 44, 42, 29, 4, 96, 46, 42, 29, 5, 96, 46, 42, 29, 6, 96, 46, 153, 0, 7, 4, 167, 0, 4, 3, 182, 0, 119, 88, 167, 0, 75]
set_option maxRecDepth 20000 in
theorem kc_cL_law_30 : (cL_law.data.toList.drop 960).take 35 = ch_cL_law_30 := by decide +kernel
def ch_cL_law_31 : List UInt8 := [167, 0, 75, 43, 42, 29, 4, 96, 46, 182, 0, 120, 44, 42, 29, 4, 96, 46, 182, 0, 123, 159, 0, 54, 3, 172, 43, 182, 0, 124, 87, 44, 182, 0, 127]
set_option maxRecDepth 20000 in
theorem kc_cL_law_31 : (cL_law.data.toList.drop 992).take 35 = ch_cL_law_31 := by decide +kernel
def ch_cL_law_32 : List UInt8 := [182, 0, 127, 87, 167, 0, 39, 43, 42, 29, 4, 96, 46, 182, 0, 128, 87, 44, 42, 29, 4, 96, 46, 182, 0, 131, 87, 167, 0, 16, 43, 182, 0, 132, 88]
set_option maxRecDepth 20000 in
theorem kc_cL_law_32 : (cL_law.data.toList.drop 1024).take 35 = ch_cL_law_32 := by decide +kernel
def ch_cL_law_33 : List UInt8 := [0, 132, 88, 44, 182, 0, 136, 88, 167, 0, 3, 132, 3, 6, 167, 251, 228, 4, 172]
set_option maxRecDepth 20000 in
theorem kc_cL_law_33 : (cL_law.data.toList.drop 1056).take 35 = ch_cL_law_33 := by decide +kernel
def ch_cX0_allPoints_0 : List UInt8 := [3, 61, 3, 62, 29, 16, 10, 162, 0, 20, 28, 42, 180, 0, 27, 27, 50, 29, 46, 96, 61, 132, 3, 1, 167, 255, 236, 28, 172]
set_option maxRecDepth 20000 in
theorem kc_cX0_allPoints_0 : (cX0_allPoints.data.toList.drop 0).take 35 = ch_cX0_allPoints_0 := by decide +kernel
def ch_cX0_append_0 : List UInt8 := [42, 180, 0, 27, 27, 50, 42, 180, 0, 22, 27, 46, 28, 79, 42, 180, 0, 22, 27, 92, 46, 4, 96, 79, 42, 180, 0, 22, 27, 46, 172]
set_option maxRecDepth 20000 in
theorem kc_cX0_append_0 : (cX0_append.data.toList.drop 0).take 35 = ch_cX0_append_0 := by decide +kernel
def ch_cX0_come_0 : List UInt8 := [42, 180, 0, 9, 16, 60, 160, 0, 6, 16, 254, 172, 42, 180, 0, 15, 42, 180, 0, 9, 27, 79, 42, 180, 0, 19, 42, 180, 0, 9, 28, 79, 42, 89, 180]
set_option maxRecDepth 20000 in
theorem kc_cX0_come_0 : (cX0_come.data.toList.drop 0).take 35 = ch_cX0_come_0 := by decide +kernel
def ch_cX0_come_1 : List UInt8 := [42, 89, 180, 0, 9, 4, 96, 181, 0, 9, 42, 180, 0, 9, 4, 100, 172]
set_option maxRecDepth 20000 in
theorem kc_cX0_come_1 : (cX0_come.data.toList.drop 32).take 35 = ch_cX0_come_1 := by decide +kernel
def ch_cX0_has_0 : List UInt8 := [27, 155, 0, 15, 27, 42, 180, 0, 9, 162, 0, 7, 4, 167, 0, 4, 3, 172]
set_option maxRecDepth 20000 in
theorem kc_cX0_has_0 : (cX0_has.data.toList.drop 0).take 35 = ch_cX0_has_0 := by decide +kernel
def ch_cX0_hasRoomFor_0 : List UInt8 := [42, 27, 5, 182, 0, 37, 153, 0, 7, 4, 167, 0, 5, 16, 10, 62, 42, 180, 0, 22, 27, 46, 29, 162, 0, 18, 42, 27, 28, 182, 0, 41, 16, 10, 160]
set_option maxRecDepth 20000 in
theorem kc_cX0_hasRoomFor_0 : (cX0_hasRoomFor.data.toList.drop 0).take 35 = ch_cX0_hasRoomFor_0 := by decide +kernel
def ch_cX0_hasRoomFor_1 : List UInt8 := [16, 10, 160, 0, 7, 4, 167, 0, 4, 3, 172]
set_option maxRecDepth 20000 in
theorem kc_cX0_hasRoomFor_1 : (cX0_hasRoomFor.data.toList.drop 32).take 35 = ch_cX0_hasRoomFor_1 := by decide +kernel
def ch_cX0_init_0 : List UInt8 := [42, 183, 0, 3, 42, 3, 181, 0, 9, 42, 16, 60, 188, 10, 181, 0, 15, 42, 16, 60, 188, 10, 181, 0, 19, 42, 16, 60, 188, 10, 181, 0, 22, 42, 16]
set_option maxRecDepth 20000 in
theorem kc_cX0_init_0 : (cX0_init.data.toList.drop 0).take 35 = ch_cX0_init_0 := by decide +kernel
def ch_cX0_init_1 : List UInt8 := [22, 42, 16, 60, 16, 10, 197, 0, 25, 2, 181, 0, 27, 177]
set_option maxRecDepth 20000 in
theorem kc_cX0_init_1 : (cX0_init.data.toList.drop 32).take 35 = ch_cX0_init_1 := by decide +kernel
def ch_cX0_isOf_0 : List UInt8 := [42, 180, 0, 15, 27, 46, 28, 178, 0, 30, 184, 0, 33, 172]
set_option maxRecDepth 20000 in
theorem kc_cX0_isOf_0 : (cX0_isOf.data.toList.drop 0).take 35 = ch_cX0_isOf_0 := by decide +kernel
def ch_cX0_papersAt_0 : List UInt8 := [42, 27, 182, 0, 45, 153, 0, 12, 42, 180, 0, 19, 27, 46, 167, 0, 4, 3, 172]
set_option maxRecDepth 20000 in
theorem kc_cX0_papersAt_0 : (cX0_papersAt.data.toList.drop 0).take 35 = ch_cX0_papersAt_0 := by decide +kernel
def ch_cX0_placeOf_0 : List UInt8 := [3, 62, 29, 42, 180, 0, 22, 27, 46, 162, 0, 23, 42, 180, 0, 27, 27, 50, 29, 46, 28, 160, 0, 5, 29, 172, 132, 3, 1, 167, 255, 229, 16, 10, 172]
set_option maxRecDepth 20000 in
theorem kc_cX0_placeOf_0 : (cX0_placeOf.data.toList.drop 0).take 35 = ch_cX0_placeOf_0 := by decide +kernel
def ch_cX0_placeOf_1 : List UInt8 := [16, 10, 172]
set_option maxRecDepth 20000 in
theorem kc_cX0_placeOf_1 : (cX0_placeOf.data.toList.drop 32).take 35 = ch_cX0_placeOf_1 := by decide +kernel
def ch_cX10_at_0 : List UInt8 := [42, 180, 0, 26, 27, 182, 0, 146, 154, 0, 5, 2, 172, 42, 27, 28, 182, 0, 162, 62, 29, 153, 0, 11, 42, 29, 182, 0, 117, 167, 0, 14, 42, 180, 0]
set_option maxRecDepth 20000 in
theorem kc_cX10_at_0 : (cX10_at.data.toList.drop 0).take 35 = ch_cX10_at_0 := by decide +kernel
def ch_cX10_at_1 : List UInt8 := [42, 180, 0, 26, 180, 0, 151, 27, 50, 28, 46, 172]
set_option maxRecDepth 20000 in
theorem kc_cX10_at_1 : (cX10_at.data.toList.drop 32).take 35 = ch_cX10_at_1 := by decide +kernel
def ch_cX10_ballot_0 : List UInt8 := [27, 184, 0, 105, 153, 0, 14, 28, 4, 161, 0, 9, 28, 18, 108, 164, 0, 5, 2, 172, 42, 180, 0, 19, 27, 28, 182, 0, 109, 172]
set_option maxRecDepth 20000 in
theorem kc_cX10_ballot_0 : (cX10_ballot.data.toList.drop 0).take 35 = ch_cX10_ballot_0 := by decide +kernel
def ch_cX10_box_0 : List UInt8 := [27, 184, 0, 105, 153, 0, 9, 28, 16, 40, 164, 0, 5, 2, 172, 42, 180, 0, 26, 180, 0, 142, 16, 8, 160, 0, 6, 16, 254, 172, 28, 156, 0, 9, 42]
set_option maxRecDepth 20000 in
theorem kc_cX10_box_0 : (cX10_box.data.toList.drop 0).take 35 = ch_cX10_box_0 := by decide +kernel
def ch_cX10_box_1 : List UInt8 := [0, 9, 42, 8, 182, 0, 117, 172, 42, 180, 0, 26, 27, 28, 182, 0, 145, 172]
set_option maxRecDepth 20000 in
theorem kc_cX10_box_1 : (cX10_box.data.toList.drop 32).take 35 = ch_cX10_box_1 := by decide +kernel
def ch_cX10_count_0 : List UInt8 := [42, 16, 247, 181, 0, 79, 42, 180, 0, 33, 27, 182, 0, 180, 153, 0, 31, 42, 180, 0, 26, 28, 182, 0, 146, 153, 0, 20, 42, 42, 180, 0, 33, 180, 0]
set_option maxRecDepth 20000 in
theorem kc_cX10_count_0 : (cX10_count.data.toList.drop 0).take 35 = ch_cX10_count_0 := by decide +kernel
def ch_cX10_count_1 : List UInt8 := [33, 180, 0, 184, 27, 46, 29, 182, 0, 206, 154, 0, 5, 2, 172, 42, 180, 0, 33, 27, 182, 0, 200, 4, 159, 0, 6, 16, 252, 172, 42, 180, 0, 33, 180]
set_option maxRecDepth 20000 in
theorem kc_cX10_count_1 : (cX10_count.data.toList.drop 32).take 35 = ch_cX10_count_1 := by decide +kernel
def ch_cX10_count_2 : List UInt8 := [0, 33, 180, 0, 184, 27, 46, 54, 4, 42, 42, 28, 21, 4, 4, 160, 0, 7, 6, 167, 0, 4, 4, 182, 0, 209, 181, 0, 79, 42, 180, 0, 79, 16, 247]
set_option maxRecDepth 20000 in
theorem kc_cX10_count_2 : (cX10_count.data.toList.drop 64).take 35 = ch_cX10_count_2 := by decide +kernel
def ch_cX10_count_3 : List UInt8 := [79, 16, 247, 159, 0, 9, 42, 6, 182, 0, 117, 172, 42, 180, 0, 42, 42, 180, 0, 26, 28, 29, 182, 0, 212, 42, 180, 0, 76, 182, 0, 216, 42, 21, 4]
set_option maxRecDepth 20000 in
theorem kc_cX10_count_3 : (cX10_count.data.toList.drop 96).take 35 = ch_cX10_count_3 := by decide +kernel
def ch_cX10_count_4 : List UInt8 := [42, 21, 4, 42, 180, 0, 76, 182, 0, 219, 154, 0, 6, 16, 250, 172, 42, 180, 0, 76, 58, 5, 42, 42, 180, 0, 72, 181, 0, 76, 42, 25, 5, 181, 0]
set_option maxRecDepth 20000 in
theorem kc_cX10_count_4 : (cX10_count.data.toList.drop 128).take 35 = ch_cX10_count_4 := by decide +kernel
def ch_cX10_count_5 : List UInt8 := [5, 181, 0, 72, 42, 180, 0, 72, 180, 0, 223, 172]
set_option maxRecDepth 20000 in
theorem kc_cX10_count_5 : (cX10_count.data.toList.drop 160).take 35 = ch_cX10_count_5 := by decide +kernel
def ch_cX10_countBy_0 : List UInt8 := [27, 170, 0, 0, 0, 0, 0, 86, 0, 0, 0, 3, 0, 0, 0, 7, 0, 0, 0, 35, 0, 0, 0, 45, 0, 0, 0, 55, 0, 0, 0, 64, 0, 0, 0]
set_option maxRecDepth 20000 in
theorem kc_cX10_countBy_0 : (cX10_countBy.data.toList.drop 0).take 35 = ch_cX10_countBy_0 := by decide +kernel
def ch_cX10_countBy_1 : List UInt8 := [0, 0, 0, 75, 42, 180, 0, 51, 44, 182, 1, 16, 4, 172, 42, 180, 0, 58, 44, 182, 1, 20, 4, 172, 42, 180, 0, 65, 44, 182, 1, 23, 172, 42, 180]
set_option maxRecDepth 20000 in
theorem kc_cX10_countBy_1 : (cX10_countBy.data.toList.drop 32).take 35 = ch_cX10_countBy_1 := by decide +kernel
def ch_cX10_countBy_2 : List UInt8 := [172, 42, 180, 0, 51, 4, 44, 182, 1, 27, 4, 172, 42, 180, 0, 51, 5, 44, 182, 1, 27, 4, 172, 42, 180, 0, 51, 27, 44, 182, 1, 31, 4, 172]
set_option maxRecDepth 20000 in
theorem kc_cX10_countBy_2 : (cX10_countBy.data.toList.drop 64).take 35 = ch_cX10_countBy_2 := by decide +kernel
def ch_cX10_countBy_3 : List UInt8 := [4, 172]
set_option maxRecDepth 20000 in
theorem kc_cX10_countBy_3 : (cX10_countBy.data.toList.drop 96).take 35 = ch_cX10_countBy_3 := by decide +kernel
def ch_cX10_digest_0 : List UInt8 := [20, 0, 255, 64, 3, 62, 29, 42, 180, 0, 10, 180, 0, 252, 162, 0, 26, 20, 1, 1, 31, 105, 42, 180, 0, 10, 180, 0, 102, 29, 46, 133, 97, 64, 132]
set_option maxRecDepth 20000 in
theorem kc_cX10_digest_0 : (cX10_digest.data.toList.drop 0).take 35 = ch_cX10_digest_0 := by decide +kernel
def ch_cX10_digest_1 : List UInt8 := [97, 64, 132, 3, 1, 167, 255, 225, 3, 62, 29, 42, 180, 0, 19, 180, 0, 253, 162, 0, 16, 42, 31, 29, 182, 1, 3, 64, 132, 3, 1, 167, 255, 235, 3]
set_option maxRecDepth 20000 in
theorem kc_cX10_digest_1 : (cX10_digest.data.toList.drop 32).take 35 = ch_cX10_digest_1 := by decide +kernel
def ch_cX10_digest_2 : List UInt8 := [255, 235, 3, 62, 29, 42, 180, 0, 26, 180, 0, 142, 162, 0, 52, 3, 54, 4, 21, 4, 42, 180, 0, 26, 180, 1, 7, 29, 46, 162, 0, 29, 20, 1, 1]
set_option maxRecDepth 20000 in
theorem kc_cX10_digest_2 : (cX10_digest.data.toList.drop 64).take 35 = ch_cX10_digest_2 := by decide +kernel
def ch_cX10_digest_3 : List UInt8 := [20, 1, 1, 31, 105, 42, 180, 0, 26, 180, 0, 151, 29, 50, 21, 4, 46, 133, 97, 64, 132, 4, 1, 167, 255, 219, 132, 3, 1, 167, 255, 199, 3, 62, 29]
set_option maxRecDepth 20000 in
theorem kc_cX10_digest_3 : (cX10_digest.data.toList.drop 96).take 35 = ch_cX10_digest_3 := by decide +kernel
def ch_cX10_digest_4 : List UInt8 := [3, 62, 29, 42, 180, 0, 33, 180, 0, 254, 162, 0, 39, 3, 54, 4, 21, 4, 6, 163, 0, 24, 20, 1, 1, 31, 105, 42, 29, 21, 4, 182, 1, 10, 133]
set_option maxRecDepth 20000 in
theorem kc_cX10_digest_4 : (cX10_digest.data.toList.drop 128).take 35 = ch_cX10_digest_4 := by decide +kernel
def ch_cX10_digest_5 : List UInt8 := [1, 10, 133, 97, 64, 132, 4, 1, 167, 255, 232, 132, 3, 1, 167, 255, 212, 31, 173]
set_option maxRecDepth 20000 in
theorem kc_cX10_digest_5 : (cX10_digest.data.toList.drop 160).take 35 = ch_cX10_digest_5 := by decide +kernel
def ch_cX10_digestBallot_0 : List UInt8 := [31, 55, 4, 6, 42, 29, 182, 0, 139, 96, 54, 6, 3, 54, 7, 21, 7, 21, 6, 162, 0, 26, 20, 1, 1, 22, 4, 105, 42, 29, 21, 7, 182, 1, 13]
set_option maxRecDepth 20000 in
theorem kc_cX10_digestBallot_0 : (cX10_digestBallot.data.toList.drop 0).take 35 = ch_cX10_digestBallot_0 := by decide +kernel
def ch_cX10_digestBallot_1 : List UInt8 := [182, 1, 13, 133, 97, 55, 4, 132, 7, 1, 167, 255, 229, 22, 4, 173]
set_option maxRecDepth 20000 in
theorem kc_cX10_digestBallot_1 : (cX10_digestBallot.data.toList.drop 32).take 35 = ch_cX10_digestBallot_1 := by decide +kernel
def ch_cX10_draw_0 : List UInt8 := [42, 180, 0, 10, 27, 182, 0, 94, 153, 0, 14, 42, 180, 0, 10, 28, 182, 0, 94, 154, 0, 5, 2, 172, 42, 180, 0, 10, 27, 28, 182, 0, 98, 4, 172]
set_option maxRecDepth 20000 in
theorem kc_cX10_draw_0 : (cX10_draw.data.toList.drop 0).take 35 = ch_cX10_draw_0 := by decide +kernel
def ch_cX10_draw_1 : List UInt8 := [98, 4, 172]
set_option maxRecDepth 20000 in
theorem kc_cX10_draw_1 : (cX10_draw.data.toList.drop 32).take 35 = ch_cX10_draw_1 := by decide +kernel
def ch_cX10_drawn_0 : List UInt8 := [42, 180, 0, 10, 27, 182, 0, 94, 153, 0, 15, 42, 180, 0, 10, 180, 0, 102, 27, 46, 167, 0, 4, 2, 172]
set_option maxRecDepth 20000 in
theorem kc_cX10_drawn_0 : (cX10_drawn.data.toList.drop 0).take 35 = ch_cX10_drawn_0 := by decide +kernel
def ch_cX10_find_0 : List UInt8 := [27, 155, 0, 9, 27, 16, 8, 161, 0, 7, 2, 167, 0, 11, 42, 180, 0, 33, 27, 182, 0, 203, 172]
set_option maxRecDepth 20000 in
theorem kc_cX10_find_0 : (cX10_find.data.toList.drop 0).take 35 = ch_cX10_find_0 := by decide +kernel
def ch_cX10_finding_0 : List UInt8 := [42, 180, 0, 83, 172]
set_option maxRecDepth 20000 in
theorem kc_cX10_finding_0 : (cX10_finding.data.toList.drop 0).take 35 = ch_cX10_finding_0 := by decide +kernel
def ch_cX10_findings_0 : List UInt8 := [27, 4, 161, 0, 18, 27, 16, 6, 163, 0, 12, 42, 180, 0, 86, 27, 46, 167, 0, 4, 2, 172]
set_option maxRecDepth 20000 in
theorem kc_cX10_findings_0 : (cX10_findings.data.toList.drop 0).take 35 = ch_cX10_findings_0 := by decide +kernel
def ch_cX10_firstUnlike_0 : List UInt8 := [3, 62, 29, 42, 180, 0, 26, 180, 1, 7, 27, 46, 162, 0, 49, 42, 180, 0, 26, 180, 0, 151, 27, 50, 29, 46, 54, 4, 42, 180, 0, 19, 21, 4, 182]
set_option maxRecDepth 20000 in
theorem kc_cX10_firstUnlike_0 : (cX10_firstUnlike.data.toList.drop 0).take 35 = ch_cX10_firstUnlike_0 := by decide +kernel
def ch_cX10_firstUnlike_1 : List UInt8 := [21, 4, 182, 0, 112, 153, 0, 18, 42, 180, 0, 19, 21, 4, 28, 182, 0, 113, 154, 0, 5, 29, 172, 132, 3, 1, 167, 255, 200, 16, 247, 172]
set_option maxRecDepth 20000 in
theorem kc_cX10_firstUnlike_1 : (cX10_firstUnlike.data.toList.drop 32).take 35 = ch_cX10_firstUnlike_1 := by decide +kernel
def ch_cX10_found_0 : List UInt8 := [42, 27, 181, 0, 83, 42, 180, 0, 86, 27, 92, 46, 4, 96, 79, 16, 253, 172]
set_option maxRecDepth 20000 in
theorem kc_cX10_found_0 : (cX10_found.data.toList.drop 0).take 35 = ch_cX10_found_0 := by decide +kernel
def ch_cX10_init_0 : List UInt8 := [42, 183, 0, 1, 42, 187, 0, 7, 89, 183, 0, 9, 181, 0, 10, 42, 187, 0, 16, 89, 183, 0, 18, 181, 0, 19, 42, 187, 0, 23, 89, 183, 0, 25, 181]
set_option maxRecDepth 20000 in
theorem kc_cX10_init_0 : (cX10_init.data.toList.drop 0).take 35 = ch_cX10_init_0 := by decide +kernel
def ch_cX10_init_1 : List UInt8 := [0, 25, 181, 0, 26, 42, 187, 0, 30, 89, 183, 0, 32, 181, 0, 33, 42, 187, 0, 37, 89, 42, 180, 0, 10, 42, 180, 0, 19, 183, 0, 39, 181, 0, 42]
set_option maxRecDepth 20000 in
theorem kc_cX10_init_1 : (cX10_init.data.toList.drop 32).take 35 = ch_cX10_init_1 := by decide +kernel
def ch_cX10_init_2 : List UInt8 := [181, 0, 42, 42, 187, 0, 46, 89, 42, 180, 0, 42, 183, 0, 48, 181, 0, 51, 42, 187, 0, 55, 89, 42, 180, 0, 42, 183, 0, 57, 181, 0, 58, 42, 187]
set_option maxRecDepth 20000 in
theorem kc_cX10_init_2 : (cX10_init.data.toList.drop 64).take 35 = ch_cX10_init_2 := by decide +kernel
def ch_cX10_init_3 : List UInt8 := [58, 42, 187, 0, 62, 89, 42, 180, 0, 42, 183, 0, 64, 181, 0, 65, 42, 187, 0, 69, 89, 183, 0, 71, 181, 0, 72, 42, 187, 0, 69, 89, 183, 0, 71]
set_option maxRecDepth 20000 in
theorem kc_cX10_init_3 : (cX10_init.data.toList.drop 96).take 35 = ch_cX10_init_3 := by decide +kernel
def ch_cX10_init_4 : List UInt8 := [183, 0, 71, 181, 0, 76, 42, 16, 247, 181, 0, 79, 42, 3, 181, 0, 83, 42, 16, 7, 188, 10, 181, 0, 86, 177]
set_option maxRecDepth 20000 in
theorem kc_cX10_init_4 : (cX10_init.data.toList.drop 128).take 35 = ch_cX10_init_4 := by decide +kernel
def ch_cX10_is_0 : List UInt8 := [42, 180, 0, 19, 27, 182, 0, 112, 153, 0, 10, 28, 184, 0, 105, 154, 0, 5, 2, 172, 42, 180, 0, 19, 27, 28, 182, 0, 113, 153, 0, 7, 4, 167, 0]
set_option maxRecDepth 20000 in
theorem kc_cX10_is_0 : (cX10_is.data.toList.drop 0).take 35 = ch_cX10_is_0 := by decide +kernel
def ch_cX10_is_1 : List UInt8 := [4, 167, 0, 4, 3, 172]
set_option maxRecDepth 20000 in
theorem kc_cX10_is_1 : (cX10_is.data.toList.drop 32).take 35 = ch_cX10_is_1 := by decide +kernel
def ch_cX10_isKind_0 : List UInt8 := [26, 155, 0, 15, 26, 178, 0, 193, 190, 162, 0, 7, 4, 167, 0, 4, 3, 172]
set_option maxRecDepth 20000 in
theorem kc_cX10_isKind_0 : (cX10_isKind.data.toList.drop 0).take 35 = ch_cX10_isKind_0 := by decide +kernel
def ch_cX10_isSort_0 : List UInt8 := [26, 155, 0, 15, 26, 178, 1, 34, 190, 162, 0, 7, 4, 167, 0, 4, 3, 172]
set_option maxRecDepth 20000 in
theorem kc_cX10_isSort_0 : (cX10_isSort.data.toList.drop 0).take 35 = ch_cX10_isSort_0 := by decide +kernel
def ch_cX10_isUnder_0 : List UInt8 := [26, 62, 3, 54, 4, 21, 4, 44, 190, 162, 0, 32, 29, 27, 160, 0, 5, 4, 172, 29, 155, 0, 9, 29, 44, 190, 161, 0, 5, 3, 172, 44, 29, 46, 62]
set_option maxRecDepth 20000 in
theorem kc_cX10_isUnder_0 : (cX10_isUnder.data.toList.drop 0).take 35 = ch_cX10_isUnder_0 := by decide +kernel
def ch_cX10_isUnder_1 : List UInt8 := [29, 46, 62, 132, 4, 1, 167, 255, 223, 3, 172]
set_option maxRecDepth 20000 in
theorem kc_cX10_isUnder_1 : (cX10_isUnder.data.toList.drop 32).take 35 = ch_cX10_isUnder_1 := by decide +kernel
def ch_cX10_many_0 : List UInt8 := [27, 170, 0, 0, 0, 0, 0, 75, 0, 0, 0, 0, 0, 0, 0, 4, 0, 0, 0, 35, 0, 0, 0, 43, 0, 0, 0, 51, 0, 0, 0, 59, 0, 0, 0]
set_option maxRecDepth 20000 in
theorem kc_cX10_many_0 : (cX10_many.data.toList.drop 0).take 35 = ch_cX10_many_0 := by decide +kernel
def ch_cX10_many_1 : List UInt8 := [0, 0, 0, 67, 42, 180, 0, 10, 180, 0, 252, 172, 42, 180, 0, 19, 180, 0, 253, 172, 42, 180, 0, 26, 180, 0, 142, 172, 42, 180, 0, 33, 180, 0, 254]
set_option maxRecDepth 20000 in
theorem kc_cX10_many_1 : (cX10_many.data.toList.drop 32).take 35 = ch_cX10_many_1 := by decide +kernel
def ch_cX10_many_2 : List UInt8 := [180, 0, 254, 172, 42, 180, 0, 72, 180, 0, 223, 172, 2, 172]
set_option maxRecDepth 20000 in
theorem kc_cX10_many_2 : (cX10_many.data.toList.drop 64).take 35 = ch_cX10_many_2 := by decide +kernel
def ch_cX10_maySeat_0 : List UInt8 := [28, 4, 161, 0, 19, 28, 16, 30, 163, 0, 13, 42, 180, 0, 10, 180, 0, 252, 154, 0, 5, 3, 172, 28, 42, 180, 0, 10, 180, 0, 252, 164, 0, 15, 27]
set_option maxRecDepth 20000 in
theorem kc_cX10_maySeat_0 : (cX10_maySeat.data.toList.drop 0).take 35 = ch_cX10_maySeat_0 := by decide +kernel
def ch_cX10_maySeat_1 : List UInt8 := [0, 15, 27, 16, 6, 178, 0, 193, 184, 0, 196, 153, 0, 7, 4, 167, 0, 4, 3, 172]
set_option maxRecDepth 20000 in
theorem kc_cX10_maySeat_1 : (cX10_maySeat.data.toList.drop 32).take 35 = ch_cX10_maySeat_1 := by decide +kernel
def ch_cX10_method_0 : List UInt8 := [27, 184, 0, 177, 153, 0, 33, 29, 155, 0, 29, 29, 17, 0, 255, 163, 0, 22, 21, 4, 16, 247, 159, 0, 17, 42, 180, 0, 33, 21, 4, 182, 0, 180, 154]
set_option maxRecDepth 20000 in
theorem kc_cX10_method_0 : (cX10_method.data.toList.drop 0).take 35 = ch_cX10_method_0 := by decide +kernel
def ch_cX10_method_1 : List UInt8 := [0, 180, 154, 0, 5, 2, 172, 42, 180, 0, 33, 27, 28, 29, 21, 4, 182, 0, 181, 172]
set_option maxRecDepth 20000 in
theorem kc_cX10_method_1 : (cX10_method.data.toList.drop 32).take 35 = ch_cX10_method_1 := by decide +kernel
def ch_cX10_methodOf_0 : List UInt8 := [42, 180, 0, 33, 27, 182, 0, 180, 154, 0, 5, 2, 172, 28, 170, 0, 0, 0, 0, 78, 0, 0, 0, 0, 0, 0, 0, 3, 0, 0, 0, 30, 0, 0, 0]
set_option maxRecDepth 20000 in
theorem kc_cX10_methodOf_0 : (cX10_methodOf.data.toList.drop 0).take 35 = ch_cX10_methodOf_0 := by decide +kernel
def ch_cX10_methodOf_1 : List UInt8 := [0, 0, 0, 40, 0, 0, 0, 50, 0, 0, 0, 68, 42, 180, 0, 33, 180, 0, 184, 27, 46, 172, 42, 180, 0, 33, 180, 0, 187, 27, 46, 172, 42, 180, 0]
set_option maxRecDepth 20000 in
theorem kc_cX10_methodOf_1 : (cX10_methodOf.data.toList.drop 32).take 35 = ch_cX10_methodOf_1 := by decide +kernel
def ch_cX10_methodOf_2 : List UInt8 := [42, 180, 0, 33, 180, 0, 187, 27, 46, 154, 0, 7, 3, 167, 0, 4, 4, 172, 42, 180, 0, 33, 180, 0, 190, 27, 46, 172, 2, 172]
set_option maxRecDepth 20000 in
theorem kc_cX10_methodOf_2 : (cX10_methodOf.data.toList.drop 64).take 35 = ch_cX10_methodOf_2 := by decide +kernel
def ch_cX10_missingAt_0 : List UInt8 := [42, 180, 0, 26, 27, 28, 182, 0, 147, 154, 0, 5, 5, 172, 42, 180, 0, 26, 180, 0, 151, 27, 50, 28, 46, 16, 247, 160, 0, 7, 4, 167, 0, 4, 3]
set_option maxRecDepth 20000 in
theorem kc_cX10_missingAt_0 : (cX10_missingAt.data.toList.drop 0).take 35 = ch_cX10_missingAt_0 := by decide +kernel
def ch_cX10_missingAt_1 : List UInt8 := [0, 4, 3, 172]
set_option maxRecDepth 20000 in
theorem kc_cX10_missingAt_1 : (cX10_missingAt.data.toList.drop 32).take 35 = ch_cX10_missingAt_1 := by decide +kernel
def ch_cX10_papersIn_0 : List UInt8 := [3, 61, 3, 62, 29, 42, 180, 0, 26, 180, 1, 7, 27, 46, 162, 0, 30, 28, 42, 180, 0, 19, 42, 180, 0, 26, 180, 0, 151, 27, 50, 29, 46, 182, 0]
set_option maxRecDepth 20000 in
theorem kc_cX10_papersIn_0 : (cX10_papersIn.data.toList.drop 0).take 35 = ch_cX10_papersIn_0 := by decide +kernel
def ch_cX10_papersIn_1 : List UInt8 := [46, 182, 0, 165, 96, 61, 132, 3, 1, 167, 255, 219, 28, 172]
set_option maxRecDepth 20000 in
theorem kc_cX10_papersIn_1 : (cX10_papersIn.data.toList.drop 32).take 35 = ch_cX10_papersIn_1 := by decide +kernel
def ch_cX10_pour_0 : List UInt8 := [42, 180, 0, 26, 27, 182, 0, 146, 153, 0, 14, 42, 180, 0, 26, 29, 182, 0, 146, 154, 0, 5, 2, 172, 42, 180, 0, 26, 180, 0, 150, 27, 46, 42, 180]
set_option maxRecDepth 20000 in
theorem kc_cX10_pour_0 : (cX10_pour.data.toList.drop 0).take 35 = ch_cX10_pour_0 := by decide +kernel
def ch_cX10_pour_1 : List UInt8 := [46, 42, 180, 0, 26, 180, 0, 150, 29, 46, 159, 0, 10, 42, 16, 6, 182, 0, 117, 172, 42, 180, 0, 26, 27, 28, 21, 5, 182, 0, 154, 153, 0, 18, 42]
set_option maxRecDepth 20000 in
theorem kc_cX10_pour_1 : (cX10_pour.data.toList.drop 32).take 35 = ch_cX10_pour_1 := by decide +kernel
def ch_cX10_pour_2 : List UInt8 := [0, 18, 42, 180, 0, 26, 29, 21, 4, 21, 5, 182, 0, 154, 154, 0, 9, 42, 5, 182, 0, 117, 172, 42, 180, 0, 26, 27, 28, 29, 21, 4, 21, 5, 182]
set_option maxRecDepth 20000 in
theorem kc_cX10_pour_2 : (cX10_pour.data.toList.drop 64).take 35 = ch_cX10_pour_2 := by decide +kernel
def ch_cX10_pour_3 : List UInt8 := [21, 5, 182, 0, 158, 4, 172]
set_option maxRecDepth 20000 in
theorem kc_cX10_pour_3 : (cX10_pour.data.toList.drop 96).take 35 = ch_cX10_pour_3 := by decide +kernel
def ch_cX10_put_0 : List UInt8 := [42, 180, 0, 26, 27, 182, 0, 146, 153, 0, 20, 29, 16, 247, 159, 0, 16, 42, 180, 0, 19, 29, 182, 0, 112, 154, 0, 5, 2, 172, 42, 180, 0, 26, 27]
set_option maxRecDepth 20000 in
theorem kc_cX10_put_0 : (cX10_put.data.toList.drop 0).take 35 = ch_cX10_put_0 := by decide +kernel
def ch_cX10_put_1 : List UInt8 := [0, 26, 27, 28, 182, 0, 147, 154, 0, 9, 42, 5, 182, 0, 117, 172, 29, 16, 247, 159, 0, 30, 42, 180, 0, 19, 29, 42, 180, 0, 26, 180, 0, 150, 27]
set_option maxRecDepth 20000 in
theorem kc_cX10_put_1 : (cX10_put.data.toList.drop 32).take 35 = ch_cX10_put_1 := by decide +kernel
def ch_cX10_put_2 : List UInt8 := [0, 150, 27, 46, 182, 0, 113, 154, 0, 10, 42, 16, 6, 182, 0, 117, 172, 42, 180, 0, 26, 180, 0, 151, 27, 50, 28, 29, 79, 4, 172]
set_option maxRecDepth 20000 in
theorem kc_cX10_put_2 : (cX10_put.data.toList.drop 64).take 35 = ch_cX10_put_2 := by decide +kernel
def ch_cX10_rank_0 : List UInt8 := [42, 180, 0, 19, 27, 182, 0, 112, 153, 0, 14, 42, 180, 0, 10, 28, 182, 0, 94, 154, 0, 5, 2, 172, 42, 180, 0, 19, 27, 4, 182, 0, 113, 154, 0]
set_option maxRecDepth 20000 in
theorem kc_cX10_rank_0 : (cX10_rank.data.toList.drop 0).take 35 = ch_cX10_rank_0 := by decide +kernel
def ch_cX10_rank_1 : List UInt8 := [113, 154, 0, 9, 42, 6, 182, 0, 117, 172, 42, 180, 0, 19, 27, 28, 182, 0, 121, 154, 0, 6, 16, 252, 172, 42, 180, 0, 19, 27, 28, 182, 0, 124, 172]
set_option maxRecDepth 20000 in
theorem kc_cX10_rank_1 : (cX10_rank.data.toList.drop 32).take 35 = ch_cX10_rank_1 := by decide +kernel
def ch_cX10_rank_2 : List UInt8 := [0, 124, 172]
set_option maxRecDepth 20000 in
theorem kc_cX10_rank_2 : (cX10_rank.data.toList.drop 64).take 35 = ch_cX10_rank_2 := by decide +kernel
def ch_cX10_round_0 : List UInt8 := [28, 153, 0, 10, 28, 4, 159, 0, 5, 2, 172, 42, 180, 0, 72, 27, 182, 0, 232, 154, 0, 6, 16, 247, 172, 28, 154, 0, 15, 42, 180, 0, 72, 180, 0]
set_option maxRecDepth 20000 in
theorem kc_cX10_round_0 : (cX10_round.data.toList.drop 0).take 35 = ch_cX10_round_0 := by decide +kernel
def ch_cX10_round_1 : List UInt8 := [72, 180, 0, 235, 27, 46, 167, 0, 12, 42, 180, 0, 72, 180, 0, 238, 27, 46, 172]
set_option maxRecDepth 20000 in
theorem kc_cX10_round_1 : (cX10_round.data.toList.drop 32).take 35 = ch_cX10_round_1 := by decide +kernel
def ch_cX10_rounds_0 : List UInt8 := [42, 180, 0, 72, 180, 0, 229, 172]
set_option maxRecDepth 20000 in
theorem kc_cX10_rounds_0 : (cX10_rounds.data.toList.drop 0).take 35 = ch_cX10_rounds_0 := by decide +kernel
def ch_cX10_score_0 : List UInt8 := [42, 180, 0, 19, 27, 182, 0, 112, 153, 0, 24, 42, 180, 0, 10, 28, 182, 0, 94, 153, 0, 13, 29, 155, 0, 9, 29, 16, 9, 164, 0, 5, 2, 172, 42]
set_option maxRecDepth 20000 in
theorem kc_cX10_score_0 : (cX10_score.data.toList.drop 0).take 35 = ch_cX10_score_0 := by decide +kernel
def ch_cX10_score_1 : List UInt8 := [2, 172, 42, 180, 0, 19, 27, 6, 182, 0, 113, 154, 0, 9, 42, 6, 182, 0, 117, 172, 42, 180, 0, 19, 180, 0, 127, 27, 50, 28, 46, 54, 4, 42, 180]
set_option maxRecDepth 20000 in
theorem kc_cX10_score_1 : (cX10_score.data.toList.drop 32).take 35 = ch_cX10_score_1 := by decide +kernel
def ch_cX10_score_2 : List UInt8 := [4, 42, 180, 0, 19, 180, 0, 127, 27, 50, 28, 29, 79, 21, 4, 172]
set_option maxRecDepth 20000 in
theorem kc_cX10_score_2 : (cX10_score.data.toList.drop 64).take 35 = ch_cX10_score_2 := by decide +kernel
def ch_cX10_seat_0 : List UInt8 := [27, 155, 0, 26, 27, 42, 180, 0, 72, 180, 0, 223, 162, 0, 15, 42, 180, 0, 72, 180, 0, 226, 27, 46, 167, 0, 5, 16, 247, 172]
set_option maxRecDepth 20000 in
theorem kc_cX10_seat_0 : (cX10_seat.data.toList.drop 0).take 35 = ch_cX10_seat_0 := by decide +kernel
def ch_cX10_share_0 : List UInt8 := [42, 180, 0, 26, 27, 182, 0, 146, 154, 0, 5, 2, 172, 42, 27, 28, 182, 0, 162, 62, 29, 153, 0, 9, 42, 29, 182, 0, 117, 172, 42, 180, 0, 19, 42]
set_option maxRecDepth 20000 in
theorem kc_cX10_share_0 : (cX10_share.data.toList.drop 0).take 35 = ch_cX10_share_0 := by decide +kernel
def ch_cX10_share_1 : List UInt8 := [0, 19, 42, 180, 0, 26, 180, 0, 151, 27, 50, 28, 46, 182, 0, 165, 42, 27, 182, 0, 168, 184, 0, 171, 172]
set_option maxRecDepth 20000 in
theorem kc_cX10_share_1 : (cX10_share.data.toList.drop 32).take 35 = ch_cX10_share_1 := by decide +kernel
def ch_cX10_stand_0 : List UInt8 := [42, 180, 0, 10, 182, 0, 90, 172]
set_option maxRecDepth 20000 in
theorem kc_cX10_stand_0 : (cX10_stand.data.toList.drop 0).take 35 = ch_cX10_stand_0 := by decide +kernel
def ch_cX10_start_0 : List UInt8 := [42, 180, 0, 33, 27, 182, 0, 180, 153, 0, 14, 42, 180, 0, 33, 27, 182, 0, 200, 167, 0, 4, 2, 172]
set_option maxRecDepth 20000 in
theorem kc_cX10_start_0 : (cX10_start.data.toList.drop 0).take 35 = ch_cX10_start_0 := by decide +kernel
def ch_cX10_tally_0 : List UInt8 := [42, 180, 0, 10, 28, 182, 0, 94, 154, 0, 7, 20, 0, 241, 173, 42, 180, 0, 72, 27, 182, 0, 232, 154, 0, 7, 20, 0, 243, 173, 29, 153, 0, 17, 42]
set_option maxRecDepth 20000 in
theorem kc_cX10_tally_0 : (cX10_tally.data.toList.drop 0).take 35 = ch_cX10_tally_0 := by decide +kernel
def ch_cX10_tally_1 : List UInt8 := [0, 17, 42, 180, 0, 72, 180, 0, 245, 27, 50, 28, 47, 167, 0, 14, 42, 180, 0, 72, 180, 0, 249, 27, 50, 28, 47, 173]
set_option maxRecDepth 20000 in
theorem kc_cX10_tally_1 : (cX10_tally.data.toList.drop 32).take 35 = ch_cX10_tally_1 := by decide +kernel
def ch_cX10_thousandths_0 : List UInt8 := [27, 4, 162, 0, 7, 3, 167, 0, 10, 17, 3, 232, 26, 104, 27, 108, 172]
set_option maxRecDepth 20000 in
theorem kc_cX10_thousandths_0 : (cX10_thousandths.data.toList.drop 0).take 35 = ch_cX10_thousandths_0 := by decide +kernel
def ch_cX10_told_0 : List UInt8 := [42, 180, 0, 19, 27, 182, 0, 112, 153, 0, 7, 28, 156, 0, 5, 2, 172, 28, 170, 0, 0, 0, 0, 56, 0, 0, 0, 0, 0, 0, 0, 2, 0, 0, 0]
set_option maxRecDepth 20000 in
theorem kc_cX10_told_0 : (cX10_told.data.toList.drop 0).take 35 = ch_cX10_told_0 := by decide +kernel
def ch_cX10_told_1 : List UInt8 := [0, 0, 0, 26, 0, 0, 0, 36, 0, 0, 0, 46, 42, 180, 0, 19, 180, 0, 130, 27, 46, 172, 42, 180, 0, 19, 180, 0, 133, 27, 46, 172, 42, 180, 0]
set_option maxRecDepth 20000 in
theorem kc_cX10_told_1 : (cX10_told.data.toList.drop 32).take 35 = ch_cX10_told_1 := by decide +kernel
def ch_cX10_told_2 : List UInt8 := [42, 180, 0, 19, 180, 0, 136, 27, 46, 172, 28, 6, 100, 42, 27, 182, 0, 139, 162, 0, 19, 42, 180, 0, 19, 180, 0, 127, 27, 50, 28, 6, 100, 46, 167]
set_option maxRecDepth 20000 in
theorem kc_cX10_told_2 : (cX10_told.data.toList.drop 64).take 35 = ch_cX10_told_2 := by decide +kernel
def ch_cX10_told_3 : List UInt8 := [100, 46, 167, 0, 5, 16, 247, 172]
set_option maxRecDepth 20000 in
theorem kc_cX10_told_3 : (cX10_told.data.toList.drop 96).take 35 = ch_cX10_told_3 := by decide +kernel
def ch_cX10_under_0 : List UInt8 := [42, 180, 0, 33, 27, 182, 0, 180, 153, 0, 10, 28, 184, 0, 177, 154, 0, 5, 2, 172, 42, 180, 0, 33, 180, 0, 184, 27, 46, 28, 178, 0, 193, 184, 0]
set_option maxRecDepth 20000 in
theorem kc_cX10_under_0 : (cX10_under.data.toList.drop 0).take 35 = ch_cX10_under_0 := by decide +kernel
def ch_cX10_under_1 : List UInt8 := [193, 184, 0, 196, 153, 0, 7, 4, 167, 0, 4, 3, 172]
set_option maxRecDepth 20000 in
theorem kc_cX10_under_1 : (cX10_under.data.toList.drop 32).take 35 = ch_cX10_under_1 := by decide +kernel
def ch_cX10_weight_0 : List UInt8 := [42, 180, 0, 19, 27, 182, 0, 112, 153, 0, 14, 42, 180, 0, 10, 28, 182, 0, 94, 154, 0, 5, 2, 172, 42, 180, 0, 19, 27, 6, 182, 0, 113, 154, 0]
set_option maxRecDepth 20000 in
theorem kc_cX10_weight_0 : (cX10_weight.data.toList.drop 0).take 35 = ch_cX10_weight_0 := by decide +kernel
def ch_cX10_weight_1 : List UInt8 := [113, 154, 0, 9, 42, 6, 182, 0, 117, 172, 42, 180, 0, 19, 27, 182, 0, 174, 62, 29, 154, 0, 9, 42, 7, 182, 0, 117, 172, 42, 180, 0, 19, 180, 0]
set_option maxRecDepth 20000 in
theorem kc_cX10_weight_1 : (cX10_weight.data.toList.drop 32).take 35 = ch_cX10_weight_1 := by decide +kernel
def ch_cX10_weight_2 : List UInt8 := [19, 180, 0, 127, 27, 50, 28, 46, 29, 184, 0, 171, 172]
set_option maxRecDepth 20000 in
theorem kc_cX10_weight_2 : (cX10_weight.data.toList.drop 64).take 35 = ch_cX10_weight_2 := by decide +kernel
def ch_cX10_where_0 : List UInt8 := [42, 180, 0, 79, 172]
set_option maxRecDepth 20000 in
theorem kc_cX10_where_0 : (cX10_where.data.toList.drop 0).take 35 = ch_cX10_where_0 := by decide +kernel
def ch_cX10_written_0 : List UInt8 := [42, 180, 0, 19, 27, 6, 182, 0, 113, 153, 0, 13, 42, 180, 0, 10, 180, 0, 252, 167, 0, 12, 42, 180, 0, 19, 180, 0, 136, 27, 46, 172]
set_option maxRecDepth 20000 in
theorem kc_cX10_written_0 : (cX10_written.data.toList.drop 0).take 35 = ch_cX10_written_0 := by decide +kernel
def ch_cX11_addTo_0 : List UInt8 := [42, 42, 180, 0, 87, 27, 47, 22, 4, 105, 32, 42, 180, 0, 90, 27, 47, 105, 97, 42, 180, 0, 90, 27, 47, 22, 4, 105, 182, 0, 204, 42, 180, 0, 87]
set_option maxRecDepth 20000 in
theorem kc_cX11_addTo_0 : (cX11_addTo.data.toList.drop 0).take 35 = ch_cX11_addTo_0 := by decide +kernel
def ch_cX11_addTo_1 : List UInt8 := [180, 0, 87, 27, 42, 180, 0, 188, 80, 42, 180, 0, 90, 27, 42, 180, 0, 192, 80, 177]
set_option maxRecDepth 20000 in
theorem kc_cX11_addTo_1 : (cX11_addTo.data.toList.drop 32).take 35 = ch_cX11_addTo_1 := by decide +kernel
def ch_cX11_at_0 : List UInt8 := [42, 27, 182, 0, 166, 154, 0, 5, 2, 172, 42, 27, 28, 182, 0, 169, 62, 29, 158, 0, 11, 42, 29, 182, 0, 155, 167, 0, 14, 42, 180, 0, 34, 16, 40]
set_option maxRecDepth 20000 in
theorem kc_cX11_at_0 : (cX11_at.data.toList.drop 0).take 35 = ch_cX11_at_0 := by decide +kernel
def ch_cX11_at_1 : List UInt8 := [34, 16, 40, 27, 104, 28, 96, 46, 172]
set_option maxRecDepth 20000 in
theorem kc_cX11_at_1 : (cX11_at.data.toList.drop 32).take 35 = ch_cX11_at_1 := by decide +kernel
def ch_cX11_ballot_0 : List UInt8 := [27, 3, 6, 184, 0, 133, 153, 0, 13, 28, 4, 18, 147, 184, 0, 133, 154, 0, 5, 2, 172, 42, 180, 0, 144, 16, 60, 160, 0, 6, 16, 254, 172, 42, 180]
set_option maxRecDepth 20000 in
theorem kc_cX11_ballot_0 : (cX11_ballot.data.toList.drop 0).take 35 = ch_cX11_ballot_0 := by decide +kernel
def ch_cX11_ballot_1 : List UInt8 := [172, 42, 180, 0, 16, 42, 180, 0, 144, 27, 79, 42, 180, 0, 19, 42, 180, 0, 144, 28, 79, 42, 89, 180, 0, 144, 4, 96, 181, 0, 144, 42, 180, 0, 144]
set_option maxRecDepth 20000 in
theorem kc_cX11_ballot_1 : (cX11_ballot.data.toList.drop 32).take 35 = ch_cX11_ballot_1 := by decide +kernel
def ch_cX11_ballot_2 : List UInt8 := [180, 0, 144, 4, 100, 172]
set_option maxRecDepth 20000 in
theorem kc_cX11_ballot_2 : (cX11_ballot.data.toList.drop 64).take 35 = ch_cX11_ballot_2 := by decide +kernel
def ch_cX11_ballotAt_0 : List UInt8 := [42, 180, 0, 34, 16, 40, 42, 180, 0, 201, 104, 27, 96, 46, 172]
set_option maxRecDepth 20000 in
theorem kc_cX11_ballotAt_0 : (cX11_ballotAt.data.toList.drop 0).take 35 = ch_cX11_ballotAt_0 := by decide +kernel
def ch_cX11_begin_0 : List UInt8 := [42, 27, 181, 0, 201, 42, 28, 181, 0, 231, 42, 3, 181, 0, 211, 42, 3, 181, 0, 208, 42, 3, 181, 0, 195, 3, 62, 29, 16, 10, 162, 0, 28, 42, 180]
set_option maxRecDepth 20000 in
theorem kc_cX11_begin_0 : (cX11_begin.data.toList.drop 0).take 35 = ch_cX11_begin_0 := by decide +kernel
def ch_cX11_begin_1 : List UInt8 := [28, 42, 180, 0, 81, 29, 29, 42, 180, 0, 137, 162, 0, 7, 4, 167, 0, 4, 3, 84, 132, 3, 1, 167, 255, 228, 3, 62, 29, 16, 40, 162, 0, 54, 42]
set_option maxRecDepth 20000 in
theorem kc_cX11_begin_1 : (cX11_begin.data.toList.drop 32).take 35 = ch_cX11_begin_1 := by decide +kernel
def ch_cX11_begin_2 : List UInt8 := [0, 54, 42, 180, 0, 34, 16, 40, 27, 104, 29, 96, 46, 54, 4, 42, 180, 0, 93, 29, 21, 4, 16, 247, 160, 0, 7, 9, 167, 0, 11, 42, 180, 0, 19]
set_option maxRecDepth 20000 in
theorem kc_cX11_begin_2 : (cX11_begin.data.toList.drop 64).take 35 = ch_cX11_begin_2 := by decide +kernel
def ch_cX11_begin_3 : List UInt8 := [180, 0, 19, 21, 4, 46, 133, 80, 42, 180, 0, 96, 29, 10, 80, 132, 3, 1, 167, 255, 202, 177]
set_option maxRecDepth 20000 in
theorem kc_cX11_begin_3 : (cX11_begin.data.toList.drop 96).take 35 = ch_cX11_begin_3 := by decide +kernel
def ch_cX11_box_0 : List UInt8 := [27, 3, 6, 184, 0, 133, 153, 0, 9, 28, 16, 40, 164, 0, 5, 2, 172, 42, 180, 0, 163, 16, 8, 160, 0, 6, 16, 254, 172, 28, 156, 0, 9, 42, 8]
set_option maxRecDepth 20000 in
theorem kc_cX11_box_0 : (cX11_box.data.toList.drop 0).take 35 = ch_cX11_box_0 := by decide +kernel
def ch_cX11_box_1 : List UInt8 := [9, 42, 8, 182, 0, 155, 172, 42, 180, 0, 28, 42, 180, 0, 163, 27, 79, 42, 180, 0, 31, 42, 180, 0, 163, 28, 79, 3, 62, 29, 16, 40, 162, 0, 25]
set_option maxRecDepth 20000 in
theorem kc_cX11_box_1 : (cX11_box.data.toList.drop 32).take 35 = ch_cX11_box_1 := by decide +kernel
def ch_cX11_box_2 : List UInt8 := [162, 0, 25, 42, 180, 0, 34, 16, 40, 42, 180, 0, 163, 104, 29, 96, 16, 247, 79, 132, 3, 1, 167, 255, 231, 42, 89, 180, 0, 163, 4, 96, 181, 0, 163]
set_option maxRecDepth 20000 in
theorem kc_cX11_box_2 : (cX11_box.data.toList.drop 64).take 35 = ch_cX11_box_2 := by decide +kernel
def ch_cX11_box_3 : List UInt8 := [181, 0, 163, 42, 180, 0, 163, 4, 100, 172]
set_option maxRecDepth 20000 in
theorem kc_cX11_box_3 : (cX11_box.data.toList.drop 96).take 35 = ch_cX11_box_3 := by decide +kernel
def ch_cX11_count_0 : List UInt8 := [42, 16, 247, 181, 0, 126, 42, 27, 182, 0, 178, 153, 0, 28, 42, 28, 182, 0, 166, 153, 0, 20, 29, 4, 16, 30, 184, 0, 133, 153, 0, 10, 42, 180, 0]
set_option maxRecDepth 20000 in
theorem kc_cX11_count_0 : (cX11_count.data.toList.drop 0).take 35 = ch_cX11_count_0 := by decide +kernel
def ch_cX11_count_1 : List UInt8 := [42, 180, 0, 137, 154, 0, 5, 2, 172, 42, 180, 0, 40, 27, 46, 54, 4, 29, 42, 180, 0, 137, 164, 0, 19, 21, 4, 16, 6, 159, 0, 12, 21, 4, 16]
set_option maxRecDepth 20000 in
theorem kc_cX11_count_1 : (cX11_count.data.toList.drop 32).take 35 = ch_cX11_count_1 := by decide +kernel
def ch_cX11_count_2 : List UInt8 := [21, 4, 16, 7, 159, 0, 5, 2, 172, 42, 27, 182, 0, 181, 5, 160, 0, 6, 16, 252, 172, 42, 21, 4, 28, 182, 1, 40, 54, 5, 21, 5, 16, 247, 159]
set_option maxRecDepth 20000 in
theorem kc_cX11_count_2 : (cX11_count.data.toList.drop 64).take 35 = ch_cX11_count_2 := by decide +kernel
def ch_cX11_count_3 : List UInt8 := [16, 247, 159, 0, 15, 42, 21, 5, 181, 0, 126, 42, 6, 182, 0, 155, 172, 42, 28, 29, 182, 1, 43, 42, 21, 4, 182, 1, 46, 42, 180, 0, 195, 153, 0]
set_option maxRecDepth 20000 in
theorem kc_cX11_count_3 : (cX11_count.data.toList.drop 96).take 35 = ch_cX11_count_3 := by decide +kernel
def ch_cX11_count_4 : List UInt8 := [195, 153, 0, 6, 16, 250, 172, 42, 182, 1, 49, 42, 180, 0, 211, 172]
set_option maxRecDepth 20000 in
theorem kc_cX11_count_4 : (cX11_count.data.toList.drop 128).take 35 = ch_cX11_count_4 := by decide +kernel
def ch_cX11_countBy_0 : List UInt8 := [27, 170, 0, 0, 0, 0, 0, 92, 0, 0, 0, 0, 0, 0, 0, 5, 0, 0, 0, 39, 0, 0, 0, 50, 0, 0, 0, 50, 0, 0, 0, 71, 0, 0, 0]
set_option maxRecDepth 20000 in
theorem kc_cX11_countBy_0 : (cX11_countBy.data.toList.drop 0).take 35 = ch_cX11_countBy_0 := by decide +kernel
def ch_cX11_countBy_1 : List UInt8 := [0, 0, 0, 78, 0, 0, 0, 85, 42, 182, 0, 246, 42, 182, 1, 15, 167, 0, 60, 42, 27, 5, 160, 0, 7, 4, 167, 0, 4, 3, 182, 1, 18, 42, 182]
set_option maxRecDepth 20000 in
theorem kc_cX11_countBy_1 : (cX11_countBy.data.toList.drop 32).take 35 = ch_cX11_countBy_1 := by decide +kernel
def ch_cX11_countBy_2 : List UInt8 := [18, 42, 182, 1, 15, 167, 0, 39, 42, 182, 1, 22, 167, 0, 32, 42, 182, 1, 25, 167, 0, 25, 42, 182, 1, 28, 167, 0, 18, 42, 27, 16, 7, 160, 0]
set_option maxRecDepth 20000 in
theorem kc_cX11_countBy_2 : (cX11_countBy.data.toList.drop 64).take 35 = ch_cX11_countBy_2 := by decide +kernel
def ch_cX11_countBy_3 : List UInt8 := [7, 160, 0, 7, 5, 167, 0, 4, 4, 182, 1, 31, 177]
set_option maxRecDepth 20000 in
theorem kc_cX11_countBy_3 : (cX11_countBy.data.toList.drop 96).take 35 = ch_cX11_countBy_3 := by decide +kernel
def ch_cX11_countByTallies_0 : List UInt8 := [3, 60, 27, 42, 180, 0, 231, 162, 0, 32, 42, 182, 0, 234, 61, 42, 4, 28, 182, 0, 238, 42, 28, 182, 0, 242, 42, 180, 0, 81, 28, 3, 84, 132, 1]
set_option maxRecDepth 20000 in
theorem kc_cX11_countByTallies_0 : (cX11_countByTallies.data.toList.drop 0).take 35 = ch_cX11_countByTallies_0 := by decide +kernel
def ch_cX11_countByTallies_1 : List UInt8 := [84, 132, 1, 1, 167, 255, 222, 177]
set_option maxRecDepth 20000 in
theorem kc_cX11_countByTallies_1 : (cX11_countByTallies.data.toList.drop 32).take 35 = ch_cX11_countByTallies_1 := by decide +kernel
def ch_cX11_countDivisors_0 : List UInt8 := [42, 182, 0, 246, 3, 61, 28, 16, 10, 162, 0, 16, 42, 180, 0, 114, 28, 3, 79, 132, 2, 1, 167, 255, 240, 3, 61, 28, 42, 180, 0, 231, 162, 0, 115]
set_option maxRecDepth 20000 in
theorem kc_cX11_countDivisors_0 : (cX11_countDivisors.data.toList.drop 0).take 35 = ch_cX11_countDivisors_0 := by decide +kernel
def ch_cX11_countDivisors_1 : List UInt8 := [162, 0, 115, 16, 247, 62, 3, 54, 4, 21, 4, 42, 180, 0, 137, 162, 0, 73, 42, 180, 0, 13, 21, 4, 46, 54, 5, 29, 16, 247, 159, 0, 45, 42, 180]
set_option maxRecDepth 20000 in
theorem kc_cX11_countDivisors_1 : (cX11_countDivisors.data.toList.drop 32).take 35 = ch_cX11_countDivisors_1 := by decide +kernel
def ch_cX11_countDivisors_2 : List UInt8 := [45, 42, 180, 0, 87, 21, 5, 47, 4, 27, 42, 180, 0, 114, 21, 5, 46, 104, 96, 133, 42, 180, 0, 87, 29, 47, 4, 27, 42, 180, 0, 114, 29, 46, 104]
set_option maxRecDepth 20000 in
theorem kc_cX11_countDivisors_2 : (cX11_countDivisors.data.toList.drop 64).take 35 = ch_cX11_countDivisors_2 := by decide +kernel
def ch_cX11_countDivisors_3 : List UInt8 := [29, 46, 104, 96, 133, 184, 0, 227, 153, 0, 8, 21, 5, 167, 0, 4, 29, 62, 132, 4, 1, 167, 255, 180, 42, 4, 29, 182, 0, 238, 42, 29, 182, 0, 242]
set_option maxRecDepth 20000 in
theorem kc_cX11_countDivisors_3 : (cX11_countDivisors.data.toList.drop 96).take 35 = ch_cX11_countDivisors_3 := by decide +kernel
def ch_cX11_countDivisors_4 : List UInt8 := [182, 0, 242, 42, 180, 0, 114, 29, 92, 46, 4, 96, 79, 132, 2, 1, 167, 255, 139, 177]
set_option maxRecDepth 20000 in
theorem kc_cX11_countDivisors_4 : (cX11_countDivisors.data.toList.drop 128).take 35 = ch_cX11_countDivisors_4 := by decide +kernel
def ch_cX11_countRunOff_0 : List UInt8 := [3, 60, 42, 182, 0, 249, 4, 164, 0, 38, 42, 182, 0, 246, 42, 182, 0, 252, 61, 42, 5, 28, 182, 0, 238, 42, 180, 0, 81, 28, 3, 84, 42, 180, 0]
set_option maxRecDepth 20000 in
theorem kc_cX11_countRunOff_0 : (cX11_countRunOff.data.toList.drop 0).take 35 = ch_cX11_countRunOff_0 := by decide +kernel
def ch_cX11_countRunOff_1 : List UInt8 := [42, 180, 0, 117, 27, 28, 79, 132, 1, 1, 167, 255, 216, 42, 182, 0, 246, 42, 182, 0, 234, 61, 42, 4, 28, 182, 0, 238, 42, 28, 182, 0, 242, 27, 4]
set_option maxRecDepth 20000 in
theorem kc_cX11_countRunOff_1 : (cX11_countRunOff.data.toList.drop 32).take 35 = ch_cX11_countRunOff_1 := by decide +kernel
def ch_cX11_countRunOff_2 : List UInt8 := [242, 27, 4, 100, 62, 29, 155, 0, 30, 42, 180, 0, 211, 42, 180, 0, 231, 162, 0, 19, 42, 42, 180, 0, 117, 29, 46, 182, 0, 242, 132, 3, 255, 167, 255]
set_option maxRecDepth 20000 in
theorem kc_cX11_countRunOff_2 : (cX11_countRunOff.data.toList.drop 64).take 35 = ch_cX11_countRunOff_2 := by decide +kernel
def ch_cX11_countRunOff_3 : List UInt8 := [255, 167, 255, 228, 177]
set_option maxRecDepth 20000 in
theorem kc_cX11_countRunOff_3 : (cX11_countRunOff.data.toList.drop 96).take 35 = ch_cX11_countRunOff_3 := by decide +kernel
def ch_cX11_countTransfer_0 : List UInt8 := [42, 42, 180, 0, 201, 182, 0, 172, 42, 180, 0, 231, 4, 96, 108, 133, 10, 97, 64, 42, 180, 0, 211, 42, 180, 0, 231, 162, 0, 125, 42, 182, 0, 249, 158]
set_option maxRecDepth 20000 in
theorem kc_cX11_countTransfer_0 : (cX11_countTransfer.data.toList.drop 0).take 35 = ch_cX11_countTransfer_0 := by decide +kernel
def ch_cX11_countTransfer_1 : List UInt8 := [0, 249, 158, 0, 118, 42, 180, 0, 195, 154, 0, 111, 42, 182, 0, 246, 42, 180, 0, 195, 154, 255, 223, 42, 182, 0, 234, 62, 42, 182, 0, 249, 42, 180, 0]
set_option maxRecDepth 20000 in
theorem kc_cX11_countTransfer_1 : (cX11_countTransfer.data.toList.drop 32).take 35 = ch_cX11_countTransfer_1 := by decide +kernel
def ch_cX11_countTransfer_2 : List UInt8 := [42, 180, 0, 231, 42, 180, 0, 211, 100, 163, 0, 7, 4, 167, 0, 4, 3, 54, 4, 21, 4, 154, 0, 21, 42, 180, 0, 87, 29, 47, 31, 42, 180, 0, 90]
set_option maxRecDepth 20000 in
theorem kc_cX11_countTransfer_2 : (cX11_countTransfer.data.toList.drop 64).take 35 = ch_cX11_countTransfer_2 := by decide +kernel
def ch_cX11_countTransfer_3 : List UInt8 := [180, 0, 90, 29, 47, 105, 148, 155, 0, 28, 21, 4, 154, 0, 9, 42, 29, 31, 182, 1, 11, 42, 4, 29, 182, 0, 238, 42, 29, 182, 0, 242, 167, 0, 14]
set_option maxRecDepth 20000 in
theorem kc_cX11_countTransfer_3 : (cX11_countTransfer.data.toList.drop 96).take 35 = ch_cX11_countTransfer_3 := by decide +kernel
def ch_cX11_countTransfer_4 : List UInt8 := [167, 0, 14, 42, 182, 0, 252, 62, 42, 5, 29, 182, 0, 238, 42, 180, 0, 81, 29, 3, 84, 167, 255, 126, 177]
set_option maxRecDepth 20000 in
theorem kc_cX11_countTransfer_4 : (cX11_countTransfer.data.toList.drop 128).take 35 = ch_cX11_countTransfer_4 := by decide +kernel
def ch_cX11_countWays_0 : List UInt8 := [42, 182, 1, 2, 3, 60, 27, 42, 180, 0, 231, 162, 0, 81, 42, 182, 1, 5, 3, 61, 42, 180, 0, 81, 42, 180, 0, 13, 28, 46, 51, 153, 0, 16, 42]
set_option maxRecDepth 20000 in
theorem kc_cX11_countWays_0 : (cX11_countWays.data.toList.drop 0).take 35 = ch_cX11_countWays_0 := by decide +kernel
def ch_cX11_countWays_1 : List UInt8 := [0, 16, 42, 42, 180, 0, 13, 28, 46, 182, 1, 8, 153, 0, 9, 132, 2, 1, 167, 255, 226, 42, 4, 42, 180, 0, 13, 28, 46, 182, 0, 238, 42, 42, 180]
set_option maxRecDepth 20000 in
theorem kc_cX11_countWays_1 : (cX11_countWays.data.toList.drop 32).take 35 = ch_cX11_countWays_1 := by decide +kernel
def ch_cX11_countWays_2 : List UInt8 := [42, 42, 180, 0, 13, 28, 46, 182, 0, 242, 42, 180, 0, 81, 42, 180, 0, 13, 28, 46, 3, 84, 132, 1, 1, 167, 255, 173, 177]
set_option maxRecDepth 20000 in
theorem kc_cX11_countWays_2 : (cX11_countWays.data.toList.drop 64).take 35 = ch_cX11_countWays_2 := by decide +kernel
def ch_cX11_digest_0 : List UInt8 := [20, 1, 56, 64, 3, 62, 29, 42, 180, 0, 137, 162, 0, 23, 20, 1, 58, 31, 105, 42, 180, 0, 13, 29, 46, 133, 97, 64, 132, 3, 1, 167, 255, 231, 3]
set_option maxRecDepth 20000 in
theorem kc_cX11_digest_0 : (cX11_digest.data.toList.drop 0).take 35 = ch_cX11_digest_0 := by decide +kernel
def ch_cX11_digest_1 : List UInt8 := [255, 231, 3, 62, 29, 42, 180, 0, 144, 162, 0, 108, 20, 1, 58, 20, 1, 58, 20, 1, 58, 31, 105, 42, 180, 0, 16, 29, 46, 133, 97, 105, 42, 180, 0]
set_option maxRecDepth 20000 in
theorem kc_cX11_digest_1 : (cX11_digest.data.toList.drop 32).take 35 = ch_cX11_digest_1 := by decide +kernel
def ch_cX11_digest_2 : List UInt8 := [42, 180, 0, 19, 29, 46, 133, 97, 105, 42, 180, 0, 22, 29, 46, 133, 97, 64, 42, 180, 0, 16, 29, 46, 6, 160, 0, 10, 42, 180, 0, 137, 167, 0, 9]
set_option maxRecDepth 20000 in
theorem kc_cX11_digest_2 : (cX11_digest.data.toList.drop 64).take 35 = ch_cX11_digest_2 := by decide +kernel
def ch_cX11_digest_3 : List UInt8 := [167, 0, 9, 42, 180, 0, 22, 29, 46, 54, 4, 3, 54, 5, 21, 5, 21, 4, 162, 0, 29, 20, 1, 58, 31, 105, 42, 180, 0, 25, 16, 10, 29, 104, 21]
set_option maxRecDepth 20000 in
theorem kc_cX11_digest_3 : (cX11_digest.data.toList.drop 96).take 35 = ch_cX11_digest_3 := by decide +kernel
def ch_cX11_digest_4 : List UInt8 := [29, 104, 21, 5, 96, 46, 133, 97, 64, 132, 5, 1, 167, 255, 226, 132, 3, 1, 167, 255, 146, 3, 62, 29, 42, 180, 0, 163, 162, 0, 49, 3, 54, 4, 21]
set_option maxRecDepth 20000 in
theorem kc_cX11_digest_4 : (cX11_digest.data.toList.drop 128).take 35 = ch_cX11_digest_4 := by decide +kernel
def ch_cX11_digest_5 : List UInt8 := [54, 4, 21, 4, 42, 180, 0, 31, 29, 46, 162, 0, 29, 20, 1, 58, 31, 105, 42, 180, 0, 34, 16, 40, 29, 104, 21, 4, 96, 46, 133, 97, 64, 132, 4]
set_option maxRecDepth 20000 in
theorem kc_cX11_digest_5 : (cX11_digest.data.toList.drop 160).take 35 = ch_cX11_digest_5 := by decide +kernel
def ch_cX11_digest_6 : List UInt8 := [64, 132, 4, 1, 167, 255, 222, 132, 3, 1, 167, 255, 205, 3, 62, 29, 42, 180, 0, 175, 162, 0, 39, 3, 54, 4, 21, 4, 7, 162, 0, 24, 20, 1, 58]
set_option maxRecDepth 20000 in
theorem kc_cX11_digest_6 : (cX11_digest.data.toList.drop 192).take 35 = ch_cX11_digest_6 := by decide +kernel
def ch_cX11_digest_7 : List UInt8 := [20, 1, 58, 31, 105, 42, 29, 21, 4, 182, 1, 60, 133, 97, 64, 132, 4, 1, 167, 255, 232, 132, 3, 1, 167, 255, 215, 31, 173]
set_option maxRecDepth 20000 in
theorem kc_cX11_digest_7 : (cX11_digest.data.toList.drop 224).take 35 = ch_cX11_digest_7 := by decide +kernel
def ch_cX11_draw_0 : List UInt8 := [42, 27, 182, 0, 140, 153, 0, 11, 42, 28, 182, 0, 140, 154, 0, 5, 2, 172, 42, 180, 0, 13, 27, 46, 62, 42, 180, 0, 13, 27, 42, 180, 0, 13, 28]
set_option maxRecDepth 20000 in
theorem kc_cX11_draw_0 : (cX11_draw.data.toList.drop 0).take 35 = ch_cX11_draw_0 := by decide +kernel
def ch_cX11_draw_1 : List UInt8 := [0, 13, 28, 46, 79, 42, 180, 0, 13, 28, 29, 79, 4, 172]
set_option maxRecDepth 20000 in
theorem kc_cX11_draw_1 : (cX11_draw.data.toList.drop 32).take 35 = ch_cX11_draw_1 := by decide +kernel
def ch_cX11_drawn_0 : List UInt8 := [42, 27, 182, 0, 140, 153, 0, 12, 42, 180, 0, 13, 27, 46, 167, 0, 4, 2, 172]
set_option maxRecDepth 20000 in
theorem kc_cX11_drawn_0 : (cX11_drawn.data.toList.drop 0).take 35 = ch_cX11_drawn_0 := by decide +kernel
def ch_cX11_find_0 : List UInt8 := [27, 3, 16, 7, 184, 0, 133, 154, 0, 5, 2, 172, 3, 61, 28, 42, 180, 0, 175, 162, 0, 33, 42, 180, 0, 61, 28, 42, 180, 0, 46, 28, 46, 27, 122]
set_option maxRecDepth 20000 in
theorem kc_cX11_find_0 : (cX11_find.data.toList.drop 0).take 35 = ch_cX11_find_0 := by decide +kernel
def ch_cX11_find_1 : List UInt8 := [46, 27, 122, 4, 126, 154, 0, 7, 4, 167, 0, 4, 3, 84, 132, 2, 1, 167, 255, 221, 4, 61, 28, 153, 0, 100, 16, 247, 62, 3, 54, 4, 21, 4, 42]
set_option maxRecDepth 20000 in
theorem kc_cX11_find_1 : (cX11_find.data.toList.drop 32).take 35 = ch_cX11_find_1 := by decide +kernel
def ch_cX11_find_2 : List UInt8 := [21, 4, 42, 180, 0, 175, 162, 0, 48, 42, 180, 0, 61, 21, 4, 51, 154, 0, 30, 29, 16, 247, 159, 0, 19, 42, 180, 0, 43, 21, 4, 46, 42, 180, 0]
set_option maxRecDepth 20000 in
theorem kc_cX11_find_2 : (cX11_find.data.toList.drop 64).take 35 = ch_cX11_find_2 := by decide +kernel
def ch_cX11_find_3 : List UInt8 := [42, 180, 0, 43, 29, 46, 164, 0, 8, 21, 4, 167, 0, 4, 29, 62, 132, 4, 1, 167, 255, 205, 29, 16, 247, 159, 0, 7, 4, 167, 0, 4, 3, 61, 28]
set_option maxRecDepth 20000 in
theorem kc_cX11_find_3 : (cX11_find.data.toList.drop 96).take 35 = ch_cX11_find_3 := by decide +kernel
def ch_cX11_find_4 : List UInt8 := [3, 61, 28, 153, 0, 21, 42, 180, 0, 61, 29, 4, 84, 42, 29, 182, 0, 181, 4, 160, 0, 5, 29, 172, 167, 255, 158, 16, 247, 172]
set_option maxRecDepth 20000 in
theorem kc_cX11_find_4 : (cX11_find.data.toList.drop 128).take 35 = ch_cX11_find_4 := by decide +kernel
def ch_cX11_finding_0 : List UInt8 := [42, 180, 0, 130, 172]
set_option maxRecDepth 20000 in
theorem kc_cX11_finding_0 : (cX11_finding.data.toList.drop 0).take 35 = ch_cX11_finding_0 := by decide +kernel
def ch_cX11_findings_0 : List UInt8 := [27, 4, 16, 6, 184, 0, 133, 153, 0, 12, 42, 180, 0, 7, 27, 46, 167, 0, 4, 2, 172]
set_option maxRecDepth 20000 in
theorem kc_cX11_findings_0 : (cX11_findings.data.toList.drop 0).take 35 = ch_cX11_findings_0 := by decide +kernel
def ch_cX11_firstOn_0 : List UInt8 := [3, 61, 28, 42, 180, 0, 22, 27, 46, 162, 0, 40, 42, 180, 0, 81, 42, 180, 0, 25, 16, 10, 27, 104, 28, 96, 46, 51, 153, 0, 15, 42, 180, 0, 25]
set_option maxRecDepth 20000 in
theorem kc_cX11_firstOn_0 : (cX11_firstOn.data.toList.drop 0).take 35 = ch_cX11_firstOn_0 := by decide +kernel
def ch_cX11_firstOn_1 : List UInt8 := [180, 0, 25, 16, 10, 27, 104, 28, 96, 46, 172, 132, 2, 1, 167, 255, 212, 16, 247, 172]
set_option maxRecDepth 20000 in
theorem kc_cX11_firstOn_1 : (cX11_firstOn.data.toList.drop 32).take 35 = ch_cX11_firstOn_1 := by decide +kernel
def ch_cX11_fraction_0 : List UInt8 := [31, 33, 184, 0, 184, 55, 5, 42, 31, 22, 5, 109, 181, 0, 188, 42, 33, 22, 5, 109, 181, 0, 192, 42, 42, 180, 0, 195, 154, 0, 25, 42, 180, 0, 188]
set_option maxRecDepth 20000 in
theorem kc_cX11_fraction_0 : (cX11_fraction.data.toList.drop 0).take 35 = ch_cX11_fraction_0 := by decide +kernel
def ch_cX11_fraction_1 : List UInt8 := [180, 0, 188, 20, 0, 199, 148, 157, 0, 14, 42, 180, 0, 192, 20, 0, 199, 148, 158, 0, 7, 4, 167, 0, 4, 3, 181, 0, 195, 177]
set_option maxRecDepth 20000 in
theorem kc_cX11_fraction_1 : (cX11_fraction.data.toList.drop 32).take 35 = ch_cX11_fraction_1 := by decide +kernel
def ch_cX11_gcd_0 : List UInt8 := [30, 9, 148, 156, 0, 8, 30, 117, 167, 0, 4, 30, 55, 4, 32, 55, 6, 22, 6, 9, 148, 153, 0, 21, 22, 4, 22, 6, 113, 55, 8, 22, 6, 55, 4]
set_option maxRecDepth 20000 in
theorem kc_cX11_gcd_0 : (cX11_gcd.data.toList.drop 0).take 35 = ch_cX11_gcd_0 := by decide +kernel
def ch_cX11_gcd_1 : List UInt8 := [6, 55, 4, 22, 8, 55, 6, 167, 255, 234, 22, 4, 173]
set_option maxRecDepth 20000 in
theorem kc_cX11_gcd_1 : (cX11_gcd.data.toList.drop 32).take 35 = ch_cX11_gcd_1 := by decide +kernel
def ch_cX11_gives_0 : List UInt8 := [42, 180, 0, 65, 42, 180, 0, 211, 27, 79, 42, 89, 180, 0, 211, 4, 96, 181, 0, 211, 177]
set_option maxRecDepth 20000 in
theorem kc_cX11_gives_0 : (cX11_gives.data.toList.drop 0).take 35 = ch_cX11_gives_0 := by decide +kernel
def ch_cX11_greatest_0 : List UInt8 := [16, 247, 60, 3, 61, 28, 42, 180, 0, 137, 162, 0, 67, 42, 180, 0, 13, 28, 46, 62, 42, 180, 0, 81, 29, 51, 153, 0, 43, 27, 16, 247, 159, 0, 33]
set_option maxRecDepth 20000 in
theorem kc_cX11_greatest_0 : (cX11_greatest.data.toList.drop 0).take 35 = ch_cX11_greatest_0 := by decide +kernel
def ch_cX11_greatest_1 : List UInt8 := [159, 0, 33, 42, 180, 0, 87, 29, 47, 42, 180, 0, 90, 29, 47, 42, 180, 0, 87, 27, 47, 42, 180, 0, 90, 27, 47, 184, 0, 227, 153, 0, 7, 29, 167]
set_option maxRecDepth 20000 in
theorem kc_cX11_greatest_1 : (cX11_greatest.data.toList.drop 32).take 35 = ch_cX11_greatest_1 := by decide +kernel
def ch_cX11_greatest_2 : List UInt8 := [7, 29, 167, 0, 4, 27, 60, 132, 2, 1, 167, 255, 187, 27, 172]
set_option maxRecDepth 20000 in
theorem kc_cX11_greatest_2 : (cX11_greatest.data.toList.drop 64).take 35 = ch_cX11_greatest_2 := by decide +kernel
def ch_cX11_happens_0 : List UInt8 := [42, 180, 0, 68, 42, 180, 0, 208, 27, 79, 42, 180, 0, 71, 42, 180, 0, 208, 28, 79, 3, 62, 29, 16, 10, 162, 0, 49, 42, 180, 0, 74, 16, 10, 42]
set_option maxRecDepth 20000 in
theorem kc_cX11_happens_0 : (cX11_happens.data.toList.drop 0).take 35 = ch_cX11_happens_0 := by decide +kernel
def ch_cX11_happens_1 : List UInt8 := [16, 10, 42, 180, 0, 208, 104, 29, 96, 42, 180, 0, 87, 29, 47, 80, 42, 180, 0, 78, 16, 10, 42, 180, 0, 208, 104, 29, 96, 42, 180, 0, 90, 29, 47]
set_option maxRecDepth 20000 in
theorem kc_cX11_happens_1 : (cX11_happens.data.toList.drop 32).take 35 = ch_cX11_happens_1 := by decide +kernel
def ch_cX11_happens_2 : List UInt8 := [90, 29, 47, 80, 132, 3, 1, 167, 255, 207, 42, 89, 180, 0, 208, 4, 96, 181, 0, 208, 177]
set_option maxRecDepth 20000 in
theorem kc_cX11_happens_2 : (cX11_happens.data.toList.drop 64).take 35 = ch_cX11_happens_2 := by decide +kernel
def ch_cX11_in_0 : List UInt8 := [26, 27, 161, 0, 12, 26, 28, 163, 0, 7, 4, 167, 0, 4, 3, 172]
set_option maxRecDepth 20000 in
theorem kc_cX11_in_0 : (cX11_in.data.toList.drop 0).take 35 = ch_cX11_in_0 := by decide +kernel
def ch_cX11_inMany_0 : List UInt8 := [3, 60, 3, 61, 28, 42, 180, 0, 137, 162, 0, 26, 27, 42, 180, 0, 81, 28, 51, 153, 0, 7, 4, 167, 0, 4, 3, 96, 60, 132, 2, 1, 167, 255, 228]
set_option maxRecDepth 20000 in
theorem kc_cX11_inMany_0 : (cX11_inMany.data.toList.drop 0).take 35 = ch_cX11_inMany_0 := by decide +kernel
def ch_cX11_inMany_1 : List UInt8 := [167, 255, 228, 27, 172]
set_option maxRecDepth 20000 in
theorem kc_cX11_inMany_1 : (cX11_inMany.data.toList.drop 32).take 35 = ch_cX11_inMany_1 := by decide +kernel
def ch_cX11_init_0 : List UInt8 := [42, 183, 0, 1, 42, 16, 7, 188, 10, 181, 0, 7, 42, 16, 10, 188, 10, 181, 0, 13, 42, 16, 60, 188, 10, 181, 0, 16, 42, 16, 60, 188, 10, 181, 0]
set_option maxRecDepth 20000 in
theorem kc_cX11_init_0 : (cX11_init.data.toList.drop 0).take 35 = ch_cX11_init_0 := by decide +kernel
def ch_cX11_init_1 : List UInt8 := [10, 181, 0, 19, 42, 16, 60, 188, 10, 181, 0, 22, 42, 17, 2, 88, 188, 10, 181, 0, 25, 42, 16, 8, 188, 10, 181, 0, 28, 42, 16, 8, 188, 10, 181]
set_option maxRecDepth 20000 in
theorem kc_cX11_init_1 : (cX11_init.data.toList.drop 32).take 35 = ch_cX11_init_1 := by decide +kernel
def ch_cX11_init_2 : List UInt8 := [188, 10, 181, 0, 31, 42, 17, 1, 64, 188, 10, 181, 0, 34, 42, 16, 40, 188, 10, 181, 0, 37, 42, 16, 20, 188, 10, 181, 0, 40, 42, 16, 20, 188, 10]
set_option maxRecDepth 20000 in
theorem kc_cX11_init_2 : (cX11_init.data.toList.drop 64).take 35 = ch_cX11_init_2 := by decide +kernel
def ch_cX11_init_3 : List UInt8 := [20, 188, 10, 181, 0, 43, 42, 16, 20, 188, 10, 181, 0, 46, 42, 16, 20, 188, 10, 181, 0, 49, 42, 16, 20, 188, 10, 181, 0, 52, 42, 16, 20, 188, 10]
set_option maxRecDepth 20000 in
theorem kc_cX11_init_3 : (cX11_init.data.toList.drop 96).take 35 = ch_cX11_init_3 := by decide +kernel
def ch_cX11_init_4 : List UInt8 := [20, 188, 10, 181, 0, 55, 42, 16, 20, 188, 10, 181, 0, 58, 42, 16, 20, 188, 4, 181, 0, 61, 42, 16, 30, 188, 10, 181, 0, 65, 42, 16, 40, 188, 10]
set_option maxRecDepth 20000 in
theorem kc_cX11_init_4 : (cX11_init.data.toList.drop 128).take 35 = ch_cX11_init_4 := by decide +kernel
def ch_cX11_init_5 : List UInt8 := [40, 188, 10, 181, 0, 68, 42, 16, 40, 188, 10, 181, 0, 71, 42, 17, 1, 144, 188, 11, 181, 0, 74, 42, 17, 1, 144, 188, 11, 181, 0, 78, 42, 16, 10]
set_option maxRecDepth 20000 in
theorem kc_cX11_init_5 : (cX11_init.data.toList.drop 160).take 35 = ch_cX11_init_5 := by decide +kernel
def ch_cX11_init_6 : List UInt8 := [42, 16, 10, 188, 4, 181, 0, 81, 42, 16, 10, 188, 4, 181, 0, 84, 42, 16, 10, 188, 11, 181, 0, 87, 42, 16, 10, 188, 11, 181, 0, 90, 42, 16, 40]
set_option maxRecDepth 20000 in
theorem kc_cX11_init_6 : (cX11_init.data.toList.drop 192).take 35 = ch_cX11_init_6 := by decide +kernel
def ch_cX11_init_7 : List UInt8 := [42, 16, 40, 188, 11, 181, 0, 93, 42, 16, 40, 188, 11, 181, 0, 96, 42, 16, 30, 188, 10, 181, 0, 99, 42, 16, 40, 188, 10, 181, 0, 102, 42, 16, 40]
set_option maxRecDepth 20000 in
theorem kc_cX11_init_7 : (cX11_init.data.toList.drop 224).take 35 = ch_cX11_init_7 := by decide +kernel
def ch_cX11_init_8 : List UInt8 := [42, 16, 40, 188, 10, 181, 0, 105, 42, 17, 1, 144, 188, 11, 181, 0, 108, 42, 17, 1, 144, 188, 11, 181, 0, 111, 42, 16, 10, 188, 10, 181, 0, 114, 42]
set_option maxRecDepth 20000 in
theorem kc_cX11_init_8 : (cX11_init.data.toList.drop 256).take 35 = ch_cX11_init_8 := by decide +kernel
def ch_cX11_init_9 : List UInt8 := [0, 114, 42, 16, 10, 188, 10, 181, 0, 117, 42, 16, 100, 188, 11, 181, 0, 120, 42, 16, 100, 188, 11, 181, 0, 123, 42, 16, 247, 181, 0, 126, 177]
set_option maxRecDepth 20000 in
theorem kc_cX11_init_9 : (cX11_init.data.toList.drop 288).take 35 = ch_cX11_init_9 := by decide +kernel
def ch_cX11_init_10 : List UInt8 := [177]
set_option maxRecDepth 20000 in
theorem kc_cX11_init_10 : (cX11_init.data.toList.drop 320).take 35 = ch_cX11_init_10 := by decide +kernel
def ch_cX11_is_0 : List UInt8 := [42, 27, 182, 0, 148, 153, 0, 12, 28, 3, 6, 184, 0, 133, 154, 0, 7, 2, 167, 0, 21, 42, 180, 0, 16, 27, 46, 28, 184, 0, 151, 153, 0, 7, 4]
set_option maxRecDepth 20000 in
theorem kc_cX11_is_0 : (cX11_is.data.toList.drop 0).take 35 = ch_cX11_is_0 := by decide +kernel
def ch_cX11_is_1 : List UInt8 := [0, 7, 4, 167, 0, 4, 3, 172]
set_option maxRecDepth 20000 in
theorem kc_cX11_is_1 : (cX11_is.data.toList.drop 32).take 35 = ch_cX11_is_1 := by decide +kernel
def ch_cX11_isAheadOn_0 : List UInt8 := [42, 27, 28, 182, 0, 159, 54, 4, 42, 27, 29, 182, 0, 159, 54, 5, 21, 4, 16, 247, 159, 0, 21, 21, 5, 16, 247, 159, 0, 10, 21, 4, 21, 5, 162]
set_option maxRecDepth 20000 in
theorem kc_cX11_isAheadOn_0 : (cX11_isAheadOn.data.toList.drop 0).take 35 = ch_cX11_isAheadOn_0 := by decide +kernel
def ch_cX11_isAheadOn_1 : List UInt8 := [21, 5, 162, 0, 7, 4, 167, 0, 4, 3, 172]
set_option maxRecDepth 20000 in
theorem kc_cX11_isAheadOn_1 : (cX11_isAheadOn.data.toList.drop 32).take 35 = ch_cX11_isAheadOn_1 := by decide +kernel
def ch_cX11_isBallot_0 : List UInt8 := [27, 3, 42, 180, 0, 144, 4, 100, 184, 0, 133, 172]
set_option maxRecDepth 20000 in
theorem kc_cX11_isBallot_0 : (cX11_isBallot.data.toList.drop 0).take 35 = ch_cX11_isBallot_0 := by decide +kernel
def ch_cX11_isBeaten_0 : List UInt8 := [3, 61, 3, 62, 29, 42, 180, 0, 137, 162, 0, 59, 28, 154, 0, 43, 29, 27, 159, 0, 42, 42, 180, 0, 81, 29, 51, 153, 0, 33, 42, 180, 0, 123, 16]
set_option maxRecDepth 20000 in
theorem kc_cX11_isBeaten_0 : (cX11_isBeaten.data.toList.drop 0).take 35 = ch_cX11_isBeaten_0 := by decide +kernel
def ch_cX11_isBeaten_1 : List UInt8 := [0, 123, 16, 10, 29, 104, 27, 96, 47, 42, 180, 0, 123, 16, 10, 27, 104, 29, 96, 47, 148, 158, 0, 7, 4, 167, 0, 4, 3, 61, 132, 3, 1, 167, 255]
set_option maxRecDepth 20000 in
theorem kc_cX11_isBeaten_1 : (cX11_isBeaten.data.toList.drop 32).take 35 = ch_cX11_isBeaten_1 := by decide +kernel
def ch_cX11_isBeaten_2 : List UInt8 := [1, 167, 255, 195, 28, 172]
set_option maxRecDepth 20000 in
theorem kc_cX11_isBeaten_2 : (cX11_isBeaten.data.toList.drop 64).take 35 = ch_cX11_isBeaten_2 := by decide +kernel
def ch_cX11_isBox_0 : List UInt8 := [27, 3, 42, 180, 0, 163, 4, 100, 184, 0, 133, 172]
set_option maxRecDepth 20000 in
theorem kc_cX11_isBox_0 : (cX11_isBox.data.toList.drop 0).take 35 = ch_cX11_isBox_0 := by decide +kernel
def ch_cX11_isCandidate_0 : List UInt8 := [27, 3, 42, 180, 0, 137, 4, 100, 184, 0, 133, 172]
set_option maxRecDepth 20000 in
theorem kc_cX11_isCandidate_0 : (cX11_isCandidate.data.toList.drop 0).take 35 = ch_cX11_isCandidate_0 := by decide +kernel
def ch_cX11_isMethod_0 : List UInt8 := [27, 3, 42, 180, 0, 175, 4, 100, 184, 0, 133, 172]
set_option maxRecDepth 20000 in
theorem kc_cX11_isMethod_0 : (cX11_isMethod.data.toList.drop 0).take 35 = ch_cX11_isMethod_0 := by decide +kernel
def ch_cX11_isMore_0 : List UInt8 := [30, 22, 6, 105, 22, 4, 32, 105, 148, 158, 0, 7, 4, 167, 0, 4, 3, 172]
set_option maxRecDepth 20000 in
theorem kc_cX11_isMore_0 : (cX11_isMore.data.toList.drop 0).take 35 = ch_cX11_isMore_0 := by decide +kernel
def ch_cX11_isOf_0 : List UInt8 := [26, 27, 159, 0, 17, 27, 153, 0, 13, 27, 4, 160, 0, 12, 26, 5, 160, 0, 7, 4, 167, 0, 4, 3, 172]
set_option maxRecDepth 20000 in
theorem kc_cX11_isOf_0 : (cX11_isOf.data.toList.drop 0).take 35 = ch_cX11_isOf_0 := by decide +kernel
def ch_cX11_lacks_0 : List UInt8 := [28, 3, 42, 180, 0, 31, 27, 46, 4, 100, 184, 0, 133, 154, 0, 7, 5, 167, 0, 24, 42, 180, 0, 34, 16, 40, 27, 104, 28, 96, 46, 16, 247, 160, 0]
set_option maxRecDepth 20000 in
theorem kc_cX11_lacks_0 : (cX11_lacks.data.toList.drop 0).take 35 = ch_cX11_lacks_0 := by decide +kernel
def ch_cX11_lacks_1 : List UInt8 := [247, 160, 0, 7, 4, 167, 0, 4, 3, 172]
set_option maxRecDepth 20000 in
theorem kc_cX11_lacks_1 : (cX11_lacks.data.toList.drop 32).take 35 = ch_cX11_lacks_1 := by decide +kernel
def ch_cX11_layWays_0 : List UInt8 := [3, 60, 27, 42, 180, 0, 137, 162, 0, 109, 3, 61, 28, 42, 180, 0, 137, 162, 0, 93, 42, 180, 0, 120, 16, 10, 27, 104, 28, 96, 9, 80, 3, 62, 29]
set_option maxRecDepth 20000 in
theorem kc_cX11_layWays_0 : (cX11_layWays.data.toList.drop 0).take 35 = ch_cX11_layWays_0 := by decide +kernel
def ch_cX11_layWays_1 : List UInt8 := [3, 62, 29, 42, 180, 0, 31, 42, 180, 0, 201, 46, 162, 0, 60, 42, 29, 182, 0, 217, 54, 4, 42, 180, 0, 120, 16, 10, 27, 104, 28, 96, 92, 47, 21]
set_option maxRecDepth 20000 in
theorem kc_cX11_layWays_1 : (cX11_layWays.data.toList.drop 32).take 35 = ch_cX11_layWays_1 := by decide +kernel
def ch_cX11_layWays_2 : List UInt8 := [92, 47, 21, 4, 16, 247, 159, 0, 25, 42, 21, 4, 27, 28, 182, 0, 255, 153, 0, 14, 42, 180, 0, 19, 21, 4, 46, 133, 167, 0, 4, 9, 97, 80, 132]
set_option maxRecDepth 20000 in
theorem kc_cX11_layWays_2 : (cX11_layWays.data.toList.drop 64).take 35 = ch_cX11_layWays_2 := by decide +kernel
def ch_cX11_layWays_3 : List UInt8 := [97, 80, 132, 3, 1, 167, 255, 189, 132, 2, 1, 167, 255, 161, 132, 1, 1, 167, 255, 145, 3, 60, 27, 42, 180, 0, 137, 162, 0, 77, 3, 61, 28, 42, 180]
set_option maxRecDepth 20000 in
theorem kc_cX11_layWays_3 : (cX11_layWays.data.toList.drop 96).take 35 = ch_cX11_layWays_3 := by decide +kernel
def ch_cX11_layWays_4 : List UInt8 := [28, 42, 180, 0, 137, 162, 0, 61, 42, 180, 0, 123, 16, 10, 27, 104, 28, 96, 42, 180, 0, 120, 16, 10, 27, 104, 28, 96, 47, 42, 180, 0, 120, 16, 10]
set_option maxRecDepth 20000 in
theorem kc_cX11_layWays_4 : (cX11_layWays.data.toList.drop 128).take 35 = ch_cX11_layWays_4 := by decide +kernel
def ch_cX11_layWays_5 : List UInt8 := [120, 16, 10, 28, 104, 27, 96, 47, 148, 158, 0, 17, 42, 180, 0, 120, 16, 10, 27, 104, 28, 96, 47, 167, 0, 4, 9, 80, 132, 2, 1, 167, 255, 193, 132]
set_option maxRecDepth 20000 in
theorem kc_cX11_layWays_5 : (cX11_layWays.data.toList.drop 160).take 35 = ch_cX11_layWays_5 := by decide +kernel
def ch_cX11_layWays_6 : List UInt8 := [255, 193, 132, 1, 1, 167, 255, 177, 3, 60, 27, 42, 180, 0, 137, 162, 0, 143, 3, 61, 28, 42, 180, 0, 137, 162, 0, 127, 3, 62, 29, 42, 180, 0, 137]
set_option maxRecDepth 20000 in
theorem kc_cX11_layWays_6 : (cX11_layWays.data.toList.drop 192).take 35 = ch_cX11_layWays_6 := by decide +kernel
def ch_cX11_layWays_7 : List UInt8 := [180, 0, 137, 162, 0, 111, 42, 180, 0, 123, 16, 10, 28, 104, 27, 96, 47, 42, 180, 0, 123, 16, 10, 27, 104, 29, 96, 47, 148, 156, 0, 17, 42, 180, 0]
set_option maxRecDepth 20000 in
theorem kc_cX11_layWays_7 : (cX11_layWays.data.toList.drop 224).take 35 = ch_cX11_layWays_7 := by decide +kernel
def ch_cX11_layWays_8 : List UInt8 := [42, 180, 0, 123, 16, 10, 28, 104, 27, 96, 47, 167, 0, 14, 42, 180, 0, 123, 16, 10, 27, 104, 29, 96, 47, 55, 4, 42, 180, 0, 123, 16, 10, 28, 104]
set_option maxRecDepth 20000 in
theorem kc_cX11_layWays_8 : (cX11_layWays.data.toList.drop 256).take 35 = ch_cX11_layWays_8 := by decide +kernel
def ch_cX11_layWays_9 : List UInt8 := [10, 28, 104, 29, 96, 28, 29, 159, 0, 25, 22, 4, 42, 180, 0, 123, 16, 10, 28, 104, 29, 96, 47, 148, 158, 0, 8, 22, 4, 167, 0, 14, 42, 180, 0]
set_option maxRecDepth 20000 in
theorem kc_cX11_layWays_9 : (cX11_layWays.data.toList.drop 288).take 35 = ch_cX11_layWays_9 := by decide +kernel
def ch_cX11_layWays_10 : List UInt8 := [42, 180, 0, 123, 16, 10, 28, 104, 29, 96, 47, 80, 132, 3, 1, 167, 255, 143, 132, 2, 1, 167, 255, 127, 132, 1, 1, 167, 255, 111, 177]
set_option maxRecDepth 20000 in
theorem kc_cX11_layWays_10 : (cX11_layWays.data.toList.drop 320).take 35 = ch_cX11_layWays_10 := by decide +kernel
def ch_cX11_least_0 : List UInt8 := [16, 247, 60, 3, 61, 28, 42, 180, 0, 137, 162, 0, 67, 42, 180, 0, 13, 28, 46, 62, 42, 180, 0, 81, 29, 51, 153, 0, 43, 27, 16, 247, 159, 0, 33]
set_option maxRecDepth 20000 in
theorem kc_cX11_least_0 : (cX11_least.data.toList.drop 0).take 35 = ch_cX11_least_0 := by decide +kernel
def ch_cX11_least_1 : List UInt8 := [159, 0, 33, 42, 180, 0, 87, 29, 47, 42, 180, 0, 90, 29, 47, 42, 180, 0, 87, 27, 47, 42, 180, 0, 90, 27, 47, 184, 0, 227, 154, 0, 7, 29, 167]
set_option maxRecDepth 20000 in
theorem kc_cX11_least_1 : (cX11_least.data.toList.drop 32).take 35 = ch_cX11_least_1 := by decide +kernel
def ch_cX11_least_2 : List UInt8 := [7, 29, 167, 0, 4, 27, 60, 132, 2, 1, 167, 255, 187, 27, 172]
set_option maxRecDepth 20000 in
theorem kc_cX11_least_2 : (cX11_least.data.toList.drop 64).take 35 = ch_cX11_least_2 := by decide +kernel
def ch_cX11_lighten_0 : List UInt8 := [42, 42, 180, 0, 87, 27, 47, 32, 42, 180, 0, 90, 27, 47, 105, 101, 42, 180, 0, 90, 27, 47, 182, 0, 204, 42, 180, 0, 195, 154, 0, 29, 42, 42, 180]
set_option maxRecDepth 20000 in
theorem kc_cX11_lighten_0 : (cX11_lighten.data.toList.drop 0).take 35 = ch_cX11_lighten_0 := by decide +kernel
def ch_cX11_lighten_1 : List UInt8 := [42, 42, 180, 0, 188, 42, 180, 0, 90, 27, 47, 105, 42, 180, 0, 192, 42, 180, 0, 87, 27, 47, 105, 182, 0, 204, 42, 180, 0, 188, 55, 4, 42, 180, 0]
set_option maxRecDepth 20000 in
theorem kc_cX11_lighten_1 : (cX11_lighten.data.toList.drop 32).take 35 = ch_cX11_lighten_1 := by decide +kernel
def ch_cX11_lighten_2 : List UInt8 := [42, 180, 0, 192, 55, 6, 3, 54, 8, 21, 8, 42, 180, 0, 31, 42, 180, 0, 201, 46, 162, 0, 87, 42, 180, 0, 195, 154, 0, 80, 42, 21, 8, 182, 0]
set_option maxRecDepth 20000 in
theorem kc_cX11_lighten_2 : (cX11_lighten.data.toList.drop 64).take 35 = ch_cX11_lighten_2 := by decide +kernel
def ch_cX11_lighten_3 : List UInt8 := [8, 182, 0, 217, 54, 9, 21, 9, 16, 247, 159, 0, 59, 42, 21, 9, 182, 0, 220, 27, 160, 0, 49, 42, 42, 180, 0, 93, 21, 8, 47, 22, 4, 105, 42]
set_option maxRecDepth 20000 in
theorem kc_cX11_lighten_3 : (cX11_lighten.data.toList.drop 96).take 35 = ch_cX11_lighten_3 := by decide +kernel
def ch_cX11_lighten_4 : List UInt8 := [4, 105, 42, 180, 0, 96, 21, 8, 47, 22, 6, 105, 182, 0, 204, 42, 180, 0, 93, 21, 8, 42, 180, 0, 188, 80, 42, 180, 0, 96, 21, 8, 42, 180, 0]
set_option maxRecDepth 20000 in
theorem kc_cX11_lighten_4 : (cX11_lighten.data.toList.drop 128).take 35 = ch_cX11_lighten_4 := by decide +kernel
def ch_cX11_lighten_5 : List UInt8 := [42, 180, 0, 192, 80, 132, 8, 1, 167, 255, 161, 177]
set_option maxRecDepth 20000 in
theorem kc_cX11_lighten_5 : (cX11_lighten.data.toList.drop 160).take 35 = ch_cX11_lighten_5 := by decide +kernel
def ch_cX11_many_0 : List UInt8 := [27, 170, 0, 0, 0, 0, 0, 60, 0, 0, 0, 0, 0, 0, 0, 4, 0, 0, 0, 35, 0, 0, 0, 40, 0, 0, 0, 45, 0, 0, 0, 50, 0, 0, 0]
set_option maxRecDepth 20000 in
theorem kc_cX11_many_0 : (cX11_many.data.toList.drop 0).take 35 = ch_cX11_many_0 := by decide +kernel
def ch_cX11_many_1 : List UInt8 := [0, 0, 0, 55, 42, 180, 0, 137, 172, 42, 180, 0, 144, 172, 42, 180, 0, 163, 172, 42, 180, 0, 175, 172, 42, 180, 1, 34, 172, 2, 172]
set_option maxRecDepth 20000 in
theorem kc_cX11_many_1 : (cX11_many.data.toList.drop 32).take 35 = ch_cX11_many_1 := by decide +kernel
def ch_cX11_meets_0 : List UInt8 := [42, 27, 181, 0, 130, 42, 180, 0, 7, 27, 92, 46, 4, 96, 79, 16, 253, 172]
set_option maxRecDepth 20000 in
theorem kc_cX11_meets_0 : (cX11_meets.data.toList.drop 0).take 35 = ch_cX11_meets_0 := by decide +kernel
def ch_cX11_method_0 : List UInt8 := [27, 3, 16, 8, 184, 0, 133, 153, 0, 30, 29, 3, 17, 0, 255, 184, 0, 133, 153, 0, 19, 21, 4, 16, 247, 159, 0, 14, 42, 21, 4, 182, 0, 178, 154]
set_option maxRecDepth 20000 in
theorem kc_cX11_method_0 : (cX11_method.data.toList.drop 0).take 35 = ch_cX11_method_0 := by decide +kernel
def ch_cX11_method_1 : List UInt8 := [0, 178, 154, 0, 5, 2, 172, 42, 180, 0, 175, 16, 20, 160, 0, 6, 16, 254, 172, 42, 180, 0, 40, 42, 180, 0, 175, 27, 79, 42, 180, 0, 43, 42, 180]
set_option maxRecDepth 20000 in
theorem kc_cX11_method_1 : (cX11_method.data.toList.drop 32).take 35 = ch_cX11_method_1 := by decide +kernel
def ch_cX11_method_2 : List UInt8 := [43, 42, 180, 0, 175, 28, 79, 42, 180, 0, 46, 42, 180, 0, 175, 29, 79, 42, 180, 0, 49, 42, 180, 0, 175, 21, 4, 79, 42, 89, 180, 0, 175, 4, 96]
set_option maxRecDepth 20000 in
theorem kc_cX11_method_2 : (cX11_method.data.toList.drop 64).take 35 = ch_cX11_method_2 := by decide +kernel
def ch_cX11_method_3 : List UInt8 := [175, 4, 96, 181, 0, 175, 42, 180, 0, 175, 4, 100, 172]
set_option maxRecDepth 20000 in
theorem kc_cX11_method_3 : (cX11_method.data.toList.drop 96).take 35 = ch_cX11_method_3 := by decide +kernel
def ch_cX11_methodOf_0 : List UInt8 := [42, 27, 182, 0, 178, 153, 0, 12, 28, 3, 6, 184, 0, 133, 154, 0, 5, 2, 172, 28, 154, 0, 12, 42, 180, 0, 40, 27, 46, 167, 0, 37, 28, 4, 160]
set_option maxRecDepth 20000 in
theorem kc_cX11_methodOf_0 : (cX11_methodOf.data.toList.drop 0).take 35 = ch_cX11_methodOf_0 := by decide +kernel
def ch_cX11_methodOf_1 : List UInt8 := [28, 4, 160, 0, 12, 42, 180, 0, 52, 27, 46, 167, 0, 23, 28, 5, 160, 0, 12, 42, 180, 0, 55, 27, 46, 167, 0, 9, 42, 180, 0, 49, 27, 46, 172]
set_option maxRecDepth 20000 in
theorem kc_cX11_methodOf_1 : (cX11_methodOf.data.toList.drop 32).take 35 = ch_cX11_methodOf_1 := by decide +kernel
def ch_cX11_methodOf_2 : List UInt8 := [27, 46, 172]
set_option maxRecDepth 20000 in
theorem kc_cX11_methodOf_2 : (cX11_methodOf.data.toList.drop 64).take 35 = ch_cX11_methodOf_2 := by decide +kernel
def ch_cX11_noTallies_0 : List UInt8 := [3, 60, 27, 16, 10, 162, 0, 23, 42, 180, 0, 87, 27, 9, 80, 42, 180, 0, 90, 27, 10, 80, 132, 1, 1, 167, 255, 233, 177]
set_option maxRecDepth 20000 in
theorem kc_cX11_noTallies_0 : (cX11_noTallies.data.toList.drop 0).take 35 = ch_cX11_noTallies_0 := by decide +kernel
def ch_cX11_papersIn_0 : List UInt8 := [3, 61, 3, 62, 29, 42, 180, 0, 31, 27, 46, 162, 0, 48, 28, 42, 180, 0, 34, 16, 40, 27, 104, 29, 96, 46, 16, 247, 160, 0, 7, 3, 167, 0, 19]
set_option maxRecDepth 20000 in
theorem kc_cX11_papersIn_0 : (cX11_papersIn.data.toList.drop 0).take 35 = ch_cX11_papersIn_0 := by decide +kernel
def ch_cX11_papersIn_1 : List UInt8 := [167, 0, 19, 42, 180, 0, 19, 42, 180, 0, 34, 16, 40, 27, 104, 29, 96, 46, 46, 96, 61, 132, 3, 1, 167, 255, 204, 28, 172]
set_option maxRecDepth 20000 in
theorem kc_cX11_papersIn_1 : (cX11_papersIn.data.toList.drop 32).take 35 = ch_cX11_papersIn_1 := by decide +kernel
def ch_cX11_placeOn_0 : List UInt8 := [3, 62, 29, 42, 180, 0, 22, 27, 46, 162, 0, 26, 42, 180, 0, 25, 16, 10, 27, 104, 29, 96, 46, 28, 160, 0, 5, 29, 172, 132, 3, 1, 167, 255, 226]
set_option maxRecDepth 20000 in
theorem kc_cX11_placeOn_0 : (cX11_placeOn.data.toList.drop 0).take 35 = ch_cX11_placeOn_0 := by decide +kernel
def ch_cX11_placeOn_1 : List UInt8 := [167, 255, 226, 16, 247, 172]
set_option maxRecDepth 20000 in
theorem kc_cX11_placeOn_1 : (cX11_placeOn.data.toList.drop 32).take 35 = ch_cX11_placeOn_1 := by decide +kernel
def ch_cX11_pour_0 : List UInt8 := [42, 27, 182, 0, 166, 153, 0, 11, 42, 29, 182, 0, 166, 154, 0, 5, 2, 172, 42, 180, 0, 28, 27, 46, 42, 180, 0, 28, 29, 46, 159, 0, 10, 42, 16]
set_option maxRecDepth 20000 in
theorem kc_cX11_pour_0 : (cX11_pour.data.toList.drop 0).take 35 = ch_cX11_pour_0 := by decide +kernel
def ch_cX11_pour_1 : List UInt8 := [10, 42, 16, 6, 182, 0, 155, 172, 28, 155, 0, 48, 21, 4, 155, 0, 43, 21, 5, 155, 0, 38, 28, 133, 21, 5, 133, 97, 42, 180, 0, 31, 27, 46, 133]
set_option maxRecDepth 20000 in
theorem kc_cX11_pour_1 : (cX11_pour.data.toList.drop 32).take 35 = ch_cX11_pour_1 := by decide +kernel
def ch_cX11_pour_2 : List UInt8 := [27, 46, 133, 148, 157, 0, 21, 21, 4, 133, 21, 5, 133, 97, 42, 180, 0, 31, 29, 46, 133, 148, 158, 0, 9, 42, 5, 182, 0, 155, 172, 3, 54, 6, 21]
set_option maxRecDepth 20000 in
theorem kc_cX11_pour_2 : (cX11_pour.data.toList.drop 64).take 35 = ch_cX11_pour_2 := by decide +kernel
def ch_cX11_pour_3 : List UInt8 := [54, 6, 21, 6, 21, 5, 162, 0, 30, 42, 180, 0, 37, 21, 6, 42, 180, 0, 34, 16, 40, 27, 104, 28, 96, 21, 6, 96, 46, 79, 132, 6, 1, 167, 255]
set_option maxRecDepth 20000 in
theorem kc_cX11_pour_3 : (cX11_pour.data.toList.drop 96).take 35 = ch_cX11_pour_3 := by decide +kernel
def ch_cX11_pour_4 : List UInt8 := [1, 167, 255, 225, 3, 54, 6, 21, 6, 21, 5, 162, 0, 31, 42, 180, 0, 34, 16, 40, 29, 104, 21, 4, 96, 21, 6, 96, 42, 180, 0, 37, 21, 6, 46]
set_option maxRecDepth 20000 in
theorem kc_cX11_pour_4 : (cX11_pour.data.toList.drop 128).take 35 = ch_cX11_pour_4 := by decide +kernel
def ch_cX11_pour_5 : List UInt8 := [21, 6, 46, 79, 132, 6, 1, 167, 255, 224, 4, 172]
set_option maxRecDepth 20000 in
theorem kc_cX11_pour_5 : (cX11_pour.data.toList.drop 160).take 35 = ch_cX11_pour_5 := by decide +kernel
def ch_cX11_put_0 : List UInt8 := [42, 27, 182, 0, 166, 153, 0, 17, 29, 16, 247, 159, 0, 13, 42, 29, 182, 0, 148, 154, 0, 5, 2, 172, 28, 3, 42, 180, 0, 31, 27, 46, 4, 100, 184]
set_option maxRecDepth 20000 in
theorem kc_cX11_put_0 : (cX11_put.data.toList.drop 0).take 35 = ch_cX11_put_0 := by decide +kernel
def ch_cX11_put_1 : List UInt8 := [4, 100, 184, 0, 133, 154, 0, 9, 42, 5, 182, 0, 155, 172, 29, 16, 247, 159, 0, 28, 42, 180, 0, 16, 29, 46, 42, 180, 0, 28, 27, 46, 184, 0, 151]
set_option maxRecDepth 20000 in
theorem kc_cX11_put_1 : (cX11_put.data.toList.drop 32).take 35 = ch_cX11_put_1 := by decide +kernel
def ch_cX11_put_2 : List UInt8 := [184, 0, 151, 154, 0, 10, 42, 16, 6, 182, 0, 155, 172, 42, 180, 0, 34, 16, 40, 27, 104, 28, 96, 29, 79, 4, 172]
set_option maxRecDepth 20000 in
theorem kc_cX11_put_2 : (cX11_put.data.toList.drop 64).take 35 = ch_cX11_put_2 := by decide +kernel
def ch_cX11_rank_0 : List UInt8 := [42, 27, 182, 0, 148, 153, 0, 11, 42, 28, 182, 0, 140, 154, 0, 5, 2, 172, 42, 180, 0, 16, 27, 46, 4, 184, 0, 151, 154, 0, 9, 42, 6, 182, 0]
set_option maxRecDepth 20000 in
theorem kc_cX11_rank_0 : (cX11_rank.data.toList.drop 0).take 35 = ch_cX11_rank_0 := by decide +kernel
def ch_cX11_rank_1 : List UInt8 := [6, 182, 0, 155, 172, 42, 27, 28, 182, 0, 159, 16, 247, 160, 0, 23, 42, 180, 0, 16, 27, 46, 5, 160, 0, 16, 42, 180, 0, 22, 27, 46, 4, 160, 0]
set_option maxRecDepth 20000 in
theorem kc_cX11_rank_1 : (cX11_rank.data.toList.drop 32).take 35 = ch_cX11_rank_1 := by decide +kernel
def ch_cX11_rank_2 : List UInt8 := [4, 160, 0, 6, 16, 252, 172, 42, 180, 0, 25, 16, 10, 27, 104, 42, 180, 0, 22, 27, 46, 96, 28, 79, 42, 180, 0, 22, 27, 92, 46, 4, 96, 79, 42]
set_option maxRecDepth 20000 in
theorem kc_cX11_rank_2 : (cX11_rank.data.toList.drop 64).take 35 = ch_cX11_rank_2 := by decide +kernel
def ch_cX11_rank_3 : List UInt8 := [96, 79, 42, 180, 0, 22, 27, 46, 172]
set_option maxRecDepth 20000 in
theorem kc_cX11_rank_3 : (cX11_rank.data.toList.drop 96).take 35 = ch_cX11_rank_3 := by decide +kernel
def ch_cX11_round_0 : List UInt8 := [28, 3, 4, 184, 0, 133, 154, 0, 7, 2, 167, 0, 41, 27, 3, 42, 180, 1, 37, 4, 100, 184, 0, 133, 154, 0, 8, 16, 247, 167, 0, 22, 28, 154, 0]
set_option maxRecDepth 20000 in
theorem kc_cX11_round_0 : (cX11_round.data.toList.drop 0).take 35 = ch_cX11_round_0 := by decide +kernel
def ch_cX11_round_1 : List UInt8 := [28, 154, 0, 12, 42, 180, 0, 102, 27, 46, 167, 0, 9, 42, 180, 0, 105, 27, 46, 172]
set_option maxRecDepth 20000 in
theorem kc_cX11_round_1 : (cX11_round.data.toList.drop 32).take 35 = ch_cX11_round_1 := by decide +kernel
def ch_cX11_rounds_0 : List UInt8 := [42, 180, 1, 37, 172]
set_option maxRecDepth 20000 in
theorem kc_cX11_rounds_0 : (cX11_rounds.data.toList.drop 0).take 35 = ch_cX11_rounds_0 := by decide +kernel
def ch_cX11_score_0 : List UInt8 := [42, 27, 182, 0, 148, 153, 0, 21, 42, 28, 182, 0, 140, 153, 0, 13, 29, 3, 16, 9, 184, 0, 133, 154, 0, 5, 2, 172, 42, 180, 0, 16, 27, 46, 6]
set_option maxRecDepth 20000 in
theorem kc_cX11_score_0 : (cX11_score.data.toList.drop 0).take 35 = ch_cX11_score_0 := by decide +kernel
def ch_cX11_score_1 : List UInt8 := [27, 46, 6, 159, 0, 9, 42, 6, 182, 0, 155, 172, 42, 180, 0, 25, 16, 10, 27, 104, 28, 96, 46, 54, 4, 42, 180, 0, 25, 16, 10, 27, 104, 28, 96]
set_option maxRecDepth 20000 in
theorem kc_cX11_score_1 : (cX11_score.data.toList.drop 32).take 35 = ch_cX11_score_1 := by decide +kernel
def ch_cX11_score_2 : List UInt8 := [104, 28, 96, 29, 79, 21, 4, 172]
set_option maxRecDepth 20000 in
theorem kc_cX11_score_2 : (cX11_score.data.toList.drop 64).take 35 = ch_cX11_score_2 := by decide +kernel
def ch_cX11_seat_0 : List UInt8 := [27, 3, 42, 180, 1, 34, 4, 100, 184, 0, 133, 153, 0, 12, 42, 180, 0, 99, 27, 46, 167, 0, 5, 16, 247, 172]
set_option maxRecDepth 20000 in
theorem kc_cX11_seat_0 : (cX11_seat.data.toList.drop 0).take 35 = ch_cX11_seat_0 := by decide +kernel
def ch_cX11_share_0 : List UInt8 := [42, 27, 182, 0, 166, 154, 0, 5, 2, 172, 42, 27, 28, 182, 0, 169, 62, 29, 158, 0, 11, 42, 29, 182, 0, 155, 167, 0, 29, 17, 3, 232, 42, 180, 0]
set_option maxRecDepth 20000 in
theorem kc_cX11_share_0 : (cX11_share.data.toList.drop 0).take 35 = ch_cX11_share_0 := by decide +kernel
def ch_cX11_share_1 : List UInt8 := [42, 180, 0, 19, 42, 180, 0, 34, 16, 40, 27, 104, 28, 96, 46, 46, 104, 42, 27, 182, 0, 172, 108, 172]
set_option maxRecDepth 20000 in
theorem kc_cX11_share_1 : (cX11_share.data.toList.drop 32).take 35 = ch_cX11_share_1 := by decide +kernel
def ch_cX11_stand_0 : List UInt8 := [42, 180, 0, 137, 16, 10, 160, 0, 6, 16, 254, 172, 42, 180, 0, 13, 42, 180, 0, 137, 42, 180, 0, 137, 79, 42, 89, 180, 0, 137, 4, 96, 181, 0, 137]
set_option maxRecDepth 20000 in
theorem kc_cX11_stand_0 : (cX11_stand.data.toList.drop 0).take 35 = ch_cX11_stand_0 := by decide +kernel
def ch_cX11_stand_1 : List UInt8 := [181, 0, 137, 42, 180, 0, 137, 4, 100, 172]
set_option maxRecDepth 20000 in
theorem kc_cX11_stand_1 : (cX11_stand.data.toList.drop 32).take 35 = ch_cX11_stand_1 := by decide +kernel
def ch_cX11_start_0 : List UInt8 := [42, 27, 182, 0, 178, 153, 0, 11, 42, 27, 182, 0, 181, 167, 0, 4, 2, 172]
set_option maxRecDepth 20000 in
theorem kc_cX11_start_0 : (cX11_start.data.toList.drop 0).take 35 = ch_cX11_start_0 := by decide +kernel
def ch_cX11_started_0 : List UInt8 := [3, 61, 27, 62, 29, 16, 247, 159, 0, 42, 42, 180, 0, 52, 29, 46, 154, 0, 33, 42, 180, 0, 58, 28, 29, 79, 132, 2, 1, 42, 180, 0, 55, 29, 92]
set_option maxRecDepth 20000 in
theorem kc_cX11_started_0 : (cX11_started.data.toList.drop 0).take 35 = ch_cX11_started_0 := by decide +kernel
def ch_cX11_started_1 : List UInt8 := [55, 29, 92, 46, 4, 96, 79, 42, 180, 0, 49, 29, 46, 62, 167, 255, 214, 28, 4, 100, 54, 4, 21, 4, 155, 0, 87, 42, 180, 0, 49, 42, 180, 0, 58]
set_option maxRecDepth 20000 in
theorem kc_cX11_started_1 : (cX11_started.data.toList.drop 32).take 35 = ch_cX11_started_1 := by decide +kernel
def ch_cX11_started_2 : List UInt8 := [180, 0, 58, 21, 4, 46, 46, 54, 5, 21, 5, 16, 247, 159, 0, 14, 42, 180, 0, 52, 21, 5, 46, 5, 159, 0, 20, 42, 180, 0, 40, 42, 180, 0, 58]
set_option maxRecDepth 20000 in
theorem kc_cX11_started_2 : (cX11_started.data.toList.drop 64).take 35 = ch_cX11_started_2 := by decide +kernel
def ch_cX11_started_3 : List UInt8 := [180, 0, 58, 21, 4, 46, 46, 16, 8, 160, 0, 7, 4, 167, 0, 4, 3, 54, 6, 42, 180, 0, 52, 42, 180, 0, 58, 21, 4, 46, 21, 6, 153, 0, 7]
set_option maxRecDepth 20000 in
theorem kc_cX11_started_3 : (cX11_started.data.toList.drop 96).take 35 = ch_cX11_started_3 := by decide +kernel
def ch_cX11_started_4 : List UInt8 := [153, 0, 7, 5, 167, 0, 4, 4, 79, 132, 4, 255, 167, 255, 170, 42, 180, 0, 52, 27, 46, 172]
set_option maxRecDepth 20000 in
theorem kc_cX11_started_4 : (cX11_started.data.toList.drop 128).take 35 = ch_cX11_started_4 := by decide +kernel
def ch_cX11_takeOver_0 : List UInt8 := [42, 42, 180, 0, 211, 181, 1, 34, 42, 42, 180, 0, 208, 181, 1, 37, 3, 60, 27, 16, 30, 162, 0, 21, 42, 180, 0, 99, 27, 42, 180, 0, 65, 27, 46]
set_option maxRecDepth 20000 in
theorem kc_cX11_takeOver_0 : (cX11_takeOver.data.toList.drop 0).take 35 = ch_cX11_takeOver_0 := by decide +kernel
def ch_cX11_takeOver_1 : List UInt8 := [65, 27, 46, 79, 132, 1, 1, 167, 255, 235, 3, 60, 27, 16, 40, 162, 0, 33, 42, 180, 0, 102, 27, 42, 180, 0, 68, 27, 46, 79, 42, 180, 0, 105, 27]
set_option maxRecDepth 20000 in
theorem kc_cX11_takeOver_1 : (cX11_takeOver.data.toList.drop 32).take 35 = ch_cX11_takeOver_1 := by decide +kernel
def ch_cX11_takeOver_2 : List UInt8 := [0, 105, 27, 42, 180, 0, 71, 27, 46, 79, 132, 1, 1, 167, 255, 223, 3, 60, 27, 17, 1, 144, 162, 0, 33, 42, 180, 0, 108, 27, 42, 180, 0, 74, 27]
set_option maxRecDepth 20000 in
theorem kc_cX11_takeOver_2 : (cX11_takeOver.data.toList.drop 64).take 35 = ch_cX11_takeOver_2 := by decide +kernel
def ch_cX11_takeOver_3 : List UInt8 := [0, 74, 27, 47, 80, 42, 180, 0, 111, 27, 42, 180, 0, 78, 27, 47, 80, 132, 1, 1, 167, 255, 222, 177]
set_option maxRecDepth 20000 in
theorem kc_cX11_takeOver_3 : (cX11_takeOver.data.toList.drop 96).take 35 = ch_cX11_takeOver_3 := by decide +kernel
def ch_cX11_tally_0 : List UInt8 := [42, 28, 182, 0, 140, 154, 0, 9, 20, 1, 52, 167, 0, 52, 27, 3, 42, 180, 1, 37, 4, 100, 184, 0, 133, 154, 0, 9, 20, 1, 54, 167, 0, 32, 29]
set_option maxRecDepth 20000 in
theorem kc_cX11_tally_0 : (cX11_tally.data.toList.drop 0).take 35 = ch_cX11_tally_0 := by decide +kernel
def ch_cX11_tally_1 : List UInt8 := [0, 32, 29, 153, 0, 17, 42, 180, 0, 111, 16, 10, 27, 104, 28, 96, 47, 167, 0, 14, 42, 180, 0, 108, 16, 10, 27, 104, 28, 96, 47, 173]
set_option maxRecDepth 20000 in
theorem kc_cX11_tally_1 : (cX11_tally.data.toList.drop 32).take 35 = ch_cX11_tally_1 := by decide +kernel
def ch_cX11_tallyFirsts_0 : List UInt8 := [42, 182, 0, 214, 3, 60, 27, 42, 180, 0, 31, 42, 180, 0, 201, 46, 162, 0, 55, 42, 27, 182, 0, 217, 61, 28, 16, 247, 160, 0, 8, 16, 247, 167, 0]
set_option maxRecDepth 20000 in
theorem kc_cX11_tallyFirsts_0 : (cX11_tallyFirsts.data.toList.drop 0).take 35 = ch_cX11_tallyFirsts_0 := by decide +kernel
def ch_cX11_tallyFirsts_1 : List UInt8 := [247, 167, 0, 8, 42, 28, 182, 0, 220, 62, 29, 16, 247, 159, 0, 20, 42, 29, 42, 180, 0, 93, 27, 47, 42, 180, 0, 96, 27, 47, 182, 0, 223, 132, 1]
set_option maxRecDepth 20000 in
theorem kc_cX11_tallyFirsts_1 : (cX11_tallyFirsts.data.toList.drop 32).take 35 = ch_cX11_tallyFirsts_1 := by decide +kernel
def ch_cX11_tallyFirsts_2 : List UInt8 := [223, 132, 1, 1, 167, 255, 194, 177]
set_option maxRecDepth 20000 in
theorem kc_cX11_tallyFirsts_2 : (cX11_tallyFirsts.data.toList.drop 64).take 35 = ch_cX11_tallyFirsts_2 := by decide +kernel
def ch_cX11_tallyPoints_0 : List UInt8 := [42, 182, 0, 214, 3, 61, 28, 42, 180, 0, 31, 42, 180, 0, 201, 46, 162, 0, 116, 42, 28, 182, 0, 217, 62, 3, 54, 4, 21, 4, 42, 180, 0, 137, 162]
set_option maxRecDepth 20000 in
theorem kc_cX11_tallyPoints_0 : (cX11_tallyPoints.data.toList.drop 0).take 35 = ch_cX11_tallyPoints_0 := by decide +kernel
def ch_cX11_tallyPoints_1 : List UInt8 := [0, 137, 162, 0, 92, 29, 16, 247, 159, 0, 86, 27, 153, 0, 13, 42, 29, 21, 4, 182, 0, 159, 167, 0, 15, 42, 180, 0, 25, 16, 10, 29, 104, 21, 4]
set_option maxRecDepth 20000 in
theorem kc_cX11_tallyPoints_1 : (cX11_tallyPoints.data.toList.drop 32).take 35 = ch_cX11_tallyPoints_1 := by decide +kernel
def ch_cX11_tallyPoints_2 : List UInt8 := [104, 21, 4, 96, 46, 54, 5, 27, 154, 0, 8, 21, 5, 167, 0, 23, 21, 5, 16, 247, 160, 0, 7, 3, 167, 0, 12, 42, 180, 0, 137, 4, 100, 21, 5]
set_option maxRecDepth 20000 in
theorem kc_cX11_tallyPoints_2 : (cX11_tallyPoints.data.toList.drop 64).take 35 = ch_cX11_tallyPoints_2 := by decide +kernel
def ch_cX11_tallyPoints_3 : List UInt8 := [100, 21, 5, 100, 54, 6, 42, 21, 4, 42, 180, 0, 19, 29, 46, 133, 21, 6, 133, 105, 10, 182, 0, 223, 132, 4, 1, 167, 255, 161, 132, 2, 1, 167, 255]
set_option maxRecDepth 20000 in
theorem kc_cX11_tallyPoints_3 : (cX11_tallyPoints.data.toList.drop 96).take 35 = ch_cX11_tallyPoints_3 := by decide +kernel
def ch_cX11_tallyPoints_4 : List UInt8 := [1, 167, 255, 133, 177]
set_option maxRecDepth 20000 in
theorem kc_cX11_tallyPoints_4 : (cX11_tallyPoints.data.toList.drop 128).take 35 = ch_cX11_tallyPoints_4 := by decide +kernel
def ch_cX11_tallyWays_0 : List UInt8 := [42, 182, 0, 214, 3, 60, 27, 42, 180, 0, 137, 162, 0, 94, 3, 61, 3, 62, 29, 42, 180, 0, 137, 162, 0, 76, 42, 180, 0, 81, 27, 51, 153, 0, 67]
set_option maxRecDepth 20000 in
theorem kc_cX11_tallyWays_0 : (cX11_tallyWays.data.toList.drop 0).take 35 = ch_cX11_tallyWays_0 := by decide +kernel
def ch_cX11_tallyWays_1 : List UInt8 := [153, 0, 67, 29, 27, 159, 0, 56, 42, 180, 0, 81, 29, 51, 153, 0, 47, 28, 153, 0, 24, 42, 180, 0, 123, 16, 10, 27, 104, 29, 96, 47, 42, 180, 0]
set_option maxRecDepth 20000 in
theorem kc_cX11_tallyWays_1 : (cX11_tallyWays.data.toList.drop 32).take 35 = ch_cX11_tallyWays_1 := by decide +kernel
def ch_cX11_tallyWays_2 : List UInt8 := [42, 180, 0, 87, 27, 47, 148, 156, 0, 22, 42, 180, 0, 87, 27, 42, 180, 0, 123, 16, 10, 27, 104, 29, 96, 47, 80, 4, 61, 132, 3, 1, 167, 255, 178]
set_option maxRecDepth 20000 in
theorem kc_cX11_tallyWays_2 : (cX11_tallyWays.data.toList.drop 64).take 35 = ch_cX11_tallyWays_2 := by decide +kernel
def ch_cX11_tallyWays_3 : List UInt8 := [167, 255, 178, 132, 1, 1, 167, 255, 160, 177]
set_option maxRecDepth 20000 in
theorem kc_cX11_tallyWays_3 : (cX11_tallyWays.data.toList.drop 96).take 35 = ch_cX11_tallyWays_3 := by decide +kernel
def ch_cX11_told_0 : List UInt8 := [42, 27, 182, 0, 148, 153, 0, 7, 28, 156, 0, 5, 2, 172, 28, 6, 162, 0, 37, 28, 154, 0, 12, 42, 180, 0, 16, 27, 46, 167, 0, 23, 28, 4, 160]
set_option maxRecDepth 20000 in
theorem kc_cX11_told_0 : (cX11_told.data.toList.drop 0).take 35 = ch_cX11_told_0 := by decide +kernel
def ch_cX11_told_1 : List UInt8 := [28, 4, 160, 0, 12, 42, 180, 0, 19, 27, 46, 167, 0, 9, 42, 180, 0, 22, 27, 46, 172, 42, 180, 0, 16, 27, 46, 6, 160, 0, 10, 42, 180, 0, 137]
set_option maxRecDepth 20000 in
theorem kc_cX11_told_1 : (cX11_told.data.toList.drop 32).take 35 = ch_cX11_told_1 := by decide +kernel
def ch_cX11_told_2 : List UInt8 := [180, 0, 137, 167, 0, 9, 42, 180, 0, 22, 27, 46, 62, 28, 6, 100, 29, 162, 0, 19, 42, 180, 0, 25, 16, 10, 27, 104, 28, 96, 6, 100, 46, 167, 0]
set_option maxRecDepth 20000 in
theorem kc_cX11_told_2 : (cX11_told.data.toList.drop 64).take 35 = ch_cX11_told_2 := by decide +kernel
def ch_cX11_told_3 : List UInt8 := [46, 167, 0, 5, 16, 247, 172]
set_option maxRecDepth 20000 in
theorem kc_cX11_told_3 : (cX11_told.data.toList.drop 96).take 35 = ch_cX11_told_3 := by decide +kernel
def ch_cX11_under_0 : List UInt8 := [42, 27, 182, 0, 178, 153, 0, 13, 28, 3, 16, 8, 184, 0, 133, 154, 0, 5, 2, 172, 42, 180, 0, 40, 27, 46, 62, 29, 28, 159, 0, 41, 28, 4, 160]
set_option maxRecDepth 20000 in
theorem kc_cX11_under_0 : (cX11_under.data.toList.drop 0).take 35 = ch_cX11_under_0 := by decide +kernel
def ch_cX11_under_1 : List UInt8 := [28, 4, 160, 0, 8, 29, 5, 159, 0, 31, 28, 154, 0, 15, 29, 16, 6, 159, 0, 21, 29, 16, 7, 159, 0, 15, 28, 16, 6, 160, 0, 13, 29, 16, 7]
set_option maxRecDepth 20000 in
theorem kc_cX11_under_1 : (cX11_under.data.toList.drop 32).take 35 = ch_cX11_under_1 := by decide +kernel
def ch_cX11_under_2 : List UInt8 := [29, 16, 7, 160, 0, 7, 4, 167, 0, 4, 3, 54, 4, 21, 4, 153, 0, 7, 4, 167, 0, 4, 3, 172]
set_option maxRecDepth 20000 in
theorem kc_cX11_under_2 : (cX11_under.data.toList.drop 64).take 35 = ch_cX11_under_2 := by decide +kernel
def ch_cX11_unlikeAt_0 : List UInt8 := [27, 4, 160, 0, 7, 6, 167, 0, 4, 4, 62, 3, 54, 4, 21, 4, 42, 180, 0, 31, 28, 46, 162, 0, 47, 42, 180, 0, 34, 16, 40, 28, 104, 21, 4]
set_option maxRecDepth 20000 in
theorem kc_cX11_unlikeAt_0 : (cX11_unlikeAt.data.toList.drop 0).take 35 = ch_cX11_unlikeAt_0 := by decide +kernel
def ch_cX11_unlikeAt_1 : List UInt8 := [104, 21, 4, 96, 46, 54, 5, 21, 5, 16, 247, 159, 0, 20, 42, 180, 0, 16, 21, 5, 46, 29, 184, 0, 151, 154, 0, 6, 21, 4, 172, 132, 4, 1, 167]
set_option maxRecDepth 20000 in
theorem kc_cX11_unlikeAt_1 : (cX11_unlikeAt.data.toList.drop 32).take 35 = ch_cX11_unlikeAt_1 := by decide +kernel
def ch_cX11_unlikeAt_2 : List UInt8 := [4, 1, 167, 255, 204, 16, 247, 172]
set_option maxRecDepth 20000 in
theorem kc_cX11_unlikeAt_2 : (cX11_unlikeAt.data.toList.drop 64).take 35 = ch_cX11_unlikeAt_2 := by decide +kernel
def ch_cX11_weight_0 : List UInt8 := [42, 27, 182, 0, 148, 153, 0, 11, 42, 28, 182, 0, 140, 154, 0, 5, 2, 172, 42, 180, 0, 16, 27, 46, 6, 159, 0, 9, 42, 6, 182, 0, 155, 172, 3]
set_option maxRecDepth 20000 in
theorem kc_cX11_weight_0 : (cX11_weight.data.toList.drop 0).take 35 = ch_cX11_weight_0 := by decide +kernel
def ch_cX11_weight_1 : List UInt8 := [155, 172, 3, 62, 3, 54, 4, 21, 4, 42, 180, 0, 137, 162, 0, 24, 29, 42, 180, 0, 25, 16, 10, 27, 104, 21, 4, 96, 46, 96, 62, 132, 4, 1, 167]
set_option maxRecDepth 20000 in
theorem kc_cX11_weight_1 : (cX11_weight.data.toList.drop 32).take 35 = ch_cX11_weight_1 := by decide +kernel
def ch_cX11_weight_2 : List UInt8 := [4, 1, 167, 255, 229, 29, 154, 0, 11, 42, 7, 182, 0, 155, 167, 0, 20, 17, 3, 232, 42, 180, 0, 25, 16, 10, 27, 104, 28, 96, 46, 104, 29, 108, 172]
set_option maxRecDepth 20000 in
theorem kc_cX11_weight_2 : (cX11_weight.data.toList.drop 64).take 35 = ch_cX11_weight_2 := by decide +kernel
def ch_cX11_weight_3 : List UInt8 := [29, 108, 172]
set_option maxRecDepth 20000 in
theorem kc_cX11_weight_3 : (cX11_weight.data.toList.drop 96).take 35 = ch_cX11_weight_3 := by decide +kernel
def ch_cX11_where_0 : List UInt8 := [42, 180, 0, 126, 172]
set_option maxRecDepth 20000 in
theorem kc_cX11_where_0 : (cX11_where.data.toList.drop 0).take 35 = ch_cX11_where_0 := by decide +kernel
def ch_cX1_come_0 : List UInt8 := [42, 180, 0, 9, 16, 8, 160, 0, 6, 16, 254, 172, 42, 180, 0, 15, 42, 180, 0, 9, 27, 79, 42, 180, 0, 19, 42, 180, 0, 9, 28, 79, 3, 62, 29]
set_option maxRecDepth 20000 in
theorem kc_cX1_come_0 : (cX1_come.data.toList.drop 0).take 35 = ch_cX1_come_0 := by decide +kernel
def ch_cX1_come_1 : List UInt8 := [3, 62, 29, 28, 162, 0, 22, 42, 180, 0, 24, 42, 180, 0, 9, 50, 29, 16, 247, 79, 132, 3, 1, 167, 255, 235, 42, 89, 180, 0, 9, 4, 96, 181, 0]
set_option maxRecDepth 20000 in
theorem kc_cX1_come_1 : (cX1_come.data.toList.drop 32).take 35 = ch_cX1_come_1 := by decide +kernel
def ch_cX1_come_2 : List UInt8 := [96, 181, 0, 9, 42, 180, 0, 9, 4, 100, 172]
set_option maxRecDepth 20000 in
theorem kc_cX1_come_2 : (cX1_come.data.toList.drop 64).take 35 = ch_cX1_come_2 := by decide +kernel
def ch_cX1_copy_0 : List UInt8 := [3, 54, 6, 21, 6, 21, 5, 162, 0, 27, 42, 180, 0, 27, 21, 6, 42, 180, 0, 24, 27, 50, 28, 21, 6, 96, 46, 79, 132, 6, 1, 167, 255, 228, 3]
set_option maxRecDepth 20000 in
theorem kc_cX1_copy_0 : (cX1_copy.data.toList.drop 0).take 35 = ch_cX1_copy_0 := by decide +kernel
def ch_cX1_copy_1 : List UInt8 := [255, 228, 3, 54, 6, 21, 6, 21, 5, 162, 0, 28, 42, 180, 0, 24, 29, 50, 21, 4, 21, 6, 96, 42, 180, 0, 27, 21, 6, 46, 79, 132, 6, 1, 167]
set_option maxRecDepth 20000 in
theorem kc_cX1_copy_1 : (cX1_copy.data.toList.drop 32).take 35 = ch_cX1_copy_1 := by decide +kernel
def ch_cX1_copy_2 : List UInt8 := [6, 1, 167, 255, 227, 177]
set_option maxRecDepth 20000 in
theorem kc_cX1_copy_2 : (cX1_copy.data.toList.drop 64).take 35 = ch_cX1_copy_2 := by decide +kernel
def ch_cX1_has_0 : List UInt8 := [27, 155, 0, 15, 27, 42, 180, 0, 9, 162, 0, 7, 4, 167, 0, 4, 3, 172]
set_option maxRecDepth 20000 in
theorem kc_cX1_has_0 : (cX1_has.data.toList.drop 0).take 35 = ch_cX1_has_0 := by decide +kernel
def ch_cX1_hasPlace_0 : List UInt8 := [28, 155, 0, 17, 28, 42, 180, 0, 19, 27, 46, 162, 0, 7, 4, 167, 0, 4, 3, 172]
set_option maxRecDepth 20000 in
theorem kc_cX1_hasPlace_0 : (cX1_hasPlace.data.toList.drop 0).take 35 = ch_cX1_hasPlace_0 := by decide +kernel
def ch_cX1_hasPlaces_0 : List UInt8 := [28, 155, 0, 33, 28, 42, 180, 0, 19, 27, 46, 163, 0, 23, 29, 155, 0, 19, 29, 42, 180, 0, 19, 27, 46, 28, 100, 163, 0, 7, 4, 167, 0, 4, 3]
set_option maxRecDepth 20000 in
theorem kc_cX1_hasPlaces_0 : (cX1_hasPlaces.data.toList.drop 0).take 35 = ch_cX1_hasPlaces_0 := by decide +kernel
def ch_cX1_hasPlaces_1 : List UInt8 := [0, 4, 3, 172]
set_option maxRecDepth 20000 in
theorem kc_cX1_hasPlaces_1 : (cX1_hasPlaces.data.toList.drop 32).take 35 = ch_cX1_hasPlaces_1 := by decide +kernel
def ch_cX1_init_0 : List UInt8 := [42, 183, 0, 3, 42, 3, 181, 0, 9, 42, 16, 8, 188, 10, 181, 0, 15, 42, 16, 8, 188, 10, 181, 0, 19, 42, 16, 8, 16, 40, 197, 0, 22, 2, 181]
set_option maxRecDepth 20000 in
theorem kc_cX1_init_0 : (cX1_init.data.toList.drop 0).take 35 = ch_cX1_init_0 := by decide +kernel
def ch_cX1_init_1 : List UInt8 := [22, 2, 181, 0, 24, 42, 16, 40, 188, 10, 181, 0, 27, 177]
set_option maxRecDepth 20000 in
theorem kc_cX1_init_1 : (cX1_init.data.toList.drop 32).take 35 = ch_cX1_init_1 := by decide +kernel
def ch_cX2_change_0 : List UInt8 := [42, 180, 0, 15, 27, 46, 62, 42, 180, 0, 15, 27, 42, 180, 0, 15, 28, 46, 79, 42, 180, 0, 15, 28, 29, 79, 177]
set_option maxRecDepth 20000 in
theorem kc_cX2_change_0 : (cX2_change.data.toList.drop 0).take 35 = ch_cX2_change_0 := by decide +kernel
def ch_cX2_come_0 : List UInt8 := [42, 180, 0, 9, 16, 10, 160, 0, 6, 16, 254, 172, 42, 180, 0, 15, 42, 180, 0, 9, 42, 180, 0, 9, 79, 42, 89, 180, 0, 9, 4, 96, 181, 0, 9]
set_option maxRecDepth 20000 in
theorem kc_cX2_come_0 : (cX2_come.data.toList.drop 0).take 35 = ch_cX2_come_0 := by decide +kernel
def ch_cX2_come_1 : List UInt8 := [181, 0, 9, 42, 180, 0, 9, 4, 100, 172]
set_option maxRecDepth 20000 in
theorem kc_cX2_come_1 : (cX2_come.data.toList.drop 32).take 35 = ch_cX2_come_1 := by decide +kernel
def ch_cX2_has_0 : List UInt8 := [27, 155, 0, 15, 27, 42, 180, 0, 9, 162, 0, 7, 4, 167, 0, 4, 3, 172]
set_option maxRecDepth 20000 in
theorem kc_cX2_has_0 : (cX2_has.data.toList.drop 0).take 35 = ch_cX2_has_0 := by decide +kernel
def ch_cX2_init_0 : List UInt8 := [42, 183, 0, 3, 42, 3, 181, 0, 9, 42, 16, 10, 188, 10, 181, 0, 15, 177]
set_option maxRecDepth 20000 in
theorem kc_cX2_init_0 : (cX2_init.data.toList.drop 0).take 35 = ch_cX2_init_0 := by decide +kernel
def ch_cX3_add_0 : List UInt8 := [42, 42, 180, 0, 9, 33, 105, 31, 42, 180, 0, 15, 105, 97, 42, 180, 0, 15, 33, 105, 182, 0, 18, 177]
set_option maxRecDepth 20000 in
theorem kc_cX3_add_0 : (cX3_add.data.toList.drop 0).take 35 = ch_cX3_add_0 := by decide +kernel
def ch_cX3_become_0 : List UInt8 := [31, 55, 5, 33, 55, 7, 3, 54, 9, 21, 9, 17, 3, 232, 162, 0, 31, 22, 7, 9, 148, 153, 0, 24, 22, 5, 22, 7, 113, 55, 10, 22, 7, 55, 5]
set_option maxRecDepth 20000 in
theorem kc_cX3_become_0 : (cX3_become.data.toList.drop 0).take 35 = ch_cX3_become_0 := by decide +kernel
def ch_cX3_become_1 : List UInt8 := [7, 55, 5, 22, 10, 55, 7, 132, 9, 1, 167, 255, 223, 42, 22, 5, 10, 148, 156, 0, 7, 9, 167, 0, 7, 31, 22, 5, 109, 181, 0, 9, 42, 22, 5]
set_option maxRecDepth 20000 in
theorem kc_cX3_become_1 : (cX3_become.data.toList.drop 32).take 35 = ch_cX3_become_1 := by decide +kernel
def ch_cX3_become_2 : List UInt8 := [42, 22, 5, 10, 148, 156, 0, 7, 10, 167, 0, 7, 33, 22, 5, 109, 181, 0, 15, 177]
set_option maxRecDepth 20000 in
theorem kc_cX3_become_2 : (cX3_become.data.toList.drop 64).take 35 = ch_cX3_become_2 := by decide +kernel
def ch_cX3_fits_0 : List UInt8 := [42, 180, 0, 9, 20, 0, 22, 148, 157, 0, 18, 42, 180, 0, 15, 20, 0, 22, 148, 157, 0, 7, 4, 167, 0, 4, 3, 172]
set_option maxRecDepth 20000 in
theorem kc_cX3_fits_0 : (cX3_fits.data.toList.drop 0).take 35 = ch_cX3_fits_0 := by decide +kernel
def ch_cX3_init_0 : List UInt8 := [42, 183, 0, 3, 42, 9, 181, 0, 9, 42, 10, 181, 0, 15, 177]
set_option maxRecDepth 20000 in
theorem kc_cX3_init_0 : (cX3_init.data.toList.drop 0).take 35 = ch_cX3_init_0 := by decide +kernel
def ch_cX3_multiply_0 : List UInt8 := [42, 42, 180, 0, 9, 31, 105, 42, 180, 0, 15, 33, 105, 182, 0, 18, 177]
set_option maxRecDepth 20000 in
theorem kc_cX3_multiply_0 : (cX3_multiply.data.toList.drop 0).take 35 = ch_cX3_multiply_0 := by decide +kernel
def ch_cX4_begin_0 : List UInt8 := [3, 61, 27, 62, 28, 16, 20, 162, 0, 40, 42, 29, 182, 0, 34, 153, 0, 32, 42, 180, 0, 19, 29, 46, 154, 0, 23, 42, 180, 0, 31, 28, 29, 79, 132]
set_option maxRecDepth 20000 in
theorem kc_cX4_begin_0 : (cX4_begin.data.toList.drop 0).take 35 = ch_cX4_begin_0 := by decide +kernel
def ch_cX4_begin_1 : List UInt8 := [29, 79, 132, 2, 1, 42, 180, 0, 22, 29, 46, 62, 167, 255, 216, 42, 29, 182, 0, 34, 153, 0, 17, 42, 180, 0, 19, 29, 46, 5, 160, 0, 7, 4, 167]
set_option maxRecDepth 20000 in
theorem kc_cX4_begin_1 : (cX4_begin.data.toList.drop 32).take 35 = ch_cX4_begin_1 := by decide +kernel
def ch_cX4_begin_2 : List UInt8 := [7, 4, 167, 0, 4, 3, 54, 4, 28, 4, 100, 54, 5, 21, 5, 155, 0, 60, 21, 4, 154, 0, 20, 42, 180, 0, 15, 42, 180, 0, 31, 21, 5, 46, 46]
set_option maxRecDepth 20000 in
theorem kc_cX4_begin_2 : (cX4_begin.data.toList.drop 64).take 35 = ch_cX4_begin_2 := by decide +kernel
def ch_cX4_begin_3 : List UInt8 := [5, 46, 46, 16, 8, 160, 0, 7, 4, 167, 0, 4, 3, 54, 4, 42, 180, 0, 19, 42, 180, 0, 31, 21, 5, 46, 21, 4, 153, 0, 7, 5, 167, 0, 4]
set_option maxRecDepth 20000 in
theorem kc_cX4_begin_3 : (cX4_begin.data.toList.drop 96).take 35 = ch_cX4_begin_3 := by decide +kernel
def ch_cX4_begin_4 : List UInt8 := [167, 0, 4, 4, 79, 132, 5, 255, 167, 255, 197, 42, 180, 0, 19, 27, 46, 172]
set_option maxRecDepth 20000 in
theorem kc_cX4_begin_4 : (cX4_begin.data.toList.drop 128).take 35 = ch_cX4_begin_4 := by decide +kernel
def ch_cX4_come_0 : List UInt8 := [42, 180, 0, 9, 16, 20, 160, 0, 6, 16, 254, 172, 42, 180, 0, 15, 42, 180, 0, 9, 27, 79, 42, 180, 0, 25, 42, 180, 0, 9, 28, 79, 42, 180, 0]
set_option maxRecDepth 20000 in
theorem kc_cX4_come_0 : (cX4_come.data.toList.drop 0).take 35 = ch_cX4_come_0 := by decide +kernel
def ch_cX4_come_1 : List UInt8 := [42, 180, 0, 28, 42, 180, 0, 9, 29, 79, 42, 180, 0, 22, 42, 180, 0, 9, 21, 4, 79, 42, 89, 180, 0, 9, 4, 96, 181, 0, 9, 42, 180, 0, 9]
set_option maxRecDepth 20000 in
theorem kc_cX4_come_1 : (cX4_come.data.toList.drop 32).take 35 = ch_cX4_come_1 := by decide +kernel
def ch_cX4_come_2 : List UInt8 := [180, 0, 9, 4, 100, 172]
set_option maxRecDepth 20000 in
theorem kc_cX4_come_2 : (cX4_come.data.toList.drop 64).take 35 = ch_cX4_come_2 := by decide +kernel
def ch_cX4_firstNotFailed_0 : List UInt8 := [16, 247, 61, 3, 62, 29, 42, 180, 0, 9, 162, 0, 68, 42, 180, 0, 28, 29, 46, 27, 122, 4, 126, 4, 160, 0, 17, 42, 180, 0, 19, 29, 46, 5, 159]
set_option maxRecDepth 20000 in
theorem kc_cX4_firstNotFailed_0 : (cX4_firstNotFailed.data.toList.drop 0).take 35 = ch_cX4_firstNotFailed_0 := by decide +kernel
def ch_cX4_firstNotFailed_1 : List UInt8 := [46, 5, 159, 0, 7, 4, 167, 0, 4, 3, 54, 4, 21, 4, 153, 0, 26, 28, 16, 247, 159, 0, 18, 42, 180, 0, 25, 29, 46, 42, 180, 0, 25, 28, 46]
set_option maxRecDepth 20000 in
theorem kc_cX4_firstNotFailed_1 : (cX4_firstNotFailed.data.toList.drop 32).take 35 = ch_cX4_firstNotFailed_1 := by decide +kernel
def ch_cX4_firstNotFailed_2 : List UInt8 := [25, 28, 46, 164, 0, 5, 29, 61, 132, 3, 1, 167, 255, 186, 28, 172]
set_option maxRecDepth 20000 in
theorem kc_cX4_firstNotFailed_2 : (cX4_firstNotFailed.data.toList.drop 64).take 35 = ch_cX4_firstNotFailed_2 := by decide +kernel
def ch_cX4_firstToStart_0 : List UInt8 := [3, 61, 28, 42, 180, 0, 9, 162, 0, 32, 42, 27, 182, 0, 38, 62, 29, 16, 247, 159, 0, 12, 42, 29, 182, 0, 42, 4, 160, 0, 5, 29, 172, 132, 2]
set_option maxRecDepth 20000 in
theorem kc_cX4_firstToStart_0 : (cX4_firstToStart.data.toList.drop 0).take 35 = ch_cX4_firstToStart_0 := by decide +kernel
def ch_cX4_firstToStart_1 : List UInt8 := [172, 132, 2, 1, 167, 255, 222, 16, 247, 172]
set_option maxRecDepth 20000 in
theorem kc_cX4_firstToStart_1 : (cX4_firstToStart.data.toList.drop 32).take 35 = ch_cX4_firstToStart_1 := by decide +kernel
def ch_cX4_has_0 : List UInt8 := [27, 155, 0, 15, 27, 42, 180, 0, 9, 162, 0, 7, 4, 167, 0, 4, 3, 172]
set_option maxRecDepth 20000 in
theorem kc_cX4_has_0 : (cX4_has.data.toList.drop 0).take 35 = ch_cX4_has_0 := by decide +kernel
def ch_cX4_init_0 : List UInt8 := [42, 183, 0, 3, 42, 3, 181, 0, 9, 42, 16, 20, 188, 10, 181, 0, 15, 42, 16, 20, 188, 10, 181, 0, 19, 42, 16, 20, 188, 10, 181, 0, 22, 42, 16]
set_option maxRecDepth 20000 in
theorem kc_cX4_init_0 : (cX4_init.data.toList.drop 0).take 35 = ch_cX4_init_0 := by decide +kernel
def ch_cX4_init_1 : List UInt8 := [22, 42, 16, 20, 188, 10, 181, 0, 25, 42, 16, 20, 188, 10, 181, 0, 28, 42, 16, 20, 188, 10, 181, 0, 31, 177]
set_option maxRecDepth 20000 in
theorem kc_cX4_init_1 : (cX4_init.data.toList.drop 32).take 35 = ch_cX4_init_1 := by decide +kernel
def ch_cX5_greatestByDivisor_0 : List UInt8 := [16, 247, 61, 3, 62, 29, 42, 180, 0, 18, 180, 0, 61, 180, 0, 65, 162, 0, 43, 42, 180, 0, 18, 180, 0, 61, 180, 0, 95, 29, 46, 54, 4, 28, 16]
set_option maxRecDepth 20000 in
theorem kc_cX5_greatestByDivisor_0 : (cX5_greatestByDivisor.data.toList.drop 0).take 35 = ch_cX5_greatestByDivisor_0 := by decide +kernel
def ch_cX5_greatestByDivisor_1 : List UInt8 := [4, 28, 16, 247, 159, 0, 14, 42, 21, 4, 28, 27, 182, 0, 97, 153, 0, 6, 21, 4, 61, 132, 3, 1, 167, 255, 205, 28, 172]
set_option maxRecDepth 20000 in
theorem kc_cX5_greatestByDivisor_1 : (cX5_greatestByDivisor.data.toList.drop 32).take 35 = ch_cX5_greatestByDivisor_1 := by decide +kernel
def ch_cX5_init_0 : List UInt8 := [42, 183, 0, 3, 42, 16, 10, 188, 10, 181, 0, 9, 42, 16, 10, 188, 10, 181, 0, 15, 42, 43, 181, 0, 18, 177]
set_option maxRecDepth 20000 in
theorem kc_cX5_init_0 : (cX5_init.data.toList.drop 0).take 35 = ch_cX5_init_0 := by decide +kernel
def ch_cX5_isMoreByDivisor_0 : List UInt8 := [4, 29, 42, 180, 0, 9, 27, 46, 104, 96, 133, 55, 4, 4, 29, 42, 180, 0, 9, 28, 46, 104, 96, 133, 55, 6, 42, 180, 0, 18, 180, 0, 68, 27, 47]
set_option maxRecDepth 20000 in
theorem kc_cX5_isMoreByDivisor_0 : (cX5_isMoreByDivisor.data.toList.drop 0).take 35 = ch_cX5_isMoreByDivisor_0 := by decide +kernel
def ch_cX5_isMoreByDivisor_1 : List UInt8 := [68, 27, 47, 22, 6, 105, 42, 180, 0, 18, 180, 0, 68, 28, 47, 22, 4, 105, 148, 158, 0, 7, 4, 167, 0, 4, 3, 172]
set_option maxRecDepth 20000 in
theorem kc_cX5_isMoreByDivisor_1 : (cX5_isMoreByDivisor.data.toList.drop 32).take 35 = ch_cX5_isMoreByDivisor_1 := by decide +kernel
def ch_cX5_runOff_0 : List UInt8 := [42, 180, 0, 18, 180, 0, 61, 180, 0, 65, 4, 100, 61, 3, 62, 29, 28, 162, 0, 63, 42, 180, 0, 18, 182, 0, 55, 42, 180, 0, 18, 182, 0, 101, 54]
set_option maxRecDepth 20000 in
theorem kc_cX5_runOff_0 : (cX5_runOff.data.toList.drop 0).take 35 = ch_cX5_runOff_0 := by decide +kernel
def ch_cX5_runOff_1 : List UInt8 := [0, 101, 54, 4, 21, 4, 16, 247, 160, 0, 4, 177, 43, 5, 21, 4, 42, 180, 0, 18, 182, 0, 36, 42, 180, 0, 18, 180, 0, 45, 21, 4, 3, 84, 42]
set_option maxRecDepth 20000 in
theorem kc_cX5_runOff_1 : (cX5_runOff.data.toList.drop 32).take 35 = ch_cX5_runOff_1 := by decide +kernel
def ch_cX5_runOff_2 : List UInt8 := [3, 84, 42, 180, 0, 15, 29, 21, 4, 79, 132, 3, 1, 167, 255, 194, 42, 180, 0, 18, 182, 0, 55, 42, 180, 0, 18, 182, 0, 32, 62, 43, 4, 29, 42]
set_option maxRecDepth 20000 in
theorem kc_cX5_runOff_2 : (cX5_runOff.data.toList.drop 64).take 35 = ch_cX5_runOff_2 := by decide +kernel
def ch_cX5_runOff_3 : List UInt8 := [4, 29, 42, 180, 0, 18, 182, 0, 36, 43, 29, 182, 0, 42, 4, 54, 4, 21, 4, 42, 180, 0, 18, 180, 0, 26, 162, 0, 28, 21, 4, 28, 163, 0, 22]
set_option maxRecDepth 20000 in
theorem kc_cX5_runOff_3 : (cX5_runOff.data.toList.drop 96).take 35 = ch_cX5_runOff_3 := by decide +kernel
def ch_cX5_runOff_4 : List UInt8 := [163, 0, 22, 43, 42, 180, 0, 15, 28, 21, 4, 100, 46, 182, 0, 42, 132, 4, 1, 167, 255, 222, 177]
set_option maxRecDepth 20000 in
theorem kc_cX5_runOff_4 : (cX5_runOff.data.toList.drop 128).take 35 = ch_cX5_runOff_4 := by decide +kernel
def ch_cX5_seatByDivisors_0 : List UInt8 := [42, 180, 0, 18, 182, 0, 55, 3, 62, 29, 16, 10, 162, 0, 16, 42, 180, 0, 9, 29, 3, 79, 132, 3, 1, 167, 255, 240, 3, 62, 29, 42, 180, 0, 18]
set_option maxRecDepth 20000 in
theorem kc_cX5_seatByDivisors_0 : (cX5_seatByDivisors.data.toList.drop 0).take 35 = ch_cX5_seatByDivisors_0 := by decide +kernel
def ch_cX5_seatByDivisors_1 : List UInt8 := [180, 0, 18, 180, 0, 26, 162, 0, 52, 42, 27, 182, 0, 92, 54, 4, 21, 4, 16, 247, 160, 0, 4, 177, 44, 4, 21, 4, 42, 180, 0, 18, 182, 0, 36]
set_option maxRecDepth 20000 in
theorem kc_cX5_seatByDivisors_1 : (cX5_seatByDivisors.data.toList.drop 32).take 35 = ch_cX5_seatByDivisors_1 := by decide +kernel
def ch_cX5_seatByDivisors_2 : List UInt8 := [182, 0, 36, 44, 21, 4, 182, 0, 42, 42, 180, 0, 9, 21, 4, 92, 46, 4, 96, 79, 132, 3, 1, 167, 255, 199, 177]
set_option maxRecDepth 20000 in
theorem kc_cX5_seatByDivisors_2 : (cX5_seatByDivisors.data.toList.drop 64).take 35 = ch_cX5_seatByDivisors_2 := by decide +kernel
def ch_cX5_seatByTallies_0 : List UInt8 := [42, 27, 182, 0, 22, 3, 62, 29, 42, 180, 0, 18, 180, 0, 26, 162, 0, 54, 42, 180, 0, 18, 182, 0, 32, 54, 4, 21, 4, 16, 247, 160, 0, 4, 177]
set_option maxRecDepth 20000 in
theorem kc_cX5_seatByTallies_0 : (cX5_seatByTallies.data.toList.drop 0).take 35 = ch_cX5_seatByTallies_0 := by decide +kernel
def ch_cX5_seatByTallies_1 : List UInt8 := [0, 4, 177, 44, 4, 21, 4, 42, 180, 0, 18, 182, 0, 36, 44, 21, 4, 182, 0, 42, 42, 180, 0, 18, 180, 0, 45, 21, 4, 3, 84, 132, 3, 1, 167]
set_option maxRecDepth 20000 in
theorem kc_cX5_seatByTallies_1 : (cX5_seatByTallies.data.toList.drop 32).take 35 = ch_cX5_seatByTallies_1 := by decide +kernel
def ch_cX5_seatByTallies_2 : List UInt8 := [3, 1, 167, 255, 197, 177]
set_option maxRecDepth 20000 in
theorem kc_cX5_seatByTallies_2 : (cX5_seatByTallies.data.toList.drop 64).take 35 = ch_cX5_seatByTallies_2 := by decide +kernel
def ch_cX5_tallyBy_0 : List UInt8 := [27, 4, 160, 0, 10, 42, 182, 0, 49, 167, 0, 22, 27, 5, 160, 0, 10, 42, 182, 0, 52, 167, 0, 10, 42, 180, 0, 18, 182, 0, 55, 177]
set_option maxRecDepth 20000 in
theorem kc_cX5_tallyBy_0 : (cX5_tallyBy.data.toList.drop 0).take 35 = ch_cX5_tallyBy_0 := by decide +kernel
def ch_cX5_tallyPlaces_0 : List UInt8 := [42, 180, 0, 18, 180, 0, 61, 180, 0, 65, 4, 100, 60, 3, 61, 28, 42, 180, 0, 18, 180, 0, 58, 162, 0, 85, 42, 180, 0, 18, 180, 0, 86, 28, 46]
set_option maxRecDepth 20000 in
theorem kc_cX5_tallyPlaces_0 : (cX5_tallyPlaces.data.toList.drop 0).take 35 = ch_cX5_tallyPlaces_0 := by decide +kernel
def ch_cX5_tallyPlaces_1 : List UInt8 := [86, 28, 46, 62, 3, 54, 4, 21, 4, 42, 180, 0, 18, 180, 0, 76, 180, 0, 89, 29, 46, 162, 0, 49, 42, 180, 0, 18, 180, 0, 68, 42, 180, 0, 18]
set_option maxRecDepth 20000 in
theorem kc_cX5_tallyPlaces_1 : (cX5_tallyPlaces.data.toList.drop 32).take 35 = ch_cX5_tallyPlaces_1 := by decide +kernel
def ch_cX5_tallyPlaces_2 : List UInt8 := [180, 0, 18, 180, 0, 76, 180, 0, 80, 29, 50, 21, 4, 46, 92, 47, 42, 180, 0, 18, 28, 182, 0, 72, 27, 21, 4, 100, 104, 133, 97, 80, 132, 4, 1]
set_option maxRecDepth 20000 in
theorem kc_cX5_tallyPlaces_2 : (cX5_tallyPlaces.data.toList.drop 64).take 35 = ch_cX5_tallyPlaces_2 := by decide +kernel
def ch_cX5_tallyPlaces_3 : List UInt8 := [132, 4, 1, 167, 255, 196, 132, 2, 1, 167, 255, 166, 177]
set_option maxRecDepth 20000 in
theorem kc_cX5_tallyPlaces_3 : (cX5_tallyPlaces.data.toList.drop 96).take 35 = ch_cX5_tallyPlaces_3 := by decide +kernel
def ch_cX5_tallyPoints_0 : List UInt8 := [3, 60, 27, 42, 180, 0, 18, 180, 0, 58, 162, 0, 75, 3, 61, 28, 42, 180, 0, 18, 180, 0, 61, 180, 0, 65, 162, 0, 53, 42, 180, 0, 18, 180, 0]
set_option maxRecDepth 20000 in
theorem kc_cX5_tallyPoints_0 : (cX5_tallyPoints.data.toList.drop 0).take 35 = ch_cX5_tallyPoints_0 := by decide +kernel
def ch_cX5_tallyPoints_1 : List UInt8 := [18, 180, 0, 68, 28, 92, 47, 42, 180, 0, 18, 27, 182, 0, 72, 42, 180, 0, 18, 180, 0, 76, 180, 0, 80, 42, 180, 0, 18, 180, 0, 86, 27, 46, 50]
set_option maxRecDepth 20000 in
theorem kc_cX5_tallyPoints_1 : (cX5_tallyPoints.data.toList.drop 32).take 35 = ch_cX5_tallyPoints_1 := by decide +kernel
def ch_cX5_tallyPoints_2 : List UInt8 := [27, 46, 50, 28, 46, 104, 133, 97, 80, 132, 2, 1, 167, 255, 195, 132, 1, 1, 167, 255, 176, 177]
set_option maxRecDepth 20000 in
theorem kc_cX5_tallyPoints_2 : (cX5_tallyPoints.data.toList.drop 64).take 35 = ch_cX5_tallyPoints_2 := by decide +kernel
def ch_cX6_allPapers_0 : List UInt8 := [3, 60, 3, 61, 28, 42, 180, 0, 15, 162, 0, 17, 27, 42, 28, 182, 0, 65, 96, 60, 132, 2, 1, 167, 255, 237, 27, 172]
set_option maxRecDepth 20000 in
theorem kc_cX6_allPapers_0 : (cX6_allPapers.data.toList.drop 0).take 35 = ch_cX6_allPapers_0 := by decide +kernel
def ch_cX6_clearTallies_0 : List UInt8 := [3, 60, 27, 16, 10, 162, 0, 23, 42, 180, 0, 26, 27, 9, 80, 42, 180, 0, 30, 27, 10, 80, 132, 1, 1, 167, 255, 233, 177]
set_option maxRecDepth 20000 in
theorem kc_cX6_clearTallies_0 : (cX6_clearTallies.data.toList.drop 0).take 35 = ch_cX6_clearTallies_0 := by decide +kernel
def ch_cX6_compareTallies_0 : List UInt8 := [42, 180, 0, 26, 27, 47, 42, 180, 0, 30, 28, 47, 105, 42, 180, 0, 26, 28, 47, 42, 180, 0, 30, 27, 47, 105, 184, 0, 85, 172]
set_option maxRecDepth 20000 in
theorem kc_cX6_compareTallies_0 : (cX6_compareTallies.data.toList.drop 0).take 35 = ch_cX6_compareTallies_0 := by decide +kernel
def ch_cX6_firstIn_0 : List UInt8 := [42, 180, 0, 9, 27, 46, 61, 3, 62, 29, 42, 180, 0, 37, 180, 0, 69, 28, 46, 162, 0, 35, 42, 180, 0, 37, 180, 0, 72, 28, 50, 29, 46, 54, 4]
set_option maxRecDepth 20000 in
theorem kc_cX6_firstIn_0 : (cX6_firstIn.data.toList.drop 0).take 35 = ch_cX6_firstIn_0 := by decide +kernel
def ch_cX6_firstIn_1 : List UInt8 := [46, 54, 4, 42, 180, 0, 22, 21, 4, 51, 153, 0, 6, 21, 4, 172, 132, 3, 1, 167, 255, 214, 16, 247, 172]
set_option maxRecDepth 20000 in
theorem kc_cX6_firstIn_1 : (cX6_firstIn.data.toList.drop 32).take 35 = ch_cX6_firstIn_1 := by decide +kernel
def ch_cX6_greatestIn_0 : List UInt8 := [16, 247, 60, 3, 61, 28, 42, 180, 0, 33, 180, 0, 78, 162, 0, 45, 42, 180, 0, 33, 180, 0, 79, 28, 46, 62, 42, 180, 0, 22, 29, 51, 153, 0, 20]
set_option maxRecDepth 20000 in
theorem kc_cX6_greatestIn_0 : (cX6_greatestIn.data.toList.drop 0).take 35 = ch_cX6_greatestIn_0 := by decide +kernel
def ch_cX6_greatestIn_1 : List UInt8 := [153, 0, 20, 27, 16, 247, 159, 0, 12, 42, 29, 27, 182, 0, 81, 158, 0, 5, 29, 60, 132, 2, 1, 167, 255, 206, 27, 172]
set_option maxRecDepth 20000 in
theorem kc_cX6_greatestIn_1 : (cX6_greatestIn.data.toList.drop 32).take 35 = ch_cX6_greatestIn_1 := by decide +kernel
def ch_cX6_init_0 : List UInt8 := [42, 183, 0, 3, 42, 16, 40, 188, 10, 181, 0, 9, 42, 3, 181, 0, 15, 42, 3, 181, 0, 19, 42, 16, 10, 188, 4, 181, 0, 22, 42, 16, 10, 188, 11]
set_option maxRecDepth 20000 in
theorem kc_cX6_init_0 : (cX6_init.data.toList.drop 0).take 35 = ch_cX6_init_0 := by decide +kernel
def ch_cX6_init_1 : List UInt8 := [10, 188, 11, 181, 0, 26, 42, 16, 10, 188, 11, 181, 0, 30, 42, 43, 181, 0, 33, 42, 44, 181, 0, 37, 177]
set_option maxRecDepth 20000 in
theorem kc_cX6_init_1 : (cX6_init.data.toList.drop 32).take 35 = ch_cX6_init_1 := by decide +kernel
def ch_cX6_leastIn_0 : List UInt8 := [16, 247, 60, 3, 61, 28, 42, 180, 0, 33, 180, 0, 78, 162, 0, 45, 42, 180, 0, 33, 180, 0, 79, 28, 46, 62, 42, 180, 0, 22, 29, 51, 153, 0, 20]
set_option maxRecDepth 20000 in
theorem kc_cX6_leastIn_0 : (cX6_leastIn.data.toList.drop 0).take 35 = ch_cX6_leastIn_0 := by decide +kernel
def ch_cX6_leastIn_1 : List UInt8 := [153, 0, 20, 27, 16, 247, 159, 0, 12, 42, 29, 27, 182, 0, 81, 157, 0, 5, 29, 60, 132, 2, 1, 167, 255, 206, 27, 172]
set_option maxRecDepth 20000 in
theorem kc_cX6_leastIn_1 : (cX6_leastIn.data.toList.drop 32).take 35 = ch_cX6_leastIn_1 := by decide +kernel
def ch_cX6_manyIn_0 : List UInt8 := [3, 60, 3, 61, 28, 16, 10, 162, 0, 26, 27, 42, 180, 0, 22, 28, 51, 153, 0, 7, 4, 167, 0, 4, 3, 96, 60, 132, 2, 1, 167, 255, 230, 27, 172]
set_option maxRecDepth 20000 in
theorem kc_cX6_manyIn_0 : (cX6_manyIn.data.toList.drop 0).take 35 = ch_cX6_manyIn_0 := by decide +kernel
def ch_cX6_manyIn_1 : List UInt8 := [230, 27, 172]
set_option maxRecDepth 20000 in
theorem kc_cX6_manyIn_1 : (cX6_manyIn.data.toList.drop 32).take 35 = ch_cX6_manyIn_1 := by decide +kernel
def ch_cX6_papersOf_0 : List UInt8 := [42, 180, 0, 37, 180, 0, 62, 42, 180, 0, 9, 27, 46, 46, 172]
set_option maxRecDepth 20000 in
theorem kc_cX6_papersOf_0 : (cX6_papersOf.data.toList.drop 0).take 35 = ch_cX6_papersOf_0 := by decide +kernel
def ch_cX6_take_0 : List UInt8 := [42, 29, 181, 0, 19, 42, 3, 181, 0, 15, 3, 54, 4, 21, 4, 43, 180, 0, 41, 28, 46, 162, 0, 56, 42, 180, 0, 37, 43, 180, 0, 46, 28, 50, 21]
set_option maxRecDepth 20000 in
theorem kc_cX6_take_0 : (cX6_take.data.toList.drop 0).take 35 = ch_cX6_take_0 := by decide +kernel
def ch_cX6_take_1 : List UInt8 := [28, 50, 21, 4, 46, 182, 0, 50, 153, 0, 31, 42, 180, 0, 9, 42, 180, 0, 15, 43, 180, 0, 46, 28, 50, 21, 4, 46, 79, 42, 89, 180, 0, 15, 4]
set_option maxRecDepth 20000 in
theorem kc_cX6_take_1 : (cX6_take.data.toList.drop 32).take 35 = ch_cX6_take_1 := by decide +kernel
def ch_cX6_take_2 : List UInt8 := [0, 15, 4, 96, 181, 0, 15, 132, 4, 1, 167, 255, 195, 3, 54, 4, 21, 4, 16, 10, 162, 0, 25, 42, 180, 0, 22, 21, 4, 42, 180, 0, 33, 21, 4]
set_option maxRecDepth 20000 in
theorem kc_cX6_take_2 : (cX6_take.data.toList.drop 64).take 35 = ch_cX6_take_2 := by decide +kernel
def ch_cX6_take_3 : List UInt8 := [33, 21, 4, 182, 0, 56, 84, 132, 4, 1, 167, 255, 230, 42, 182, 0, 59, 177]
set_option maxRecDepth 20000 in
theorem kc_cX6_take_3 : (cX6_take.data.toList.drop 96).take 35 = ch_cX6_take_3 := by decide +kernel
def ch_cX6_tallyFirstIn_0 : List UInt8 := [42, 182, 0, 59, 3, 60, 27, 42, 180, 0, 15, 162, 0, 36, 42, 27, 182, 0, 75, 61, 28, 16, 247, 159, 0, 18, 42, 180, 0, 26, 28, 92, 47, 42, 27]
set_option maxRecDepth 20000 in
theorem kc_cX6_tallyFirstIn_0 : (cX6_tallyFirstIn.data.toList.drop 0).take 35 = ch_cX6_tallyFirstIn_0 := by decide +kernel
def ch_cX6_tallyFirstIn_1 : List UInt8 := [47, 42, 27, 182, 0, 65, 133, 97, 80, 132, 1, 1, 167, 255, 218, 177]
set_option maxRecDepth 20000 in
theorem kc_cX6_tallyFirstIn_1 : (cX6_tallyFirstIn.data.toList.drop 32).take 35 = ch_cX6_tallyFirstIn_1 := by decide +kernel
def ch_cX7_clear_0 : List UInt8 := [42, 3, 181, 0, 9, 42, 3, 181, 0, 19, 177]
set_option maxRecDepth 20000 in
theorem kc_cX7_clear_0 : (cX7_clear.data.toList.drop 0).take 35 = ch_cX7_clear_0 := by decide +kernel
def ch_cX7_give_0 : List UInt8 := [42, 180, 0, 9, 16, 30, 162, 0, 23, 42, 180, 0, 15, 42, 180, 0, 9, 27, 79, 42, 89, 180, 0, 9, 4, 96, 181, 0, 9, 177]
set_option maxRecDepth 20000 in
theorem kc_cX7_give_0 : (cX7_give.data.toList.drop 0).take 35 = ch_cX7_give_0 := by decide +kernel
def ch_cX7_hasRound_0 : List UInt8 := [27, 155, 0, 15, 27, 42, 180, 0, 19, 162, 0, 7, 4, 167, 0, 4, 3, 172]
set_option maxRecDepth 20000 in
theorem kc_cX7_hasRound_0 : (cX7_hasRound.data.toList.drop 0).take 35 = ch_cX7_hasRound_0 := by decide +kernel
def ch_cX7_init_0 : List UInt8 := [42, 183, 0, 3, 42, 3, 181, 0, 9, 42, 16, 30, 188, 10, 181, 0, 15, 42, 3, 181, 0, 19, 42, 16, 30, 188, 10, 181, 0, 22, 42, 16, 30, 188, 10]
set_option maxRecDepth 20000 in
theorem kc_cX7_init_0 : (cX7_init.data.toList.drop 0).take 35 = ch_cX7_init_0 := by decide +kernel
def ch_cX7_init_1 : List UInt8 := [30, 188, 10, 181, 0, 25, 42, 16, 30, 16, 10, 197, 0, 28, 2, 181, 0, 30, 42, 16, 30, 16, 10, 197, 0, 28, 2, 181, 0, 33, 177]
set_option maxRecDepth 20000 in
theorem kc_cX7_init_1 : (cX7_init.data.toList.drop 32).take 35 = ch_cX7_init_1 := by decide +kernel
def ch_cX7_note_0 : List UInt8 := [42, 180, 0, 19, 16, 30, 160, 0, 4, 177, 42, 180, 0, 22, 42, 180, 0, 19, 27, 79, 42, 180, 0, 25, 42, 180, 0, 19, 28, 79, 3, 54, 4, 21, 4]
set_option maxRecDepth 20000 in
theorem kc_cX7_note_0 : (cX7_note.data.toList.drop 0).take 35 = ch_cX7_note_0 := by decide +kernel
def ch_cX7_note_1 : List UInt8 := [4, 21, 4, 16, 10, 162, 0, 47, 42, 180, 0, 30, 42, 180, 0, 19, 50, 21, 4, 45, 180, 0, 36, 21, 4, 47, 80, 42, 180, 0, 33, 42, 180, 0, 19]
set_option maxRecDepth 20000 in
theorem kc_cX7_note_1 : (cX7_note.data.toList.drop 32).take 35 = ch_cX7_note_1 := by decide +kernel
def ch_cX7_note_2 : List UInt8 := [180, 0, 19, 50, 21, 4, 45, 180, 0, 41, 21, 4, 47, 80, 132, 4, 1, 167, 255, 208, 42, 89, 180, 0, 19, 4, 96, 181, 0, 19, 177]
set_option maxRecDepth 20000 in
theorem kc_cX7_note_2 : (cX7_note.data.toList.drop 64).take 35 = ch_cX7_note_2 := by decide +kernel
def ch_cX8_addWeight_0 : List UInt8 := [42, 180, 0, 25, 42, 180, 0, 29, 180, 0, 74, 28, 47, 42, 180, 0, 29, 180, 0, 77, 28, 47, 182, 0, 80, 42, 180, 0, 25, 42, 180, 0, 9, 27, 47]
set_option maxRecDepth 20000 in
theorem kc_cX8_addWeight_0 : (cX8_addWeight.data.toList.drop 0).take 35 = ch_cX8_addWeight_0 := by decide +kernel
def ch_cX8_addWeight_1 : List UInt8 := [9, 27, 47, 42, 180, 0, 15, 27, 47, 182, 0, 84, 42, 180, 0, 29, 180, 0, 74, 28, 42, 180, 0, 25, 180, 0, 87, 80, 42, 180, 0, 29, 180, 0, 77]
set_option maxRecDepth 20000 in
theorem kc_cX8_addWeight_1 : (cX8_addWeight.data.toList.drop 32).take 35 = ch_cX8_addWeight_1 := by decide +kernel
def ch_cX8_addWeight_2 : List UInt8 := [180, 0, 77, 28, 42, 180, 0, 25, 180, 0, 90, 80, 42, 180, 0, 25, 182, 0, 92, 172]
set_option maxRecDepth 20000 in
theorem kc_cX8_addWeight_2 : (cX8_addWeight.data.toList.drop 64).take 35 = ch_cX8_addWeight_2 := by decide +kernel
def ch_cX8_endRound_0 : List UInt8 := [42, 180, 0, 29, 182, 0, 95, 42, 180, 0, 29, 180, 0, 43, 25, 4, 180, 0, 50, 100, 163, 0, 7, 4, 167, 0, 4, 3, 54, 5, 42, 180, 0, 29, 180]
set_option maxRecDepth 20000 in
theorem kc_cX8_endRound_0 : (cX8_endRound.data.toList.drop 0).take 35 = ch_cX8_endRound_0 := by decide +kernel
def ch_cX8_endRound_1 : List UInt8 := [0, 29, 180, 0, 74, 27, 47, 32, 42, 180, 0, 29, 180, 0, 77, 27, 47, 105, 148, 155, 0, 7, 4, 167, 0, 4, 3, 54, 6, 21, 5, 154, 0, 22, 21]
set_option maxRecDepth 20000 in
theorem kc_cX8_endRound_1 : (cX8_endRound.data.toList.drop 32).take 35 = ch_cX8_endRound_1 := by decide +kernel
def ch_cX8_endRound_2 : List UInt8 := [0, 22, 21, 6, 154, 0, 17, 42, 42, 180, 0, 29, 182, 0, 98, 25, 4, 182, 0, 101, 172, 25, 4, 4, 27, 42, 180, 0, 29, 182, 0, 105, 25, 4, 27]
set_option maxRecDepth 20000 in
theorem kc_cX8_endRound_2 : (cX8_endRound.data.toList.drop 64).take 35 = ch_cX8_endRound_2 := by decide +kernel
def ch_cX8_endRound_3 : List UInt8 := [25, 4, 27, 182, 0, 109, 42, 180, 0, 29, 180, 0, 113, 27, 3, 84, 21, 5, 154, 0, 12, 42, 27, 32, 182, 0, 117, 153, 0, 7, 4, 167, 0, 4, 3]
set_option maxRecDepth 20000 in
theorem kc_cX8_endRound_3 : (cX8_endRound.data.toList.drop 96).take 35 = ch_cX8_endRound_3 := by decide +kernel
def ch_cX8_endRound_4 : List UInt8 := [0, 4, 3, 172]
set_option maxRecDepth 20000 in
theorem kc_cX8_endRound_4 : (cX8_endRound.data.toList.drop 128).take 35 = ch_cX8_endRound_4 := by decide +kernel
def ch_cX8_init_0 : List UInt8 := [42, 183, 0, 3, 42, 16, 40, 188, 11, 181, 0, 9, 42, 16, 40, 188, 11, 181, 0, 15, 42, 16, 40, 188, 10, 181, 0, 18, 42, 187, 0, 22, 89, 183, 0]
set_option maxRecDepth 20000 in
theorem kc_cX8_init_0 : (cX8_init.data.toList.drop 0).take 35 = ch_cX8_init_0 := by decide +kernel
def ch_cX8_init_1 : List UInt8 := [89, 183, 0, 24, 181, 0, 25, 42, 43, 181, 0, 29, 177]
set_option maxRecDepth 20000 in
theorem kc_cX8_init_1 : (cX8_init.data.toList.drop 32).take 35 = ch_cX8_init_1 := by decide +kernel
def ch_cX8_leaveOut_0 : List UInt8 := [27, 16, 247, 160, 0, 5, 3, 172, 44, 5, 27, 42, 180, 0, 29, 182, 0, 105, 42, 180, 0, 29, 180, 0, 113, 27, 3, 84, 4, 172]
set_option maxRecDepth 20000 in
theorem kc_cX8_leaveOut_0 : (cX8_leaveOut.data.toList.drop 0).take 35 = ch_cX8_leaveOut_0 := by decide +kernel
def ch_cX8_passOn_0 : List UInt8 := [42, 180, 0, 29, 180, 0, 74, 27, 47, 55, 4, 42, 180, 0, 29, 180, 0, 77, 27, 47, 55, 6, 42, 180, 0, 25, 22, 4, 32, 22, 6, 105, 101, 22, 6]
set_option maxRecDepth 20000 in
theorem kc_cX8_passOn_0 : (cX8_passOn.data.toList.drop 0).take 35 = ch_cX8_passOn_0 := by decide +kernel
def ch_cX8_passOn_1 : List UInt8 := [101, 22, 6, 182, 0, 80, 42, 180, 0, 25, 182, 0, 92, 154, 0, 5, 3, 172, 42, 180, 0, 25, 22, 6, 22, 4, 182, 0, 121, 42, 180, 0, 25, 182, 0]
set_option maxRecDepth 20000 in
theorem kc_cX8_passOn_1 : (cX8_passOn.data.toList.drop 32).take 35 = ch_cX8_passOn_1 := by decide +kernel
def ch_cX8_passOn_2 : List UInt8 := [25, 182, 0, 92, 154, 0, 5, 3, 172, 42, 180, 0, 25, 180, 0, 87, 55, 8, 42, 180, 0, 25, 180, 0, 90, 55, 10, 4, 54, 12, 3, 54, 13, 21, 13]
set_option maxRecDepth 20000 in
theorem kc_cX8_passOn_2 : (cX8_passOn.data.toList.drop 64).take 35 = ch_cX8_passOn_2 := by decide +kernel
def ch_cX8_passOn_3 : List UInt8 := [13, 21, 13, 42, 180, 0, 29, 180, 0, 33, 162, 0, 94, 21, 12, 153, 0, 89, 42, 180, 0, 18, 21, 13, 46, 27, 160, 0, 72, 42, 180, 0, 25, 42, 180]
set_option maxRecDepth 20000 in
theorem kc_cX8_passOn_3 : (cX8_passOn.data.toList.drop 96).take 35 = ch_cX8_passOn_3 := by decide +kernel
def ch_cX8_passOn_4 : List UInt8 := [25, 42, 180, 0, 9, 21, 13, 47, 42, 180, 0, 15, 21, 13, 47, 182, 0, 80, 42, 180, 0, 25, 22, 8, 22, 10, 182, 0, 121, 42, 180, 0, 9, 21, 13]
set_option maxRecDepth 20000 in
theorem kc_cX8_passOn_4 : (cX8_passOn.data.toList.drop 128).take 35 = ch_cX8_passOn_4 := by decide +kernel
def ch_cX8_passOn_5 : List UInt8 := [9, 21, 13, 42, 180, 0, 25, 180, 0, 87, 80, 42, 180, 0, 15, 21, 13, 42, 180, 0, 25, 180, 0, 90, 80, 42, 180, 0, 25, 182, 0, 92, 54, 12, 132]
set_option maxRecDepth 20000 in
theorem kc_cX8_passOn_5 : (cX8_passOn.data.toList.drop 160).take 35 = ch_cX8_passOn_5 := by decide +kernel
def ch_cX8_passOn_6 : List UInt8 := [54, 12, 132, 13, 1, 167, 255, 156, 21, 12, 172]
set_option maxRecDepth 20000 in
theorem kc_cX8_passOn_6 : (cX8_passOn.data.toList.drop 192).take 35 = ch_cX8_passOn_6 := by decide +kernel
def ch_cX8_seatByQuota_0 : List UInt8 := [3, 61, 28, 42, 180, 0, 29, 180, 0, 33, 162, 0, 31, 42, 180, 0, 9, 28, 42, 180, 0, 29, 28, 182, 0, 39, 133, 80, 42, 180, 0, 15, 28, 10, 80]
set_option maxRecDepth 20000 in
theorem kc_cX8_seatByQuota_0 : (cX8_seatByQuota.data.toList.drop 0).take 35 = ch_cX8_seatByQuota_0 := by decide +kernel
def ch_cX8_seatByQuota_1 : List UInt8 := [28, 10, 80, 132, 2, 1, 167, 255, 220, 42, 180, 0, 29, 180, 0, 43, 4, 162, 0, 7, 10, 167, 0, 23, 42, 180, 0, 29, 182, 0, 46, 42, 180, 0, 29]
set_option maxRecDepth 20000 in
theorem kc_cX8_seatByQuota_1 : (cX8_seatByQuota.data.toList.drop 32).take 35 = ch_cX8_seatByQuota_1 := by decide +kernel
def ch_cX8_seatByQuota_2 : List UInt8 := [180, 0, 29, 180, 0, 43, 4, 96, 108, 4, 96, 133, 65, 3, 54, 4, 21, 4, 16, 10, 162, 0, 64, 43, 180, 0, 50, 42, 180, 0, 29, 180, 0, 43, 162]
set_option maxRecDepth 20000 in
theorem kc_cX8_seatByQuota_2 : (cX8_seatByQuota.data.toList.drop 64).take 35 = ch_cX8_seatByQuota_2 := by decide +kernel
def ch_cX8_seatByQuota_3 : List UInt8 := [0, 43, 162, 0, 50, 42, 182, 0, 53, 153, 0, 13, 42, 180, 0, 29, 182, 0, 57, 167, 0, 5, 16, 247, 54, 5, 21, 5, 16, 247, 159, 0, 14, 42, 21]
set_option maxRecDepth 20000 in
theorem kc_cX8_seatByQuota_3 : (cX8_seatByQuota.data.toList.drop 96).take 35 = ch_cX8_seatByQuota_3 := by decide +kernel
def ch_cX8_seatByQuota_4 : List UInt8 := [14, 42, 21, 5, 32, 43, 182, 0, 60, 154, 0, 5, 3, 172, 132, 4, 1, 167, 255, 191, 4, 172]
set_option maxRecDepth 20000 in
theorem kc_cX8_seatByQuota_4 : (cX8_seatByQuota.data.toList.drop 128).take 35 = ch_cX8_seatByQuota_4 := by decide +kernel
def ch_cX8_tallyWeights_0 : List UInt8 := [42, 180, 0, 29, 182, 0, 64, 3, 60, 27, 42, 180, 0, 29, 180, 0, 33, 162, 0, 42, 42, 180, 0, 29, 27, 182, 0, 67, 61, 42, 180, 0, 18, 27, 28]
set_option maxRecDepth 20000 in
theorem kc_cX8_tallyWeights_0 : (cX8_tallyWeights.data.toList.drop 0).take 35 = ch_cX8_tallyWeights_0 := by decide +kernel
def ch_cX8_tallyWeights_1 : List UInt8 := [18, 27, 28, 79, 28, 16, 247, 159, 0, 14, 42, 27, 28, 182, 0, 70, 154, 0, 5, 3, 172, 132, 1, 1, 167, 255, 209, 4, 172]
set_option maxRecDepth 20000 in
theorem kc_cX8_tallyWeights_1 : (cX8_tallyWeights.data.toList.drop 32).take 35 = ch_cX8_tallyWeights_1 := by decide +kernel
def ch_cX9_addBallot_0 : List UInt8 := [42, 180, 0, 23, 180, 0, 77, 180, 0, 81, 61, 42, 180, 0, 23, 27, 182, 0, 84, 62, 3, 54, 4, 21, 4, 28, 162, 0, 37, 42, 180, 0, 9, 21, 4]
set_option maxRecDepth 20000 in
theorem kc_cX9_addBallot_0 : (cX9_addBallot.data.toList.drop 0).take 35 = ch_cX9_addBallot_0 := by decide +kernel
def ch_cX9_addBallot_1 : List UInt8 := [9, 21, 4, 42, 180, 0, 23, 180, 0, 87, 42, 180, 0, 23, 180, 0, 91, 27, 46, 21, 4, 182, 0, 94, 79, 132, 4, 1, 167, 255, 219, 3, 54, 4, 21]
set_option maxRecDepth 20000 in
theorem kc_cX9_addBallot_1 : (cX9_addBallot.data.toList.drop 32).take 35 = ch_cX9_addBallot_1 := by decide +kernel
def ch_cX9_addBallot_2 : List UInt8 := [54, 4, 21, 4, 28, 162, 0, 59, 3, 54, 5, 21, 5, 28, 162, 0, 44, 42, 180, 0, 17, 21, 4, 50, 21, 5, 92, 46, 42, 180, 0, 9, 21, 4, 46]
set_option maxRecDepth 20000 in
theorem kc_cX9_addBallot_2 : (cX9_addBallot.data.toList.drop 64).take 35 = ch_cX9_addBallot_2 := by decide +kernel
def ch_cX9_addBallot_3 : List UInt8 := [21, 4, 46, 42, 180, 0, 9, 21, 5, 46, 162, 0, 7, 29, 167, 0, 4, 3, 96, 79, 132, 5, 1, 167, 255, 212, 132, 4, 1, 167, 255, 197, 177]
set_option maxRecDepth 20000 in
theorem kc_cX9_addBallot_3 : (cX9_addBallot.data.toList.drop 96).take 35 = ch_cX9_addBallot_3 := by decide +kernel
def ch_cX9_addBallot_4 : List UInt8 := [177]
set_option maxRecDepth 20000 in
theorem kc_cX9_addBallot_4 : (cX9_addBallot.data.toList.drop 128).take 35 = ch_cX9_addBallot_4 := by decide +kernel
def ch_cX9_beginWays_0 : List UInt8 := [42, 180, 0, 23, 180, 0, 77, 180, 0, 81, 60, 3, 61, 28, 27, 162, 0, 61, 3, 62, 29, 27, 162, 0, 48, 42, 180, 0, 20, 28, 50, 29, 42, 180, 0]
set_option maxRecDepth 20000 in
theorem kc_cX9_beginWays_0 : (cX9_beginWays.data.toList.drop 0).take 35 = ch_cX9_beginWays_0 := by decide +kernel
def ch_cX9_beginWays_1 : List UInt8 := [42, 180, 0, 17, 28, 50, 29, 46, 42, 180, 0, 17, 29, 50, 28, 46, 164, 0, 14, 42, 180, 0, 17, 28, 50, 29, 46, 167, 0, 4, 3, 79, 132, 3, 1]
set_option maxRecDepth 20000 in
theorem kc_cX9_beginWays_1 : (cX9_beginWays.data.toList.drop 32).take 35 = ch_cX9_beginWays_1 := by decide +kernel
def ch_cX9_beginWays_2 : List UInt8 := [132, 3, 1, 167, 255, 209, 132, 2, 1, 167, 255, 196, 177]
set_option maxRecDepth 20000 in
theorem kc_cX9_beginWays_2 : (cX9_beginWays.data.toList.drop 64).take 35 = ch_cX9_beginWays_2 := by decide +kernel
def ch_cX9_compareAll_0 : List UInt8 := [3, 60, 27, 16, 10, 162, 0, 32, 3, 61, 28, 16, 10, 162, 0, 18, 42, 180, 0, 17, 27, 50, 28, 3, 79, 132, 2, 1, 167, 255, 238, 132, 1, 1, 167]
set_option maxRecDepth 20000 in
theorem kc_cX9_compareAll_0 : (cX9_compareAll.data.toList.drop 0).take 35 = ch_cX9_compareAll_0 := by decide +kernel
def ch_cX9_compareAll_1 : List UInt8 := [1, 1, 167, 255, 224, 3, 60, 27, 42, 180, 0, 23, 180, 0, 71, 162, 0, 14, 42, 27, 182, 0, 74, 132, 1, 1, 167, 255, 237, 177]
set_option maxRecDepth 20000 in
theorem kc_cX9_compareAll_1 : (cX9_compareAll.data.toList.drop 32).take 35 = ch_cX9_compareAll_1 := by decide +kernel
def ch_cX9_firstUnbeaten_0 : List UInt8 := [3, 60, 27, 42, 180, 0, 23, 180, 0, 77, 180, 0, 81, 162, 0, 44, 42, 180, 0, 23, 180, 0, 77, 180, 0, 108, 27, 46, 61, 42, 180, 0, 23, 180, 0]
set_option maxRecDepth 20000 in
theorem kc_cX9_firstUnbeaten_0 : (cX9_firstUnbeaten.data.toList.drop 0).take 35 = ch_cX9_firstUnbeaten_0 := by decide +kernel
def ch_cX9_firstUnbeaten_1 : List UInt8 := [23, 180, 0, 67, 28, 51, 153, 0, 13, 42, 28, 182, 0, 111, 153, 0, 5, 28, 172, 132, 1, 1, 167, 255, 204, 16, 247, 172]
set_option maxRecDepth 20000 in
theorem kc_cX9_firstUnbeaten_1 : (cX9_firstUnbeaten.data.toList.drop 32).take 35 = ch_cX9_firstUnbeaten_1 := by decide +kernel
def ch_cX9_init_0 : List UInt8 := [42, 183, 0, 3, 42, 16, 10, 188, 10, 181, 0, 9, 42, 16, 10, 16, 10, 197, 0, 15, 2, 181, 0, 17, 42, 16, 10, 16, 10, 197, 0, 15, 2, 181, 0]
set_option maxRecDepth 20000 in
theorem kc_cX9_init_0 : (cX9_init.data.toList.drop 0).take 35 = ch_cX9_init_0 := by decide +kernel
def ch_cX9_init_1 : List UInt8 := [2, 181, 0, 20, 42, 43, 181, 0, 23, 177]
set_option maxRecDepth 20000 in
theorem kc_cX9_init_1 : (cX9_init.data.toList.drop 32).take 35 = ch_cX9_init_1 := by decide +kernel
def ch_cX9_isUnbeaten_0 : List UInt8 := [3, 61, 28, 42, 180, 0, 23, 180, 0, 77, 180, 0, 81, 162, 0, 42, 42, 180, 0, 23, 180, 0, 67, 28, 51, 153, 0, 24, 42, 180, 0, 20, 28, 50, 27]
set_option maxRecDepth 20000 in
theorem kc_cX9_isUnbeaten_0 : (cX9_isUnbeaten.data.toList.drop 0).take 35 = ch_cX9_isUnbeaten_0 := by decide +kernel
def ch_cX9_isUnbeaten_1 : List UInt8 := [28, 50, 27, 46, 42, 180, 0, 20, 27, 50, 28, 46, 164, 0, 5, 3, 172, 132, 2, 1, 167, 255, 206, 4, 172]
set_option maxRecDepth 20000 in
theorem kc_cX9_isUnbeaten_1 : (cX9_isUnbeaten.data.toList.drop 32).take 35 = ch_cX9_isUnbeaten_1 := by decide +kernel
def ch_cX9_leastWay_0 : List UInt8 := [16, 247, 61, 3, 62, 29, 42, 180, 0, 23, 180, 0, 77, 180, 0, 81, 162, 0, 65, 29, 27, 159, 0, 19, 42, 180, 0, 23, 180, 0, 67, 29, 51, 153, 0]
set_option maxRecDepth 20000 in
theorem kc_cX9_leastWay_0 : (cX9_leastWay.data.toList.drop 0).take 35 = ch_cX9_leastWay_0 := by decide +kernel
def ch_cX9_leastWay_1 : List UInt8 := [51, 153, 0, 7, 4, 167, 0, 4, 3, 54, 4, 21, 4, 153, 0, 30, 28, 16, 247, 159, 0, 15, 42, 180, 0, 20, 27, 50, 29, 46, 28, 162, 0, 12, 42]
set_option maxRecDepth 20000 in
theorem kc_cX9_leastWay_1 : (cX9_leastWay.data.toList.drop 32).take 35 = ch_cX9_leastWay_1 := by decide +kernel
def ch_cX9_leastWay_2 : List UInt8 := [0, 12, 42, 180, 0, 20, 27, 50, 29, 46, 61, 132, 3, 1, 167, 255, 183, 28, 16, 247, 160, 0, 7, 3, 167, 0, 4, 28, 172]
set_option maxRecDepth 20000 in
theorem kc_cX9_leastWay_2 : (cX9_leastWay.data.toList.drop 64).take 35 = ch_cX9_leastWay_2 := by decide +kernel
def ch_cX9_seatByWays_0 : List UInt8 := [42, 182, 0, 27, 42, 182, 0, 30, 42, 182, 0, 33, 3, 61, 28, 42, 180, 0, 23, 180, 0, 36, 162, 0, 68, 42, 182, 0, 42, 62, 29, 16, 247, 160, 0]
set_option maxRecDepth 20000 in
theorem kc_cX9_seatByWays_0 : (cX9_seatByWays.data.toList.drop 0).take 35 = ch_cX9_seatByWays_0 := by decide +kernel
def ch_cX9_seatByWays_1 : List UInt8 := [247, 160, 0, 4, 177, 42, 180, 0, 23, 182, 0, 46, 42, 180, 0, 23, 180, 0, 49, 29, 42, 29, 182, 0, 53, 133, 80, 43, 4, 29, 42, 180, 0, 23, 182]
set_option maxRecDepth 20000 in
theorem kc_cX9_seatByWays_1 : (cX9_seatByWays.data.toList.drop 32).take 35 = ch_cX9_seatByWays_1 := by decide +kernel
def ch_cX9_seatByWays_2 : List UInt8 := [0, 23, 182, 0, 57, 43, 29, 182, 0, 63, 42, 180, 0, 23, 180, 0, 67, 29, 3, 84, 132, 2, 1, 167, 255, 183, 177]
set_option maxRecDepth 20000 in
theorem kc_cX9_seatByWays_2 : (cX9_seatByWays.data.toList.drop 64).take 35 = ch_cX9_seatByWays_2 := by decide +kernel
def ch_cX9_strengthenWays_0 : List UInt8 := [42, 180, 0, 23, 180, 0, 77, 180, 0, 81, 60, 3, 61, 28, 27, 162, 0, 78, 3, 62, 29, 27, 162, 0, 65, 3, 54, 4, 21, 4, 27, 162, 0, 50, 42]
set_option maxRecDepth 20000 in
theorem kc_cX9_strengthenWays_0 : (cX9_strengthenWays.data.toList.drop 0).take 35 = ch_cX9_strengthenWays_0 := by decide +kernel
def ch_cX9_strengthenWays_1 : List UInt8 := [0, 50, 42, 180, 0, 20, 29, 50, 21, 4, 42, 180, 0, 20, 29, 50, 21, 4, 46, 42, 180, 0, 20, 29, 50, 28, 46, 42, 180, 0, 20, 28, 50, 21, 4]
set_option maxRecDepth 20000 in
theorem kc_cX9_strengthenWays_1 : (cX9_strengthenWays.data.toList.drop 32).take 35 = ch_cX9_strengthenWays_1 := by decide +kernel
def ch_cX9_strengthenWays_2 : List UInt8 := [50, 21, 4, 46, 184, 0, 100, 184, 0, 105, 79, 132, 4, 1, 167, 255, 206, 132, 3, 1, 167, 255, 192, 132, 2, 1, 167, 255, 179, 177]
set_option maxRecDepth 20000 in
theorem kc_cX9_strengthenWays_2 : (cX9_strengthenWays.data.toList.drop 64).take 35 = ch_cX9_strengthenWays_2 := by decide +kernel
