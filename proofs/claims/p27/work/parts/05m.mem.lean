def M0 : MI := fun k => match k with
  | 0 => fun i => match i with
    | 8 => 125
    | 9 => 191
    | 10 => -9
    | _ => 0
  | 258 => fun i => match i with
    | 26 => -9
    | _ => 0
  | _ => fun _ => 0
def L0 : ML := fun k => match k with
  | 124 => fun i => match i with
    | 1 => 1
    | _ => 0
  | _ => fun _ => 0
theorem M0_z {k : Nat} (h : k ≠ 0) (h2 : k ≠ 258) : M0 k = fun _ => 0 := by
  unfold M0
  split
  · exact absurd rfl h
  · exact absurd rfl h2
  · rfl
theorem L0_z {k : Nat} (h : k ≠ 124) : L0 k = fun _ => 0 := by
  unfold L0
  split
  · exact absurd rfl h
  · rfl
