/-! a new object, in numbers -/
def sg0 : Sg := (1, fun _ => 0, fun _ => 0, fun _ => 0, fun _ => 0, fun _ => 0, 0, fun _ => 0, fun _ => 0, fun _ => 0, fun _ => false, -1)
def cx0 (q : Nat) : Cx := (false, 0, fun _ => 0, false, 0, fun _ => 0, false, 0, fun _ => 0, false, 0, fun _ => 0, false, 0, fun _ => 0, q, 0, nA (fun _ => 0), fun _ => 0)
theorem WF_0 : WF sg0 := ⟨by decide, by decide, fun i h1 h2 => absurd (show i < 1 from h2) (by omega), fun _ => by show 0 < 12; decide, fun _ => by show 0 < 4; decide, fun _ => by show 0 ≤ 1000; decide, fun _ => by show 0 ≤ 1000; decide, fun _ => by show 0 < 3; decide, fun _ _ => rfl, by decide, fun _ => by show 0 < 2; decide, fun _ => by show 0 < 12; decide, fun _ => by show 0 < 12; decide⟩
theorem COK_0 (q : Nat) : COK sg0 (cx0 q) := ⟨WF_0, fun z => absurd (show false = true from z) Bool.false_ne_true, fun z => absurd (show false = true from z) Bool.false_ne_true, fun z => absurd (show false = true from z) Bool.false_ne_true, fun z => absurd (show false = true from z) Bool.false_ne_true, fun z => absurd (show false = true from z) Bool.false_ne_true, Or.inl rfl⟩
theorem off_0 : offS sg0 = fun _ => 0 := funext (fun f => bit_ext (fun i => by
  rw [offS_bit, Nat.zero_testBit]
  show (decide (i < 1) && (decide (1 ≤ i) && _)) = false
  by_cases h : i < 1
  · rw [decide_eq_false (show ¬ 1 ≤ i by omega), Bool.false_and, Bool.and_false]
  · rw [decide_eq_false h, Bool.false_and]))
theorem ch_0 (r : Nat) : chS sg0 r = fun _ => 0 := funext (fun f => bit_ext (fun i => by
  rw [chS_bit, Nat.zero_testBit]
  show (decide (i < 1) && (decide (1 ≤ i) && _)) = false
  by_cases h : i < 1
  · rw [decide_eq_false (show ¬ 1 ≤ i by omega), Bool.false_and, Bool.and_false]
  · rw [decide_eq_false h, Bool.false_and]))
theorem dec_0 {e : Nat} (he : e ≠ 0) : decM (sD sg0) e (sN sg0) = 0 := bit_ext (fun i => by
  unfold decM
  rw [maskN_bit, Nat.zero_testBit]
  show (_ && decide ((0 : Nat) = e)) = false
  rw [show decide ((0 : Nat) = e) = false from decide_eq_false (fun z => he z.symm), Bool.and_false])
theorem on_0 : onS sg0 = 0 := rfl
theorem in_0 : inS sg0 = 0 := dec_0 (by decide)
theorem ou_0 : ouS sg0 = 0 := dec_0 (by decide)
