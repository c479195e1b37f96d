/-! counts -/
theorem pu_y {a : Bool} {q : Prop} [Decidable q] (ha : a = true) (hq : q) : (a && decide q) = true := by rw [ha, decide_eq_true hq]; rfl
theorem pu_1 {a : Bool} {q : Prop} [Decidable q] (ha : ¬ a = true) : ¬ (a && decide q) = true := fun h => by
  cases a
  · exact absurd h (by simp)
  · exact ha rfl
theorem pu_2 {a : Bool} {q : Prop} [Decidable q] (hq : ¬ q) : ¬ (a && decide q) = true := fun h => by
  rw [decide_eq_false hq] at h
  cases a <;> exact absurd h (by simp)
