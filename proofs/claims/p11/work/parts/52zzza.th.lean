def SHT2 (c : Prop) (v : Int32) : Prop := (c ∧ v = 0) ∨ (¬ c ∧ v = 1)
theorem shx_eq {c : Prop} {v w : Int32} (h1 : SHT2 c v) (h2 : SHT2 c w) : v = w := by
  rcases h1 with ⟨a, b⟩ | ⟨a, b⟩ <;> rcases h2 with ⟨x, y⟩ | ⟨x, y⟩
  · rw [b, y]
  · exact absurd a x
  · exact absurd x a
  · rw [b, y]
theorem shx_0 {c : Prop} {v : Int32} (h : SHT2 c v) (e : v = 0) : c := by
  rcases h with ⟨a, b⟩ | ⟨a, b⟩
  · exact a
  · rw [b] at e; exact absurd e (by decide)
theorem n_in {x : Int32} {m : Nat} {h8 : Int32} (e : h8 = nI m) (hm : m < 2 ^ 31) (h : x.toInt < 0 ∨ (m : Int) < x.toInt) : ¬ (0 ≤ x ∧ x ≤ h8) := fun q => by
  subst e
  have h3 := Int32.le_iff_toInt_le.mp q.1
  have h4 := Int32.le_iff_toInt_le.mp q.2
  rw [show Int32.toInt 0 = 0 from rfl] at h3
  rw [nI_toInt hm] at h4
  omega
