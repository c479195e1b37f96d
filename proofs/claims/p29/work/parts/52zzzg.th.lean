/-- what one pays, if nothing was paid -/
def PFT (ki : Nat → Int32) (lo sh : Nat → Nat) (p : Nat) : Nat := if ki p = 0 then lo p else sh p
theorem pft_b {ki : Nat → Int32} {lo sh : Nat → Nat} {p c : Nat} (h1 : lo p ≤ c) (h2 : sh p ≤ lo p) : PFT ki lo sh p ≤ c := by
  unfold PFT
  by_cases q : ki p = 0
  · rw [if_pos q]; exact h1
  · rw [if_neg q]; omega
section
variable {np nl lj pj : Nat} {li wo de su : Nat → Nat} {it ki to : Nat → Int32} {ru : Int32} {ag lim lam : Nat → Nat} {p0 p2 v : Int32} {row : Int64} {pf : Nat → Nat} {tt : Nat}
end
