theorem q64_or {a b : Nat} (hab : a ≤ b) (h0 : 0 < b) (hb : b ≤ 1000000) : PBD a b = 0 ∨ (4503599627370496 ≤ PBD a b ∧ PBD a b ≤ 1023 * 4503599627370496) := by
  rcases Nat.eq_zero_or_pos a with z | z
  · left; rw [z]; exact q64_0 h0 hb
  · right; have h := q64_y z hab hb; omega
def A2 (np nl : Nat) (p0 p1 v : Int32) : Int32 := if (0 ≤ p0 ∧ p0 ≤ nI nl - 1) ∧ (0 ≤ p1 ∧ p1 ≤ nI np - 1) then v else -1
def A2J (np nl : Nat) (p0 p1 : Int32) (v : Int64) : Int64 := if (0 ≤ p0 ∧ p0 ≤ nI nl - 1) ∧ (0 ≤ p1 ∧ p1 ≤ nI np - 1) then v else -1
section
variable {np nl lj pj : Nat} {p0 p1 : Int32}
theorem a2j_n {v : Int64} (h : ¬ ((0 ≤ p0 ∧ p0 ≤ nI nl - 1) ∧ (0 ≤ p1 ∧ p1 ≤ nI np - 1))) : -1 = A2J np nl p0 p1 v := (if_neg h).symm
theorem a2j_y {v : Int64} (h : (0 ≤ p0 ∧ p0 ≤ nI nl - 1) ∧ (0 ≤ p1 ∧ p1 ≤ nI np - 1)) {F : Nat → Nat → Int64} (e0 : p0 = nI lj) (e1 : p1 = nI pj) (h0 : lj < 2 ^ 31) (h1 : pj < 2 ^ 31) (hv : v = F lj pj) : v = A2J np nl p0 p1 (F (Int32.toNatClampNeg p0) (Int32.toNatClampNeg p1)) := by
  unfold A2J
  rw [if_pos h, e0, e1, nI_clamp h0, nI_clamp h1, hv]
end
section
variable {li wo de su : Nat → Nat} {it ki to : Nat → Int32} {ru th : Int32} {ag lim lam : Nat → Nat} {l p : Nat}
theorem shn_li (hli : ∀ p, p < 8 → li p ≤ 1000000) (hp : p < 8) : SHN li wo de su it ki to ru th ag lim lam l p ≤ li p := by
  have h := shl_le (wo := wo) (de := de) (su := su) (it := it) (ki := ki) (to := to) (ru := ru) (inn := INL li wo de su it ki to ru th ag lim lam l) (lf := LFN li wo de su it ki to ru th ag lim lam l) (im := lim l) (am := lam l) hli hp (NLL li wo de su it ki to ru th ag lim lam l)
  refine Nat.le_trans h ?_
  by_cases c : bt (INL li wo de su it ki to ru th ag lim lam l) p = true ∧ LVL (TT (YI ki to (INL li wo de su it ki to ru th ag lim lam l))) p < NLL li wo de su it ki to ru th ag lim lam l
  · rw [if_pos c]; exact owe_li
  · rw [if_neg c]; exact Nat.zero_le _
end
