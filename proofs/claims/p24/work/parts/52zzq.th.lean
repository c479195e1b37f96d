/-! the answers, as both give them -/
section
variable {np nl lj pj : Nat} {li wo de su : Nat → Nat} {it ki to : Nat → Int32} {ru : Int32} {ag lim lam : Nat → Nat} {p0 p1 p2 s : Int32}
/-- by the other rule -/
def A_ot (np nl : Nat) (li wo de su : Nat → Nat) (it ki to : Nat → Int32) (ru : Int32) (ag lim lam : Nat → Nat) (p0 p1 : Int32) : Int32 := if (0 ≤ p0 ∧ p0 ≤ nI nl - 1) ∧ (0 ≤ p1 ∧ p1 ≤ nI np - 1) then nI (SHN li wo de su it ki to (1 - ru) (nI (2 ^ np - 1)) ag lim lam (Int32.toNatClampNeg p0) (Int32.toNatClampNeg p1)) else -1
theorem a_ot_y (h : (0 ≤ p0 ∧ p0 ≤ nI nl - 1) ∧ (0 ≤ p1 ∧ p1 ≤ nI np - 1)) (e0 : p0 = nI lj) (e1 : p1 = nI pj) (hj : lj < 2 ^ 31) (hp : pj < 2 ^ 31) (es : s = 1 - ru) : nI (SHN li wo de su it ki to s (nI (2 ^ np - 1)) ag lim lam lj pj) = A_ot np nl li wo de su it ki to ru ag lim lam p0 p1 := by
  unfold A_ot
  rw [if_pos h, e0, e1, nI_clamp hj, nI_clamp hp, es]
end
section
variable {np nl lj pj tl tt : Nat} {li wo de su : Nat → Nat} {it ki to : Nat → Int32} {ru s inn out v : Int32} {ag lim lam : Nat → Nat} {p0 p1 : Int32} {S6 S8 S9 S10 S11 W1 W2 W3 W4 G19 G20 G21 G23 G24 G25 G26 G27 G33 G34 : Nat → Int32}
theorem ot_c (h : (0 ≤ p0 ∧ p0 ≤ nI nl - 1) ∧ (0 ≤ p1 ∧ p1 ≤ nI np - 1)) (e0 : p0 = nI lj) (e1 : p1 = nI pj) (hj : lj < 2 ^ 31) (hp : pj < 8) (ev : v = S10 (Int32.toNatClampNeg (nI pj))) (hL : LCS li wo de su it ki to s (nI (2 ^ np - 1)) (LFN li wo de su it ki to s (nI (2 ^ np - 1)) ag lim lam lj) (lim lj) (lam lj) S6 S8 S9 S10 S11 W1 W2 W3 W4 inn out tl tt) (es : s = 1 - ru) : v = A_ot np nl li wo de su it ki to ru ag lim lam p0 p1 := by
  rw [← a_ot_y h e0 e1 hj (by omega) es, ev, nI_clamp (by omega)]
  exact lcs_sh hL hp
theorem ot_m (h : (0 ≤ p0 ∧ p0 ≤ nI nl - 1) ∧ (0 ≤ p1 ∧ p1 ≤ nI np - 1)) (e0 : p0 = nI lj) (e1 : p1 = nI pj) (hj : lj < 2 ^ 31) (hp : pj < 8) (ev : v = G27 (Int32.toNatClampNeg (nI pj))) (hL : LM li wo de su it ki to s (nI (2 ^ np - 1)) (LFN li wo de su it ki to s (nI (2 ^ np - 1)) ag lim lam lj) (lim lj) (lam lj) G19 G20 G21 G23 G24 G25 G26 G27 G33 G34 inn out tl tt) (es : s = 1 - ru) : v = A_ot np nl li wo de su it ki to ru ag lim lam p0 p1 := by
  rw [← a_ot_y h e0 e1 hj (by omega) es, ev, nI_clamp (by omega)]
  exact lm_sh hL hp
end
