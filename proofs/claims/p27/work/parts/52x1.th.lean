/-! what is given back of the premiums -/
theorem r_nz {a : Int32} {q : Nat} (hq : q < 8) : (¬ ((a >>> (nI q &&& 31)) &&& 1 = 0)) ↔ bt a q = true := by
  obtain ⟨n, hn, e⟩ := pk_andE (a >>> (nI q &&& 31)) (m := 1) 1 rfl
  have h := bt_on (a := a) hq
  rw [e] at h ⊢
  have hn2 : n = 0 ∨ n = 1 := by omega
  rcases hn2 with rfl | rfl
  · constructor
    · intro z; exact absurd rfl z
    · intro z; exact absurd (h.mpr z) (by decide)
  · constructor
    · intro _; exact h.mp rfl
    · intro _; decide
theorem r_at {A : Nat → Int32} {j : Nat} {v : Int32} (hj : j < 8) (ev : v = A (Int32.toNatClampNeg (nI j))) : v = A j := by
  rw [nI_clamp (by omega)] at ev; exact ev
theorem r_on {F : Nat → Nat} {h i x : Nat} (e : h = sm F i) (hF : F i = x) : h + x = sm F (i + 1) := by
  show h + x = sm F i + F i
  rw [e, hF]
theorem r_off {F : Nat → Nat} {h i : Nat} (e : h = sm F i) (hF : F i = 0) : h = sm F (i + 1) := by
  show h = sm F i + F i
  rw [e, hF]; rfl
/-- by how much the limits are more than the worth -/
def OV (S : Nat) (w : Int32) : Int64 := if lN S ≤ Int32.toInt64 w then 0 else lN S - Int32.toInt64 w
theorem ov_iff {S : Nat} {w : Int32} (hS : S ≤ 8000000) : 0 < lN S - Int32.toInt64 w ↔ ¬ lN S ≤ Int32.toInt64 w := by
  have h1 : (lN S).toInt = S := lN_toInt (by omega)
  have h2 : (Int32.toInt64 w).toInt = w.toInt := Int32.toInt_toInt64 w
  have h3 := Int32.toInt_lt w
  have h4 := Int32.le_toInt w
  rw [Int64.lt_iff_toInt_lt, Int64.le_iff_toInt_le, Int64.toInt_sub, h1, h2, Int.bmod_eq_of_le (by omega) (by omega), show (0 : Int64).toInt = 0 from rfl]
  omega
theorem ov_c {S : Nat} {w : Int32} {d o x : Int64} (hS : S ≤ 8000000) (ex : x = Int32.toInt64 w) (ed : d = lN S - x) (eo : o = if 0 < d then d else 0) : o = OV S w := by
  subst ex ed eo
  unfold OV
  by_cases c : lN S ≤ Int32.toInt64 w
  · rw [if_pos c, if_neg (fun q => (ov_iff hS).mp q c)]
  · rw [if_neg c, if_pos ((ov_iff hS).mpr c)]
theorem ov_m1 {S : Nat} {w : Int32} {x : Int64} (ex : x = Int32.toInt64 w) (c : lN S ≤ x) : 0 = OV S w := by
  subst ex
  unfold OV; rw [if_pos c]
theorem ov_m2 {S : Nat} {w : Int32} {d x y : Int64} (ex : x = Int32.toInt64 w) (c : ¬ lN S ≤ x) (ey : y = Int32.toInt64 w) (ed : d = lN S - y) : d = OV S w := by
  subst ex ed ey
  unfold OV; rw [if_neg c]
def A_re (np : Nat) (li : Nat → Nat) (it B7 B9 : Nat → Int32) (p0 p1 : Int32) : Int32 := if (0 ≤ p1 ∧ p1 ≤ 7) ∧ ¬ B9 (Int32.toNatClampNeg p1) = 0 then (if p0 = -1 then Int64.toInt32 (OV (sm (LF li li it (Int32.toNatClampNeg p1)) np) (B9 (Int32.toNatClampNeg p1))) else if (0 ≤ p0 ∧ p0 ≤ nI np - 1) ∧ bt (it (Int32.toNatClampNeg p0)) (Int32.toNatClampNeg p1) = true then Int64.toInt32 (Int32.toInt64 (B7 (Int32.toNatClampNeg p0)) * OV (sm (LF li li it (Int32.toNatClampNeg p1)) np) (B9 (Int32.toNatClampNeg p1)) / lN (sm (LF li li it (Int32.toNatClampNeg p1)) np)) else -1) else -1
section
variable {np ij pj : Nat} {li : Nat → Nat} {it B7 B9 : Nat → Int32} {p0 p1 w v r : Int32} {o m x q : Int64}
theorem a_re_1 (h : ¬ (0 ≤ p1 ∧ p1 ≤ 7)) : -1 = A_re np li it B7 B9 p0 p1 := (if_neg (fun z => h z.1)).symm
theorem a_re_2 (e1 : p1 = nI ij) (ew : w = B9 (Int32.toNatClampNeg (nI ij))) (h : w = 0) : -1 = A_re np li it B7 B9 p0 p1 := (if_neg (fun z => z.2 (by rw [e1, ← ew, h]))).symm
theorem a_re_3 (hn : ¬ p0 = -1) (h : ¬ (0 ≤ p0 ∧ p0 ≤ nI np - 1)) : -1 = A_re np li it B7 B9 p0 p1 := by
  unfold A_re
  by_cases c : (0 ≤ p1 ∧ p1 ≤ 7) ∧ ¬ B9 (Int32.toNatClampNeg p1) = 0
  · have hx : ¬ ((0 ≤ p0 ∧ p0 ≤ nI np - 1) ∧ bt (it (Int32.toNatClampNeg p0)) (Int32.toNatClampNeg p1) = true) := fun z => h z.1
    rw [if_pos c, if_neg hn, if_neg hx]
  · rw [if_neg c]
theorem a_re_4 (hn : ¬ p0 = -1) (e0 : p0 = nI pj) (e1 : p1 = nI ij) (hp : pj < 8) (hi : ij < 8) (h : ¬ bt (it pj) ij = true) : -1 = A_re np li it B7 B9 p0 p1 := by
  unfold A_re
  by_cases c : (0 ≤ p1 ∧ p1 ≤ 7) ∧ ¬ B9 (Int32.toNatClampNeg p1) = 0
  · have hx : ¬ ((0 ≤ p0 ∧ p0 ≤ nI np - 1) ∧ bt (it (Int32.toNatClampNeg p0)) (Int32.toNatClampNeg p1) = true) := fun z => h (by
      have z2 := z.2
      rw [e0, e1, nI_clamp (by omega), nI_clamp (by omega)] at z2
      exact z2)
    rw [if_pos c, if_neg hn, if_neg hx]
  · rw [if_neg c]
theorem a_re_o (h1 : 0 ≤ p1 ∧ p1 ≤ 7) (e1 : p1 = nI ij) (hi : ij < 8) (ew : w = B9 (Int32.toNatClampNeg (nI ij))) (h2 : ¬ w = 0) (hn : p0 = -1) (eo : o = OV (sm (LF li li it ij) np) (B9 (Int32.toNatClampNeg (nI ij)))) (er : r = Int64.toInt32 o) : r = A_re np li it B7 B9 p0 p1 := by
  unfold A_re
  rw [if_pos ⟨h1, by rw [e1, ← ew]; exact h2⟩, if_pos hn, er, eo, e1, nI_clamp (by omega)]
theorem a_re_y (h1 : 0 ≤ p1 ∧ p1 ≤ 7) (e1 : p1 = nI ij) (hi : ij < 8) (ew : w = B9 (Int32.toNatClampNeg (nI ij))) (h2 : ¬ w = 0) (hn : ¬ p0 = -1) (h0 : 0 ≤ p0 ∧ p0 ≤ nI np - 1) (e0 : p0 = nI pj) (hp : pj < 8) (hb : bt (it pj) ij = true) (eo : o = OV (sm (LF li li it ij) np) (B9 (Int32.toNatClampNeg (nI ij)))) (ev : v = B7 (Int32.toNatClampNeg (nI pj))) (em : m = Int32.toInt64 v) (ex : x = m * o) (eq : q = x / lN (sm (LF li li it ij) np)) (er : r = Int64.toInt32 q) : r = A_re np li it B7 B9 p0 p1 := by
  unfold A_re
  rw [if_pos ⟨h1, by rw [e1, ← ew]; exact h2⟩, if_neg hn, if_pos ⟨h0, by rw [e0, e1, nI_clamp (by omega), nI_clamp (by omega)]; exact hb⟩, er, eq, ex, em, ev, eo, e0, e1, nI_clamp (by omega), nI_clamp (by omega)]
end
