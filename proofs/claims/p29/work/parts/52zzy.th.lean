/-! what is held behind the settling, read off: more -/
section
variable {li wo de su : Nat → Nat} {it ki to : Nat → Int32} {ru th : Int32} {ag lim lam : Nat → Nat} {l nl tt : Nat} {inn out : Int32} {S6 S8 S9 S10 S11 W1 W2 W3 W4 G19 G20 G21 G23 G24 G25 G26 G27 G33 G34 : Nat → Int32}
end
/-- how many bits of the lowest eight -/
def NB (a : Int32) : Nat := sm (fun k => if bt a k = true then 1 else 0) 8
theorem nb_bit {a v : Int32} {k : Nat} (hk : k < 8) (ev : v = (a >>> (nI k &&& 31)) &&& 1) : v = nI (if bt a k = true then 1 else 0) := by
  by_cases c : bt a k = true
  · rw [if_pos c, ev]; exact (bt_on hk).mpr c
  · rw [if_neg c, ev]
    exact Classical.byContradiction fun z => c ((bt_nz hk).mp z)
theorem bc_tab : ∀ n : Fin 256, bc (nI n.val) = nI (NB (nI n.val)) := by decide +kernel
theorem bc_w8 {a : Int32} (h : isw8 a) : bc a = nI (NB a) := by
  obtain ⟨n, hn, rfl⟩ := h
  exact bc_tab ⟨n, hn⟩
theorem nb_8 (a : Int32) : NB a ≤ 8 := sm_bound (f := fun k => if bt a k = true then 1 else 0) (c := 1) (n := 8) (fun k _ => by by_cases c : bt a k = true <;> simp [c])
section
variable {nl lj : Nat} {li wo de su : Nat → Nat} {it ki to : Nat → Int32} {ru th : Int32} {ag lim lam : Nat → Nat} {p0 p1 v : Int32}
/-- something of a loss, if there is such a one -/
def OFL (nl : Nat) (p0 v : Int32) : Int32 := if 0 ≤ p0 ∧ p0 ≤ nI nl - 1 then v else -1
theorem ofl_y (h : 0 ≤ p0 ∧ p0 ≤ nI nl - 1) {F : Nat → Int32} (e0 : p0 = nI lj) (hj : lj < 2 ^ 31) (hv : v = F lj) : v = OFL nl p0 (F (Int32.toNatClampNeg p0)) := by
  unfold OFL
  rw [if_pos h, e0, nI_clamp hj, hv]
theorem ofl_n (h : ¬ (0 ≤ p0 ∧ p0 ≤ nI nl - 1)) : -1 = OFL nl p0 v := (if_neg h).symm
end
/-! levels -/
section
variable {qj l : Nat} {li wo de su : Nat → Nat} {it ki to : Nat → Int32} {ru th : Int32} {ag lim lam : Nat → Nat} {p1 v : Int32}
end
section
variable {qj l nl j k : Nat} {li wo de su lf : Nat → Nat} {it ki to : Nat → Int32} {ru th : Int32} {ag lim lam : Nat → Nat} {p1 v w inn : Int32} {im am : Nat}
end
