/-! what is held behind the settling, read off: more -/
section
variable {li wo de su : Nat → Nat} {it ki to : Nat → Int32} {ru th : Int32} {ag lim lam : Nat → Nat} {l nl tt : Nat} {inn out : Int32} {S6 S8 S9 S10 S11 W1 W2 W3 W4 G19 G20 G21 G23 G24 G25 G26 G27 G33 G34 : Nat → Int32}
theorem lcs_w4 (h : LCS li wo de su it ki to ru th (LFN li wo de su it ki to ru th ag lim lam l) (lim l) (lam l) S6 S8 S9 S10 S11 W1 W2 W3 W4 inn out nl tt) : ∀ j, j < (NLL li wo de su it ki to ru th ag lim lam l) → W4 j = ORS (fun p => bt (INL li wo de su it ki to ru th ag lim lam l) p && decide (LVL (TT (YI ki to (INL li wo de su it ki to ru th ag lim lam l))) p = j)) 8 := by
  obtain ⟨h1, h2⟩ := lcs_nl h
  have h3 := h.2.2.2.2.2.2.1
  rw [h2] at h3
  rw [h1] at h3
  exact h3
theorem lm_lv (h : LM li wo de su it ki to ru th (LFN li wo de su it ki to ru th ag lim lam l) (lim l) (lam l) G19 G20 G21 G23 G24 G25 G26 G27 G33 G34 inn out nl tt) : ∀ p, p < 8 → G25 p = if bt (INL li wo de su it ki to ru th ag lim lam l) p = true then nI (LVL (TT (YI ki to (INL li wo de su it ki to ru th ag lim lam l))) p) else -1 := by
  obtain ⟨h1, h2⟩ := lm_nl h
  have h3 := h.2.2.2.2.2.2.1.1
  rw [h1] at h3
  exact h3
end
section
variable {nl lj : Nat} {li wo de su : Nat → Nat} {it ki to : Nat → Int32} {ru th : Int32} {ag lim lam : Nat → Nat} {p0 p1 v : Int32}
/-- something of a loss, if there is such a one -/
def OFL (nl : Nat) (p0 v : Int32) : Int32 := if 0 ≤ p0 ∧ p0 ≤ nI nl - 1 then v else -1
theorem ofl_y (h : 0 ≤ p0 ∧ p0 ≤ nI nl - 1) {F : Nat → Int32} (e0 : p0 = nI lj) (hj : lj < 2 ^ 31) (hv : v = F lj) : v = OFL nl p0 (F (Int32.toNatClampNeg p0)) := by
  unfold OFL
  rw [if_pos h, e0, nI_clamp hj, hv]
theorem ofl_n (h : ¬ (0 ≤ p0 ∧ p0 ≤ nI nl - 1)) : -1 = OFL nl p0 v := (if_neg h).symm
/-- a level's set, a level's height -/
def ALV (li wo de su : Nat → Nat) (it ki to : Nat → Int32) (ru th : Int32) (ag lim lam : Nat → Nat) (l : Nat) (p1 : Int32) : Int32 := if 0 ≤ p1 ∧ p1 ≤ nI (NLL li wo de su it ki to ru th ag lim lam l) - 1 then ORS (fun p => bt (INL li wo de su it ki to ru th ag lim lam l) p && decide (LVL (TT (YI ki to (INL li wo de su it ki to ru th ag lim lam l))) p = Int32.toNatClampNeg p1)) 8 else -1
end
/-! levels -/
section
variable {qj l : Nat} {li wo de su : Nat → Nat} {it ki to : Nat → Int32} {ru th : Int32} {ag lim lam : Nat → Nat} {p1 v : Int32}
theorem alv_y (h : 0 ≤ p1 ∧ p1 ≤ nI (NLL li wo de su it ki to ru th ag lim lam l) - 1) (e1 : p1 = nI qj) (hq : qj < 2 ^ 31) (hv : v = ORS (fun p => bt (INL li wo de su it ki to ru th ag lim lam l) p && decide (LVL (TT (YI ki to (INL li wo de su it ki to ru th ag lim lam l))) p = qj)) 8) : v = ALV li wo de su it ki to ru th ag lim lam l p1 := by
  unfold ALV
  rw [if_pos h, e1, nI_clamp hq, hv]
theorem alv_m (h : 0 ≤ p1 ∧ p1 ≤ nI (NLL li wo de su it ki to ru th ag lim lam l) - 1) (hv : v = ORS (fun p => bt (INL li wo de su it ki to ru th ag lim lam l) p && decide (nI (LVL (TT (YI ki to (INL li wo de su it ki to ru th ag lim lam l))) p) = p1)) 8) : v = ALV li wo de su it ki to ru th ag lim lam l p1 := by
  have hb : (NLL li wo de su it ki to ru th ag lim lam l) ≤ 8 := nl_8 (tt_rk _)
  obtain ⟨qj, hq, e⟩ := wi_n (by omega) h
  refine alv_y h e (by omega) (hv.trans (ors_cong (fun p hp => ?_)))
  have h7 := lvl_7 (tt_rk (YI ki to (INL li wo de su it ki to ru th ag lim lam l))) hp
  rw [e]
  exact congrArg (fun z => bt (INL li wo de su it ki to ru th ag lim lam l) p && z) (decide_eq_decide.mpr (nI_eq (by omega) (by omega)))
end
section
variable {qj l nl j k : Nat} {li wo de su lf : Nat → Nat} {it ki to : Nat → Int32} {ru th : Int32} {ag lim lam : Nat → Nat} {p1 v w inn : Int32} {im am : Nat}
end
