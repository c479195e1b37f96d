/-! what is held behind the settling, read off: more -/
section
variable {li wo de su : Nat → Nat} {it ki to : Nat → Int32} {ru th : Int32} {ag lim lam : Nat → Nat} {l nl tt : Nat} {inn out : Int32} {S6 S8 S9 S10 S11 W1 W2 W3 W4 G19 G20 G21 G23 G24 G25 G26 G27 G33 G34 : Nat → Int32}
theorem lcs_y (h : LCS li wo de su it ki to ru th (LFN li wo de su it ki to ru th ag lim lam l) (lim l) (lam l) S6 S8 S9 S10 S11 W1 W2 W3 W4 inn out nl tt) : ∀ k, k < 8 → W1 k = YI ki to (INL li wo de su it ki to ru th ag lim lam l) k := by
  obtain ⟨h1, h2⟩ := lcs_nl h
  have h3 := h.2.2.2.1
  rw [h1] at h3
  exact h3
theorem lcs_r (h : LCS li wo de su it ki to ru th (LFN li wo de su it ki to ru th ag lim lam l) (lim l) (lam l) S6 S8 S9 S10 S11 W1 W2 W3 W4 inn out nl tt) : ∀ k, k < 8 → W2 k = RIN (clo (YI ki to (INL li wo de su it ki to ru th ag lim lam l)) 8) k := by
  obtain ⟨h1, h2⟩ := lcs_nl h
  have h3 := h.2.2.2.2.1
  rw [h1] at h3
  exact h3
theorem lcs_o (h : LCS li wo de su it ki to ru th (LFN li wo de su it ki to ru th ag lim lam l) (lim l) (lam l) S6 S8 S9 S10 S11 W1 W2 W3 W4 inn out nl tt) : out = ORS (fun p => bt (INL li wo de su it ki to ru th ag lim lam l) p && OUL (TT (YI ki to (INL li wo de su it ki to ru th ag lim lam l))) (KE ki) p) 8 := by
  obtain ⟨h1, h2⟩ := lcs_nl h
  have h3 := h.2.2.2.2.2.1.2.1
  rw [h1] at h3
  exact h3
theorem lm_y (h : LM li wo de su it ki to ru th (LFN li wo de su it ki to ru th ag lim lam l) (lim l) (lam l) G19 G20 G21 G23 G24 G25 G26 G27 G33 G34 inn out nl tt) : ∀ k, k < 8 → G21 k = YI ki to (INL li wo de su it ki to ru th ag lim lam l) k := by
  obtain ⟨h1, h2⟩ := lm_nl h
  have h3 := h.2.2.2.1
  rw [h1] at h3
  exact h3
theorem lm_r (h : LM li wo de su it ki to ru th (LFN li wo de su it ki to ru th ag lim lam l) (lim l) (lam l) G19 G20 G21 G23 G24 G25 G26 G27 G33 G34 inn out nl tt) : ∀ k, k < 8 → G23 k = RIN (clo (YI ki to (INL li wo de su it ki to ru th ag lim lam l)) 8) k := by
  obtain ⟨h1, h2⟩ := lm_nl h
  have h3 := h.2.2.2.2.1
  rw [h1] at h3
  exact h3
theorem lm_t (h : LM li wo de su it ki to ru th (LFN li wo de su it ki to ru th ag lim lam l) (lim l) (lam l) G19 G20 G21 G23 G24 G25 G26 G27 G33 G34 inn out nl tt) : ∀ k, k < 8 → G24 k = TT (YI ki to (INL li wo de su it ki to ru th ag lim lam l)) k := by
  obtain ⟨h1, h2⟩ := lm_nl h
  have h3 := h.2.2.2.2.2.1
  rw [h1] at h3
  exact h3
theorem lm_o (h : LM li wo de su it ki to ru th (LFN li wo de su it ki to ru th ag lim lam l) (lim l) (lam l) G19 G20 G21 G23 G24 G25 G26 G27 G33 G34 inn out nl tt) : out = ORS (fun p => bt (INL li wo de su it ki to ru th ag lim lam l) p && OUL (TT (YI ki to (INL li wo de su it ki to ru th ag lim lam l))) (KE ki) p) 8 := by
  obtain ⟨h1, h2⟩ := lm_nl h
  have h3 := h.2.2.2.2.2.2.1.2.1
  rw [h1] at h3
  exact h3
end
/-- how many bits of the lowest eight -/
def NB (a : Int32) : Nat := sm (fun k => if bt a k = true then 1 else 0) 8
theorem nb_bit {a v : Int32} {k : Nat} (hk : k < 8) (ev : v = (a >>> (nI k &&& 31)) &&& 1) : v = nI (if bt a k = true then 1 else 0) := by
  by_cases c : bt a k = true
  · rw [if_pos c, ev]; exact (bt_on hk).mpr c
  · rw [if_neg c, ev]
    exact Classical.byContradiction fun z => c ((bt_nz hk).mp z)
theorem bc_tab : ∀ n : Fin 256, bc (nI n.val) = nI (NB (nI n.val)) := by decide +kernel
theorem bc_w8 {a : Int32} (h : isw8 a) : bc a = nI (NB a) := by
  obtain ⟨n, hn, rfl⟩ := h
  exact bc_tab ⟨n, hn⟩
/-- a ring's least one -/
def LEA (a : Int32) (p : Nat) : Bool := !(decide (a = 0)) && decide (a &&& (((1 : Int32) <<< (nI p &&& 31)) - 1) = 0)
theorem lea_y {a s t u : Int32} {p : Nat} (h1 : ¬ a = 0) (es : s = (1 : Int32) <<< (nI p &&& 31)) (et : t = s - 1) (eu : u = a &&& t) (h2 : u = 0) : LEA a p = true := by
  subst es et eu
  unfold LEA
  rw [decide_eq_false h1, decide_eq_true h2]; rfl
theorem lea_1 {a : Int32} {p : Nat} (h1 : a = 0) : ¬ LEA a p = true := by
  unfold LEA
  rw [decide_eq_true h1]; simp
theorem lea_2 {a s t u : Int32} {p : Nat} (es : s = (1 : Int32) <<< (nI p &&& 31)) (et : t = s - 1) (eu : u = a &&& t) (h2 : ¬ u = 0) : ¬ LEA a p = true := by
  subst es et eu
  unfold LEA
  rw [decide_eq_false h2]; simp
/-- how many rings -/
def NR (R : Nat → Int32) : Nat → Nat := sm (fun p => if LEA (R p) p = true then 1 else 0)
theorem nr_y {R : Nat → Int32} {h i : Nat} (e : h = NR R i) (c : LEA (R i) i = true) : h + 1 = NR R (i + 1) := by
  show h + 1 = NR R i + (if LEA (R i) i = true then 1 else 0)
  rw [if_pos c, e]
theorem nr_n {R : Nat → Int32} {h i : Nat} (e : h = NR R i) (c : ¬ LEA (R i) i = true) : h = NR R (i + 1) := by
  show h = NR R i + (if LEA (R i) i = true then 1 else 0)
  rw [if_neg c, e]; rfl
section
variable {nl lj : Nat} {li wo de su : Nat → Nat} {it ki to : Nat → Int32} {ru th : Int32} {ag lim lam : Nat → Nat} {p0 p1 v : Int32}
def ASE (li wo de su : Nat → Nat) (it ki to : Nat → Int32) (ru th : Int32) (ag lim lam : Nat → Nat) (l : Nat) (p1 : Int32) : Int32 := if p1 = 0 then nI (lim l) else if p1 = 1 then nI (lam l) else if p1 = 2 then nI (TTN li wo de su it ki to ru th ag lim lam l) else if p1 = 3 then (INL li wo de su it ki to ru th ag lim lam l) else if p1 = 4 then ORS (fun p => bt (INL li wo de su it ki to ru th ag lim lam l) p && OUL (TT (YI ki to (INL li wo de su it ki to ru th ag lim lam l))) (KE ki) p) 8 else if p1 = 5 then nI (NR (RIN (clo (YI ki to (INL li wo de su it ki to ru th ag lim lam l)) 8)) 8) else if p1 = 6 then nI (NLL li wo de su it ki to ru th ag lim lam l) else if p1 = 7 then nI (sm (fun p => NB ((YI ki to (INL li wo de su it ki to ru th ag lim lam l)) p)) 8) else if p1 = 8 then nI (sm (fun p => NB ((TT (YI ki to (INL li wo de su it ki to ru th ag lim lam l))) p)) 8) else -1
/-- something of a loss, if there is such a one -/
def OFL (nl : Nat) (p0 v : Int32) : Int32 := if 0 ≤ p0 ∧ p0 ≤ nI nl - 1 then v else -1
theorem ofl_y (h : 0 ≤ p0 ∧ p0 ≤ nI nl - 1) {F : Nat → Int32} (e0 : p0 = nI lj) (hj : lj < 2 ^ 31) (hv : v = F lj) : v = OFL nl p0 (F (Int32.toNatClampNeg p0)) := by
  unfold OFL
  rw [if_pos h, e0, nI_clamp hj, hv]
theorem ofl_n (h : ¬ (0 ≤ p0 ∧ p0 ≤ nI nl - 1)) : -1 = OFL nl p0 v := (if_neg h).symm
end
/-! levels -/
section
variable {qj l : Nat} {li wo de su : Nat → Nat} {it ki to : Nat → Int32} {ru th : Int32} {ag lim lam : Nat → Nat} {p1 v : Int32}
end
section
variable {qj l nl j k : Nat} {li wo de su lf : Nat → Nat} {it ki to : Nat → Int32} {ru th : Int32} {ag lim lam : Nat → Nat} {p1 v w inn : Int32} {im am : Nat}
end
