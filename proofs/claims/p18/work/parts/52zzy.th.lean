/-! what is held behind the settling, read off: more -/
section
variable {li wo de su : Nat → Nat} {it ki to : Nat → Int32} {ru th : Int32} {ag lim lam : Nat → Nat} {l nl tt : Nat} {inn out : Int32} {S6 S8 S9 S10 S11 W1 W2 W3 W4 G19 G20 G21 G23 G24 G25 G26 G27 G33 G34 : Nat → Int32}
theorem lcs_r (h : LCS li wo de su it ki to ru th (LFN li wo de su it ki to ru th ag lim lam l) (lim l) (lam l) S6 S8 S9 S10 S11 W1 W2 W3 W4 inn out nl tt) : ∀ k, k < 8 → W2 k = RIN (clo (YI ki to (INL li wo de su it ki to ru th ag lim lam l)) 8) k := by
  obtain ⟨h1, h2⟩ := lcs_nl h
  have h3 := h.2.2.2.2.1
  rw [h1] at h3
  exact h3
theorem lm_r (h : LM li wo de su it ki to ru th (LFN li wo de su it ki to ru th ag lim lam l) (lim l) (lam l) G19 G20 G21 G23 G24 G25 G26 G27 G33 G34 inn out nl tt) : ∀ k, k < 8 → G23 k = RIN (clo (YI ki to (INL li wo de su it ki to ru th ag lim lam l)) 8) k := by
  obtain ⟨h1, h2⟩ := lm_nl h
  have h3 := h.2.2.2.2.1
  rw [h1] at h3
  exact h3
end
/-- a ring's least one -/
def LEA (a : Int32) (p : Nat) : Bool := !(decide (a = 0)) && decide (a &&& (((1 : Int32) <<< (nI p &&& 31)) - 1) = 0)
theorem lea_y {a s t u : Int32} {p : Nat} (h1 : ¬ a = 0) (es : s = (1 : Int32) <<< (nI p &&& 31)) (et : t = s - 1) (eu : u = a &&& t) (h2 : u = 0) : LEA a p = true := by
  subst es et eu
  unfold LEA
  rw [decide_eq_false h1, decide_eq_true h2]; rfl
theorem lea_1 {a : Int32} {p : Nat} (h1 : a = 0) : ¬ LEA a p = true := by
  unfold LEA
  rw [decide_eq_true h1]; simp
theorem lea_2 {a s t u : Int32} {p : Nat} (es : s = (1 : Int32) <<< (nI p &&& 31)) (et : t = s - 1) (eu : u = a &&& t) (h2 : ¬ u = 0) : ¬ LEA a p = true := by
  subst es et eu
  unfold LEA
  rw [decide_eq_false h2]; simp
/-- how many rings -/
def NR (R : Nat → Int32) : Nat → Nat := sm (fun p => if LEA (R p) p = true then 1 else 0)
theorem nr_y {R : Nat → Int32} {h i : Nat} (e : h = NR R i) (c : LEA (R i) i = true) : h + 1 = NR R (i + 1) := by
  show h + 1 = NR R i + (if LEA (R i) i = true then 1 else 0)
  rw [if_pos c, e]
theorem nr_n {R : Nat → Int32} {h i : Nat} (e : h = NR R i) (c : ¬ LEA (R i) i = true) : h = NR R (i + 1) := by
  show h = NR R i + (if LEA (R i) i = true then 1 else 0)
  rw [if_neg c, e]; rfl
/-- the k-th ring, met from i on -/
def RAT (R : Nat → Int32) (k : Int32) : Nat → Int32
  | 0 => -1
  | n + 1 => if LEA (R (7 - n)) (7 - n) = true ∧ nI (NR R (7 - n)) = k then R (7 - n) else RAT R k n
theorem rat_y {R : Nat → Int32} {k v : Int32} {i h : Nat} (hi : i < 8) (eh : h = NR R i) (c : LEA (R i) i = true) (ck : nI h = k) (ev : v = R i) (hn : ∀ j, j < i → ¬ (LEA (R j) j = true ∧ nI (NR R j) = k)) : v = RAT R k 8 := by
  have key : ∀ n, n ≤ 8 → 8 - i ≤ n → RAT R k n = R i := by
    intro n
    induction n with
    | zero => intro _ h2; omega
    | succ n ih =>
      intro h1 h2
      show (if LEA (R (7 - n)) (7 - n) = true ∧ nI (NR R (7 - n)) = k then R (7 - n) else RAT R k n) = R i
      by_cases q : 7 - n = i
      · rw [q, if_pos ⟨c, by rw [← eh]; exact ck⟩]
      · rw [if_neg (hn (7 - n) (by omega))]
        exact ih (by omega) (by omega)
  rw [key 8 (by omega) (by omega)]; exact ev
theorem rat_n {R : Nat → Int32} {k : Int32} (hn : ∀ j, j < 8 → ¬ (LEA (R j) j = true ∧ nI (NR R j) = k)) : -1 = RAT R k 8 := by
  have key : ∀ n, n ≤ 8 → RAT R k n = -1 := by
    intro n
    induction n with
    | zero => intro _; rfl
    | succ n ih =>
      intro h1
      show (if LEA (R (7 - n)) (7 - n) = true ∧ nI (NR R (7 - n)) = k then R (7 - n) else RAT R k n) = -1
      rw [if_neg (hn (7 - n) (by omega))]
      exact ih (by omega)
  exact (key 8 (Nat.le_refl _)).symm
theorem rat_s {R : Nat → Int32} {k : Int32} {i : Nat} (H : ∀ j, j < i → ¬ (LEA (R j) j = true ∧ nI (NR R j) = k)) (h : ¬ (LEA (R i) i = true ∧ nI (NR R i) = k)) : ∀ j, j < i + 1 → ¬ (LEA (R j) j = true ∧ nI (NR R j) = k) := fun j hj => by
  by_cases c : j = i
  · subst c; exact h
  · exact H j (by omega)
section
variable {nl lj : Nat} {li wo de su : Nat → Nat} {it ki to : Nat → Int32} {ru th : Int32} {ag lim lam : Nat → Nat} {p0 p1 v : Int32}
/-- something of a loss, if there is such a one -/
def OFL (nl : Nat) (p0 v : Int32) : Int32 := if 0 ≤ p0 ∧ p0 ≤ nI nl - 1 then v else -1
theorem ofl_y (h : 0 ≤ p0 ∧ p0 ≤ nI nl - 1) {F : Nat → Int32} (e0 : p0 = nI lj) (hj : lj < 2 ^ 31) (hv : v = F lj) : v = OFL nl p0 (F (Int32.toNatClampNeg p0)) := by
  unfold OFL
  rw [if_pos h, e0, nI_clamp hj, hv]
theorem ofl_n (h : ¬ (0 ≤ p0 ∧ p0 ≤ nI nl - 1)) : -1 = OFL nl p0 v := (if_neg h).symm
end
/-! levels -/
section
variable {qj l : Nat} {li wo de su : Nat → Nat} {it ki to : Nat → Int32} {ru th : Int32} {ag lim lam : Nat → Nat} {p1 v : Int32}
end
section
variable {qj l nl j k : Nat} {li wo de su lf : Nat → Nat} {it ki to : Nat → Int32} {ru th : Int32} {ag lim lam : Nat → Nat} {p1 v w inn : Int32} {im am : Nat}
end
