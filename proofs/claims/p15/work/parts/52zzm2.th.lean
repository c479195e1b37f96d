/-! what is held behind the settling, read off -/
section
variable {li wo de su : Nat → Nat} {it ki to : Nat → Int32} {ru th : Int32} {ag lim lam : Nat → Nat} {l nl tt : Nat} {inn out : Int32} {S6 S8 S9 S10 S11 W1 W2 W3 W4 G19 G20 G21 G23 G24 G25 G26 G27 G33 G34 : Nat → Int32}
theorem lcs_nl (h : LCS li wo de su it ki to ru th (LFN li wo de su it ki to ru th ag lim lam l) (lim l) (lam l) S6 S8 S9 S10 S11 W1 W2 W3 W4 inn out nl tt) : inn = INL li wo de su it ki to ru th ag lim lam l ∧ nl = NLL li wo de su it ki to ru th ag lim lam l := by
  have h1 : inn = INL li wo de su it ki to ru th ag lim lam l := h.1
  refine ⟨h1, ?_⟩
  have h2 : nl = NL inn (TT (YI ki to inn)) := h.2.2.2.2.2.1.2.2
  rw [h1] at h2
  exact h2
theorem lcs_sh (h : LCS li wo de su it ki to ru th (LFN li wo de su it ki to ru th ag lim lam l) (lim l) (lam l) S6 S8 S9 S10 S11 W1 W2 W3 W4 inn out nl tt) {k : Nat} (hk : k < 8) : S10 k = nI (SHN li wo de su it ki to ru th ag lim lam l k) := by
  obtain ⟨h1, h2⟩ := lcs_nl h
  have h3 := h.2.2.2.2.2.2.2.2.1 k hk
  rw [h2, h1] at h3
  exact h3
theorem lm_nl (h : LM li wo de su it ki to ru th (LFN li wo de su it ki to ru th ag lim lam l) (lim l) (lam l) G19 G20 G21 G23 G24 G25 G26 G27 G33 G34 inn out nl tt) : inn = INL li wo de su it ki to ru th ag lim lam l ∧ nl = NLL li wo de su it ki to ru th ag lim lam l := by
  have h1 : inn = INL li wo de su it ki to ru th ag lim lam l := h.1
  refine ⟨h1, ?_⟩
  have h2 : nl = NL inn (TT (YI ki to inn)) := h.2.2.2.2.2.2.1.2.2
  rw [h1] at h2
  exact h2
theorem lm_sh (h : LM li wo de su it ki to ru th (LFN li wo de su it ki to ru th ag lim lam l) (lim l) (lam l) G19 G20 G21 G23 G24 G25 G26 G27 G33 G34 inn out nl tt) {k : Nat} (hk : k < 8) : G27 k = nI (SHN li wo de su it ki to ru th ag lim lam l k) := by
  obtain ⟨h1, h2⟩ := lm_nl h
  have h3 := h.2.2.2.2.2.2.2.2.1 k hk
  rw [h2, h1] at h3
  exact h3
end
section
variable {li wo de su : Nat → Nat} {it ki to : Nat → Int32} {ru th : Int32} {ag lim lam : Nat → Nat} {l im am nl tt : Nat} {lf : Nat → Nat} {inn out : Int32} {G19 G20 G21 G23 G24 G25 G26 G27 G33 G34 : Nat → Int32}
theorem lm_le (h : LM li wo de su it ki to ru th (LFN li wo de su it ki to ru th ag lim lam l) im am G19 G20 G21 G23 G24 G25 G26 G27 G33 G34 inn out nl tt) (hb : ∀ k, k < 8 → ag k ≤ 9000000) : LE G19 := ⟨_, h.2.1, fun k hk => lfn_b (hb k hk)⟩
theorem lm_lo (h : LM li wo de su it ki to ru th lf im am G19 G20 G21 G23 G24 G25 G26 G27 G33 G34 inn out nl tt) (hli : ∀ k, k < 8 → li k ≤ 1000000) : LO G20 := ⟨_, h.2.2.1, fun k hk => lone_b (hli k hk)⟩
theorem lm_lw (h : LM li wo de su it ki to ru th lf im am G19 G20 G21 G23 G24 G25 G26 G27 G33 G34 inn out nl tt) : LW G25 := fun q hq => by
  have e := lvr_n h.2.2.2.2.2.2.1 q hq
  by_cases c : bt inn q = true
  · rw [if_pos c] at e
    have h7 := lvl_7 (tt_rk (YI ki to inn)) hq
    exact Or.inr ⟨_, by omega, e⟩
  · rw [if_neg c] at e
    exact Or.inl e
theorem lm_sm (h : LM li wo de su it ki to ru th lf im am G19 G20 G21 G23 G24 G25 G26 G27 G33 G34 inn out nl tt) (hli : ∀ k, k < 8 → li k ≤ 1000000) : SH G27 tt := ⟨_, h.2.2.2.2.2.2.2.2.1, by rw [h.2.2.2.2.2.2.2.2.2.1]; exact shl_sum hli _⟩
end
