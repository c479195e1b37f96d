/-! what is held behind the settling, read off: more -/
section
variable {li wo de su : Nat → Nat} {it ki to : Nat → Int32} {ru th : Int32} {ag lim lam : Nat → Nat} {l nl tt : Nat} {inn out : Int32} {S6 S8 S9 S10 S11 W1 W2 W3 W4 G19 G20 G21 G23 G24 G25 G26 G27 G33 G34 : Nat → Int32}
theorem lcs_y (h : LCS li wo de su it ki to ru th (LFN li wo de su it ki to ru th ag lim lam l) (lim l) (lam l) S6 S8 S9 S10 S11 W1 W2 W3 W4 inn out nl tt) : ∀ k, k < 8 → W1 k = YI ki to (INL li wo de su it ki to ru th ag lim lam l) k := by
  obtain ⟨h1, h2⟩ := lcs_nl h
  have h3 := h.2.2.2.1
  rw [h1] at h3
  exact h3
theorem lcs_r (h : LCS li wo de su it ki to ru th (LFN li wo de su it ki to ru th ag lim lam l) (lim l) (lam l) S6 S8 S9 S10 S11 W1 W2 W3 W4 inn out nl tt) : ∀ k, k < 8 → W2 k = RIN (clo (YI ki to (INL li wo de su it ki to ru th ag lim lam l)) 8) k := by
  obtain ⟨h1, h2⟩ := lcs_nl h
  have h3 := h.2.2.2.2.1
  rw [h1] at h3
  exact h3
theorem lcs_lv (h : LCS li wo de su it ki to ru th (LFN li wo de su it ki to ru th ag lim lam l) (lim l) (lam l) S6 S8 S9 S10 S11 W1 W2 W3 W4 inn out nl tt) : ∀ p, p < 8 → W3 p = if bt (INL li wo de su it ki to ru th ag lim lam l) p = true then nI (LVL (TT (YI ki to (INL li wo de su it ki to ru th ag lim lam l))) p) else -1 := by
  obtain ⟨h1, h2⟩ := lcs_nl h
  have h3 := h.2.2.2.2.2.1.1
  rw [h1] at h3
  exact h3
theorem lcs_cap (h : LCS li wo de su it ki to ru th (LFN li wo de su it ki to ru th ag lim lam l) (lim l) (lam l) S6 S8 S9 S10 S11 W1 W2 W3 W4 inn out nl tt) : ∀ k, k < 8 → S9 k = nI (CAPL li wo de su it ki to (INL li wo de su it ki to ru th ag lim lam l) (LFN li wo de su it ki to ru th ag lim lam l) (lim l) (lam l) (NLL li wo de su it ki to ru th ag lim lam l) k) := by
  obtain ⟨h1, h2⟩ := lcs_nl h
  have h3 := h.2.2.2.2.2.2.2.1
  rw [h2] at h3
  rw [h1] at h3
  exact h3
theorem lcs_bu (h : LCS li wo de su it ki to ru th (LFN li wo de su it ki to ru th ag lim lam l) (lim l) (lam l) S6 S8 S9 S10 S11 W1 W2 W3 W4 inn out nl tt) : ∀ j, j < (NLL li wo de su it ki to ru th ag lim lam l) → S11 j = nI (lam l - TTS li wo de su it ki to (INL li wo de su it ki to ru th ag lim lam l) (LFN li wo de su it ki to ru th ag lim lam l) (lim l) (lam l) j) := by
  obtain ⟨h1, h2⟩ := lcs_nl h
  have h3 := h.2.2.2.2.2.2.2.2.2.2
  rw [h2] at h3
  rw [h1] at h3
  exact h3
theorem lm_y (h : LM li wo de su it ki to ru th (LFN li wo de su it ki to ru th ag lim lam l) (lim l) (lam l) G19 G20 G21 G23 G24 G25 G26 G27 G33 G34 inn out nl tt) : ∀ k, k < 8 → G21 k = YI ki to (INL li wo de su it ki to ru th ag lim lam l) k := by
  obtain ⟨h1, h2⟩ := lm_nl h
  have h3 := h.2.2.2.1
  rw [h1] at h3
  exact h3
theorem lm_r (h : LM li wo de su it ki to ru th (LFN li wo de su it ki to ru th ag lim lam l) (lim l) (lam l) G19 G20 G21 G23 G24 G25 G26 G27 G33 G34 inn out nl tt) : ∀ k, k < 8 → G23 k = RIN (clo (YI ki to (INL li wo de su it ki to ru th ag lim lam l)) 8) k := by
  obtain ⟨h1, h2⟩ := lm_nl h
  have h3 := h.2.2.2.2.1
  rw [h1] at h3
  exact h3
theorem lm_t (h : LM li wo de su it ki to ru th (LFN li wo de su it ki to ru th ag lim lam l) (lim l) (lam l) G19 G20 G21 G23 G24 G25 G26 G27 G33 G34 inn out nl tt) : ∀ k, k < 8 → G24 k = TT (YI ki to (INL li wo de su it ki to ru th ag lim lam l)) k := by
  obtain ⟨h1, h2⟩ := lm_nl h
  have h3 := h.2.2.2.2.2.1
  rw [h1] at h3
  exact h3
theorem lm_lv (h : LM li wo de su it ki to ru th (LFN li wo de su it ki to ru th ag lim lam l) (lim l) (lam l) G19 G20 G21 G23 G24 G25 G26 G27 G33 G34 inn out nl tt) : ∀ p, p < 8 → G25 p = if bt (INL li wo de su it ki to ru th ag lim lam l) p = true then nI (LVL (TT (YI ki to (INL li wo de su it ki to ru th ag lim lam l))) p) else -1 := by
  obtain ⟨h1, h2⟩ := lm_nl h
  have h3 := h.2.2.2.2.2.2.1.1
  rw [h1] at h3
  exact h3
theorem lm_cap (h : LM li wo de su it ki to ru th (LFN li wo de su it ki to ru th ag lim lam l) (lim l) (lam l) G19 G20 G21 G23 G24 G25 G26 G27 G33 G34 inn out nl tt) : ∀ k, k < 8 → G26 k = nI (CAPL li wo de su it ki to (INL li wo de su it ki to ru th ag lim lam l) (LFN li wo de su it ki to ru th ag lim lam l) (lim l) (lam l) (NLL li wo de su it ki to ru th ag lim lam l) k) := by
  obtain ⟨h1, h2⟩ := lm_nl h
  have h3 := h.2.2.2.2.2.2.2.1
  rw [h2] at h3
  rw [h1] at h3
  exact h3
theorem lm_bu (h : LM li wo de su it ki to ru th (LFN li wo de su it ki to ru th ag lim lam l) (lim l) (lam l) G19 G20 G21 G23 G24 G25 G26 G27 G33 G34 inn out nl tt) : ∀ j, j < (NLL li wo de su it ki to ru th ag lim lam l) → G33 j = nI (lam l - TTS li wo de su it ki to (INL li wo de su it ki to ru th ag lim lam l) (LFN li wo de su it ki to ru th ag lim lam l) (lim l) (lam l) j) := by
  obtain ⟨h1, h2⟩ := lm_nl h
  have h3 := h.2.2.2.2.2.2.2.2.2.2.1
  rw [h2] at h3
  rw [h1] at h3
  exact h3
end
section
variable {nl lj : Nat} {li wo de su : Nat → Nat} {it ki to : Nat → Int32} {ru th : Int32} {ag lim lam : Nat → Nat} {p0 p1 v : Int32}
end
/-! levels -/
section
variable {qj l : Nat} {li wo de su : Nat → Nat} {it ki to : Nat → Int32} {ru th : Int32} {ag lim lam : Nat → Nat} {p1 v : Int32}
end
section
variable {qj l nl j k : Nat} {li wo de su lf : Nat → Nat} {it ki to : Nat → Int32} {ru th : Int32} {ag lim lam : Nat → Nat} {p1 v w inn : Int32} {im am : Nat}
end
