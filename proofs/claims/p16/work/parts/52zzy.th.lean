/-! what is held behind the settling, read off: more -/
section
variable {li wo de su : Nat → Nat} {it ki to : Nat → Int32} {ru th : Int32} {ag lim lam : Nat → Nat} {l nl tt : Nat} {inn out : Int32} {S6 S8 S9 S10 S11 W1 W2 W3 W4 G19 G20 G21 G23 G24 G25 G26 G27 G33 G34 : Nat → Int32}
theorem lcs_w4 (h : LCS li wo de su it ki to ru th (LFN li wo de su it ki to ru th ag lim lam l) (lim l) (lam l) S6 S8 S9 S10 S11 W1 W2 W3 W4 inn out nl tt) : ∀ j, j < (NLL li wo de su it ki to ru th ag lim lam l) → W4 j = ORS (fun p => bt (INL li wo de su it ki to ru th ag lim lam l) p && decide (LVL (TT (YI ki to (INL li wo de su it ki to ru th ag lim lam l))) p = j)) 8 := by
  obtain ⟨h1, h2⟩ := lcs_nl h
  have h3 := h.2.2.2.2.2.2.1
  rw [h2] at h3
  rw [h1] at h3
  exact h3
theorem lcs_cap (h : LCS li wo de su it ki to ru th (LFN li wo de su it ki to ru th ag lim lam l) (lim l) (lam l) S6 S8 S9 S10 S11 W1 W2 W3 W4 inn out nl tt) : ∀ k, k < 8 → S9 k = nI (CAPL li wo de su it ki to (INL li wo de su it ki to ru th ag lim lam l) (LFN li wo de su it ki to ru th ag lim lam l) (lim l) (lam l) (NLL li wo de su it ki to ru th ag lim lam l) k) := by
  obtain ⟨h1, h2⟩ := lcs_nl h
  have h3 := h.2.2.2.2.2.2.2.1
  rw [h2] at h3
  rw [h1] at h3
  exact h3
theorem lcs_bu (h : LCS li wo de su it ki to ru th (LFN li wo de su it ki to ru th ag lim lam l) (lim l) (lam l) S6 S8 S9 S10 S11 W1 W2 W3 W4 inn out nl tt) : ∀ j, j < (NLL li wo de su it ki to ru th ag lim lam l) → S11 j = nI (lam l - TTS li wo de su it ki to (INL li wo de su it ki to ru th ag lim lam l) (LFN li wo de su it ki to ru th ag lim lam l) (lim l) (lam l) j) := by
  obtain ⟨h1, h2⟩ := lcs_nl h
  have h3 := h.2.2.2.2.2.2.2.2.2.2
  rw [h2] at h3
  rw [h1] at h3
  exact h3
theorem lm_he (h : LM li wo de su it ki to ru th (LFN li wo de su it ki to ru th ag lim lam l) (lim l) (lam l) G19 G20 G21 G23 G24 G25 G26 G27 G33 G34 inn out nl tt) : ∀ j, j < (NLL li wo de su it ki to ru th ag lim lam l) → G34 j = nI (HGT (CPL li wo de su it ki to (INL li wo de su it ki to ru th ag lim lam l) (LFN li wo de su it ki to ru th ag lim lam l) (lim l) (lam l - TTS li wo de su it ki to (INL li wo de su it ki to ru th ag lim lam l) (LFN li wo de su it ki to ru th ag lim lam l) (lim l) (lam l) j) j) (DUE li wo de su it ki to (INL li wo de su it ki to ru th ag lim lam l) (LFN li wo de su it ki to ru th ag lim lam l) (lim l) (lam l) j)) := by
  obtain ⟨h1, h2⟩ := lm_nl h
  have h3 := h.2.2.2.2.2.2.2.2.2.2.2
  rw [h2] at h3
  rw [h1] at h3
  exact h3
end
section
variable {nl lj : Nat} {li wo de su : Nat → Nat} {it ki to : Nat → Int32} {ru th : Int32} {ag lim lam : Nat → Nat} {p0 p1 v : Int32}
/-- something of a loss, if there is such a one -/
def OFL (nl : Nat) (p0 v : Int32) : Int32 := if 0 ≤ p0 ∧ p0 ≤ nI nl - 1 then v else -1
theorem ofl_y (h : 0 ≤ p0 ∧ p0 ≤ nI nl - 1) {F : Nat → Int32} (e0 : p0 = nI lj) (hj : lj < 2 ^ 31) (hv : v = F lj) : v = OFL nl p0 (F (Int32.toNatClampNeg p0)) := by
  unfold OFL
  rw [if_pos h, e0, nI_clamp hj, hv]
theorem ofl_n (h : ¬ (0 ≤ p0 ∧ p0 ≤ nI nl - 1)) : -1 = OFL nl p0 v := (if_neg h).symm
def AST (li wo de su : Nat → Nat) (it ki to : Nat → Int32) (ru th : Int32) (ag lim lam : Nat → Nat) (l : Nat) (p1 : Int32) : Int32 := if 0 ≤ p1 ∧ p1 ≤ nI (NLL li wo de su it ki to ru th ag lim lam l) - 1 then nI (HGT (CPL li wo de su it ki to (INL li wo de su it ki to ru th ag lim lam l) (LFN li wo de su it ki to ru th ag lim lam l) (lim l) (lam l - TTS li wo de su it ki to (INL li wo de su it ki to ru th ag lim lam l) (LFN li wo de su it ki to ru th ag lim lam l) (lim l) (lam l) (Int32.toNatClampNeg p1)) (Int32.toNatClampNeg p1)) (DUE li wo de su it ki to (INL li wo de su it ki to ru th ag lim lam l) (LFN li wo de su it ki to ru th ag lim lam l) (lim l) (lam l) (Int32.toNatClampNeg p1))) else -1
end
/-! levels -/
section
variable {qj l : Nat} {li wo de su : Nat → Nat} {it ki to : Nat → Int32} {ru th : Int32} {ag lim lam : Nat → Nat} {p1 v : Int32}
end
/-! heights -/
theorem hd_y {A : Nat → Int32} {c : Nat → Nat} {i x : Nat} (hi : i < 8) (H : ∀ k, k < 8 → A k = nI (if k < i then c k else 0)) (hc : c i = x) : ∀ k, k < 8 → upd A (Int32.toNatClampNeg (nI i)) (nI x) k = nI (if k < i + 1 then c k else 0) := fun k hk => by
  rw [nI_clamp (by omega)]
  by_cases q : k = i
  · subst q; rw [pk_us, if_pos (by omega), hc]
  · rw [pk_un q, H k hk]
    by_cases q2 : k < i
    · rw [if_pos q2, if_pos (by omega)]
    · rw [if_neg q2, if_neg (by omega)]
theorem hd_n {A : Nat → Int32} {c : Nat → Nat} {i : Nat} (H : ∀ k, k < 8 → A k = nI (if k < i then c k else 0)) (hc : c i = 0) : ∀ k, k < 8 → A k = nI (if k < i + 1 then c k else 0) := fun k hk => by
  rw [H k hk]
  by_cases q : k = i
  · subst q; rw [if_neg (by omega), if_pos (by omega), hc]
  · by_cases q2 : k < i
    · rw [if_pos q2, if_pos (by omega)]
    · rw [if_neg q2, if_neg (by omega)]
section
variable {qj l nl j k : Nat} {li wo de su lf : Nat → Nat} {it ki to : Nat → Int32} {ru th : Int32} {ag lim lam : Nat → Nat} {p1 v w inn : Int32} {im am : Nat}
theorem cp_w4 (hw : w = ORS (fun p => bt inn p && decide (LVL (TT (YI ki to inn)) p = j)) 8) (hj : j < nl) (hk : k < 8) : CPL li wo de su it ki to inn lf im (am - TTS li wo de su it ki to inn lf im am j) j k = if bt w k = true then CAPL li wo de su it ki to inn lf im am nl k else 0 := by
  unfold CPL CAPL PAY
  rw [hw, ors_bt8 hk]
  show (if (bt inn k && !(OUL (TT (YI ki to inn)) (KE ki) k) && decide (LVL (TT (YI ki to inn)) k = j)) = true then OWE li wo de su it lf k im (am - TTS li wo de su it ki to inn lf im am j) else 0) = if (bt inn k && decide (LVL (TT (YI ki to inn)) k = j)) = true then (if (bt inn k && !(OUL (TT (YI ki to inn)) (KE ki) k) && decide (LVL (TT (YI ki to inn)) k < nl)) = true then OWE li wo de su it lf k im (am - TTS li wo de su it ki to inn lf im am (LVL (TT (YI ki to inn)) k)) else 0) else 0
  generalize hb : bt inn k = b
  generalize ho : OUL (TT (YI ki to inn)) (KE ki) k = o
  generalize hL : LVL (TT (YI ki to inn)) k = L
  by_cases c : L = j
  · subst c
    cases b <;> cases o <;> simp [hj]
  · simp [c]
theorem ast_y (h : 0 ≤ p1 ∧ p1 ≤ nI (NLL li wo de su it ki to ru th ag lim lam l) - 1) (e1 : p1 = nI qj) (hq : qj < 2 ^ 31) (hv : v = nI (HGT (CPL li wo de su it ki to (INL li wo de su it ki to ru th ag lim lam l) (LFN li wo de su it ki to ru th ag lim lam l) (lim l) (lam l - TTS li wo de su it ki to (INL li wo de su it ki to ru th ag lim lam l) (LFN li wo de su it ki to ru th ag lim lam l) (lim l) (lam l) qj) qj) (DUE li wo de su it ki to (INL li wo de su it ki to ru th ag lim lam l) (LFN li wo de su it ki to ru th ag lim lam l) (lim l) (lam l) qj))) : v = AST li wo de su it ki to ru th ag lim lam l p1 := by
  unfold AST
  rw [if_pos h, e1, nI_clamp hq, hv]
end
