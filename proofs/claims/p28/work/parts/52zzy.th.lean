/-! what is held behind the settling, read off: more -/
section
variable {li wo de su : Nat → Nat} {it ki to : Nat → Int32} {ru th : Int32} {ag lim lam : Nat → Nat} {l nl tt : Nat} {inn out : Int32} {S6 S8 S9 S10 S11 W1 W2 W3 W4 G19 G20 G21 G23 G24 G25 G26 G27 G33 G34 : Nat → Int32}
theorem lcs_y (h : LCS li wo de su it ki to ru th (LFN li wo de su it ki to ru th ag lim lam l) (lim l) (lam l) S6 S8 S9 S10 S11 W1 W2 W3 W4 inn out nl tt) : ∀ k, k < 8 → W1 k = YI ki to (INL li wo de su it ki to ru th ag lim lam l) k := by
  obtain ⟨h1, h2⟩ := lcs_nl h
  have h3 := h.2.2.2.1
  rw [h1] at h3
  exact h3
theorem lcs_r (h : LCS li wo de su it ki to ru th (LFN li wo de su it ki to ru th ag lim lam l) (lim l) (lam l) S6 S8 S9 S10 S11 W1 W2 W3 W4 inn out nl tt) : ∀ k, k < 8 → W2 k = RIN (clo (YI ki to (INL li wo de su it ki to ru th ag lim lam l)) 8) k := by
  obtain ⟨h1, h2⟩ := lcs_nl h
  have h3 := h.2.2.2.2.1
  rw [h1] at h3
  exact h3
theorem lcs_lv (h : LCS li wo de su it ki to ru th (LFN li wo de su it ki to ru th ag lim lam l) (lim l) (lam l) S6 S8 S9 S10 S11 W1 W2 W3 W4 inn out nl tt) : ∀ p, p < 8 → W3 p = if bt (INL li wo de su it ki to ru th ag lim lam l) p = true then nI (LVL (TT (YI ki to (INL li wo de su it ki to ru th ag lim lam l))) p) else -1 := by
  obtain ⟨h1, h2⟩ := lcs_nl h
  have h3 := h.2.2.2.2.2.1.1
  rw [h1] at h3
  exact h3
theorem lcs_o (h : LCS li wo de su it ki to ru th (LFN li wo de su it ki to ru th ag lim lam l) (lim l) (lam l) S6 S8 S9 S10 S11 W1 W2 W3 W4 inn out nl tt) : out = ORS (fun p => bt (INL li wo de su it ki to ru th ag lim lam l) p && OUL (TT (YI ki to (INL li wo de su it ki to ru th ag lim lam l))) (KE ki) p) 8 := by
  obtain ⟨h1, h2⟩ := lcs_nl h
  have h3 := h.2.2.2.2.2.1.2.1
  rw [h1] at h3
  exact h3
theorem lcs_w4 (h : LCS li wo de su it ki to ru th (LFN li wo de su it ki to ru th ag lim lam l) (lim l) (lam l) S6 S8 S9 S10 S11 W1 W2 W3 W4 inn out nl tt) : ∀ j, j < (NLL li wo de su it ki to ru th ag lim lam l) → W4 j = ORS (fun p => bt (INL li wo de su it ki to ru th ag lim lam l) p && decide (LVL (TT (YI ki to (INL li wo de su it ki to ru th ag lim lam l))) p = j)) 8 := by
  obtain ⟨h1, h2⟩ := lcs_nl h
  have h3 := h.2.2.2.2.2.2.1
  rw [h2] at h3
  rw [h1] at h3
  exact h3
theorem lcs_cap (h : LCS li wo de su it ki to ru th (LFN li wo de su it ki to ru th ag lim lam l) (lim l) (lam l) S6 S8 S9 S10 S11 W1 W2 W3 W4 inn out nl tt) : ∀ k, k < 8 → S9 k = nI (CAPL li wo de su it ki to (INL li wo de su it ki to ru th ag lim lam l) (LFN li wo de su it ki to ru th ag lim lam l) (lim l) (lam l) (NLL li wo de su it ki to ru th ag lim lam l) k) := by
  obtain ⟨h1, h2⟩ := lcs_nl h
  have h3 := h.2.2.2.2.2.2.2.1
  rw [h2] at h3
  rw [h1] at h3
  exact h3
theorem lcs_bu (h : LCS li wo de su it ki to ru th (LFN li wo de su it ki to ru th ag lim lam l) (lim l) (lam l) S6 S8 S9 S10 S11 W1 W2 W3 W4 inn out nl tt) : ∀ j, j < (NLL li wo de su it ki to ru th ag lim lam l) → S11 j = nI (lam l - TTS li wo de su it ki to (INL li wo de su it ki to ru th ag lim lam l) (LFN li wo de su it ki to ru th ag lim lam l) (lim l) (lam l) j) := by
  obtain ⟨h1, h2⟩ := lcs_nl h
  have h3 := h.2.2.2.2.2.2.2.2.2.2
  rw [h2] at h3
  rw [h1] at h3
  exact h3
theorem lm_y (h : LM li wo de su it ki to ru th (LFN li wo de su it ki to ru th ag lim lam l) (lim l) (lam l) G19 G20 G21 G23 G24 G25 G26 G27 G33 G34 inn out nl tt) : ∀ k, k < 8 → G21 k = YI ki to (INL li wo de su it ki to ru th ag lim lam l) k := by
  obtain ⟨h1, h2⟩ := lm_nl h
  have h3 := h.2.2.2.1
  rw [h1] at h3
  exact h3
theorem lm_r (h : LM li wo de su it ki to ru th (LFN li wo de su it ki to ru th ag lim lam l) (lim l) (lam l) G19 G20 G21 G23 G24 G25 G26 G27 G33 G34 inn out nl tt) : ∀ k, k < 8 → G23 k = RIN (clo (YI ki to (INL li wo de su it ki to ru th ag lim lam l)) 8) k := by
  obtain ⟨h1, h2⟩ := lm_nl h
  have h3 := h.2.2.2.2.1
  rw [h1] at h3
  exact h3
theorem lm_t (h : LM li wo de su it ki to ru th (LFN li wo de su it ki to ru th ag lim lam l) (lim l) (lam l) G19 G20 G21 G23 G24 G25 G26 G27 G33 G34 inn out nl tt) : ∀ k, k < 8 → G24 k = TT (YI ki to (INL li wo de su it ki to ru th ag lim lam l)) k := by
  obtain ⟨h1, h2⟩ := lm_nl h
  have h3 := h.2.2.2.2.2.1
  rw [h1] at h3
  exact h3
theorem lm_lv (h : LM li wo de su it ki to ru th (LFN li wo de su it ki to ru th ag lim lam l) (lim l) (lam l) G19 G20 G21 G23 G24 G25 G26 G27 G33 G34 inn out nl tt) : ∀ p, p < 8 → G25 p = if bt (INL li wo de su it ki to ru th ag lim lam l) p = true then nI (LVL (TT (YI ki to (INL li wo de su it ki to ru th ag lim lam l))) p) else -1 := by
  obtain ⟨h1, h2⟩ := lm_nl h
  have h3 := h.2.2.2.2.2.2.1.1
  rw [h1] at h3
  exact h3
theorem lm_o (h : LM li wo de su it ki to ru th (LFN li wo de su it ki to ru th ag lim lam l) (lim l) (lam l) G19 G20 G21 G23 G24 G25 G26 G27 G33 G34 inn out nl tt) : out = ORS (fun p => bt (INL li wo de su it ki to ru th ag lim lam l) p && OUL (TT (YI ki to (INL li wo de su it ki to ru th ag lim lam l))) (KE ki) p) 8 := by
  obtain ⟨h1, h2⟩ := lm_nl h
  have h3 := h.2.2.2.2.2.2.1.2.1
  rw [h1] at h3
  exact h3
theorem lm_cap (h : LM li wo de su it ki to ru th (LFN li wo de su it ki to ru th ag lim lam l) (lim l) (lam l) G19 G20 G21 G23 G24 G25 G26 G27 G33 G34 inn out nl tt) : ∀ k, k < 8 → G26 k = nI (CAPL li wo de su it ki to (INL li wo de su it ki to ru th ag lim lam l) (LFN li wo de su it ki to ru th ag lim lam l) (lim l) (lam l) (NLL li wo de su it ki to ru th ag lim lam l) k) := by
  obtain ⟨h1, h2⟩ := lm_nl h
  have h3 := h.2.2.2.2.2.2.2.1
  rw [h2] at h3
  rw [h1] at h3
  exact h3
theorem lm_bu (h : LM li wo de su it ki to ru th (LFN li wo de su it ki to ru th ag lim lam l) (lim l) (lam l) G19 G20 G21 G23 G24 G25 G26 G27 G33 G34 inn out nl tt) : ∀ j, j < (NLL li wo de su it ki to ru th ag lim lam l) → G33 j = nI (lam l - TTS li wo de su it ki to (INL li wo de su it ki to ru th ag lim lam l) (LFN li wo de su it ki to ru th ag lim lam l) (lim l) (lam l) j) := by
  obtain ⟨h1, h2⟩ := lm_nl h
  have h3 := h.2.2.2.2.2.2.2.2.2.2.1
  rw [h2] at h3
  rw [h1] at h3
  exact h3
theorem lm_he (h : LM li wo de su it ki to ru th (LFN li wo de su it ki to ru th ag lim lam l) (lim l) (lam l) G19 G20 G21 G23 G24 G25 G26 G27 G33 G34 inn out nl tt) : ∀ j, j < (NLL li wo de su it ki to ru th ag lim lam l) → G34 j = nI (HGT (CPL li wo de su it ki to (INL li wo de su it ki to ru th ag lim lam l) (LFN li wo de su it ki to ru th ag lim lam l) (lim l) (lam l - TTS li wo de su it ki to (INL li wo de su it ki to ru th ag lim lam l) (LFN li wo de su it ki to ru th ag lim lam l) (lim l) (lam l) j) j) (DUE li wo de su it ki to (INL li wo de su it ki to ru th ag lim lam l) (LFN li wo de su it ki to ru th ag lim lam l) (lim l) (lam l) j)) := by
  obtain ⟨h1, h2⟩ := lm_nl h
  have h3 := h.2.2.2.2.2.2.2.2.2.2.2
  rw [h2] at h3
  rw [h1] at h3
  exact h3
end
/-- how many bits of the lowest eight -/
def NB (a : Int32) : Nat := sm (fun k => if bt a k = true then 1 else 0) 8
theorem nb_bit {a v : Int32} {k : Nat} (hk : k < 8) (ev : v = (a >>> (nI k &&& 31)) &&& 1) : v = nI (if bt a k = true then 1 else 0) := by
  by_cases c : bt a k = true
  · rw [if_pos c, ev]; exact (bt_on hk).mpr c
  · rw [if_neg c, ev]
    exact Classical.byContradiction fun z => c ((bt_nz hk).mp z)
theorem bc_tab : ∀ n : Fin 256, bc (nI n.val) = nI (NB (nI n.val)) := by decide +kernel
theorem bc_w8 {a : Int32} (h : isw8 a) : bc a = nI (NB a) := by
  obtain ⟨n, hn, rfl⟩ := h
  exact bc_tab ⟨n, hn⟩
theorem nb_8 (a : Int32) : NB a ≤ 8 := sm_bound (f := fun k => if bt a k = true then 1 else 0) (c := 1) (n := 8) (fun k _ => by by_cases c : bt a k = true <;> simp [c])
/-- a ring's least one -/
def LEA (a : Int32) (p : Nat) : Bool := !(decide (a = 0)) && decide (a &&& (((1 : Int32) <<< (nI p &&& 31)) - 1) = 0)
theorem lea_y {a s t u : Int32} {p : Nat} (h1 : ¬ a = 0) (es : s = (1 : Int32) <<< (nI p &&& 31)) (et : t = s - 1) (eu : u = a &&& t) (h2 : u = 0) : LEA a p = true := by
  subst es et eu
  unfold LEA
  rw [decide_eq_false h1, decide_eq_true h2]; rfl
theorem lea_1 {a : Int32} {p : Nat} (h1 : a = 0) : ¬ LEA a p = true := by
  unfold LEA
  rw [decide_eq_true h1]; simp
theorem lea_2 {a s t u : Int32} {p : Nat} (es : s = (1 : Int32) <<< (nI p &&& 31)) (et : t = s - 1) (eu : u = a &&& t) (h2 : ¬ u = 0) : ¬ LEA a p = true := by
  subst es et eu
  unfold LEA
  rw [decide_eq_false h2]; simp
/-- how many rings -/
def NR (R : Nat → Int32) : Nat → Nat := sm (fun p => if LEA (R p) p = true then 1 else 0)
theorem nr_y {R : Nat → Int32} {h i : Nat} (e : h = NR R i) (c : LEA (R i) i = true) : h + 1 = NR R (i + 1) := by
  show h + 1 = NR R i + (if LEA (R i) i = true then 1 else 0)
  rw [if_pos c, e]
theorem nr_n {R : Nat → Int32} {h i : Nat} (e : h = NR R i) (c : ¬ LEA (R i) i = true) : h = NR R (i + 1) := by
  show h = NR R i + (if LEA (R i) i = true then 1 else 0)
  rw [if_neg c, e]; rfl
/-- the k-th ring, met from i on -/
def RAT (R : Nat → Int32) (k : Int32) : Nat → Int32
  | 0 => -1
  | n + 1 => if LEA (R (7 - n)) (7 - n) = true ∧ nI (NR R (7 - n)) = k then R (7 - n) else RAT R k n
theorem rat_y {R : Nat → Int32} {k v : Int32} {i h : Nat} (hi : i < 8) (eh : h = NR R i) (c : LEA (R i) i = true) (ck : nI h = k) (ev : v = R i) (hn : ∀ j, j < i → ¬ (LEA (R j) j = true ∧ nI (NR R j) = k)) : v = RAT R k 8 := by
  have key : ∀ n, n ≤ 8 → 8 - i ≤ n → RAT R k n = R i := by
    intro n
    induction n with
    | zero => intro _ h2; omega
    | succ n ih =>
      intro h1 h2
      show (if LEA (R (7 - n)) (7 - n) = true ∧ nI (NR R (7 - n)) = k then R (7 - n) else RAT R k n) = R i
      by_cases q : 7 - n = i
      · rw [q, if_pos ⟨c, by rw [← eh]; exact ck⟩]
      · rw [if_neg (hn (7 - n) (by omega))]
        exact ih (by omega) (by omega)
  rw [key 8 (by omega) (by omega)]; exact ev
theorem rat_n {R : Nat → Int32} {k : Int32} (hn : ∀ j, j < 8 → ¬ (LEA (R j) j = true ∧ nI (NR R j) = k)) : -1 = RAT R k 8 := by
  have key : ∀ n, n ≤ 8 → RAT R k n = -1 := by
    intro n
    induction n with
    | zero => intro _; rfl
    | succ n ih =>
      intro h1
      show (if LEA (R (7 - n)) (7 - n) = true ∧ nI (NR R (7 - n)) = k then R (7 - n) else RAT R k n) = -1
      rw [if_neg (hn (7 - n) (by omega))]
      exact ih (by omega)
  exact (key 8 (Nat.le_refl _)).symm
theorem rat_s {R : Nat → Int32} {k : Int32} {i : Nat} (H : ∀ j, j < i → ¬ (LEA (R j) j = true ∧ nI (NR R j) = k)) (h : ¬ (LEA (R i) i = true ∧ nI (NR R i) = k)) : ∀ j, j < i + 1 → ¬ (LEA (R j) j = true ∧ nI (NR R j) = k) := fun j hj => by
  by_cases c : j = i
  · subst c; exact h
  · exact H j (by omega)
section
variable {nl lj : Nat} {li wo de su : Nat → Nat} {it ki to : Nat → Int32} {ru th : Int32} {ag lim lam : Nat → Nat} {p0 p1 v : Int32}
def ASE (li wo de su : Nat → Nat) (it ki to : Nat → Int32) (ru th : Int32) (ag lim lam : Nat → Nat) (l : Nat) (p1 : Int32) : Int32 := if p1 = 0 then nI (lim l) else if p1 = 1 then nI (lam l) else if p1 = 2 then nI (TTN li wo de su it ki to ru th ag lim lam l) else if p1 = 3 then (INL li wo de su it ki to ru th ag lim lam l) else if p1 = 4 then ORS (fun p => bt (INL li wo de su it ki to ru th ag lim lam l) p && OUL (TT (YI ki to (INL li wo de su it ki to ru th ag lim lam l))) (KE ki) p) 8 else if p1 = 5 then nI (NR (RIN (clo (YI ki to (INL li wo de su it ki to ru th ag lim lam l)) 8)) 8) else if p1 = 6 then nI (NLL li wo de su it ki to ru th ag lim lam l) else if p1 = 7 then nI (sm (fun p => NB ((YI ki to (INL li wo de su it ki to ru th ag lim lam l)) p)) 8) else if p1 = 8 then nI (sm (fun p => NB ((TT (YI ki to (INL li wo de su it ki to ru th ag lim lam l))) p)) 8) else -1
/-- something of a loss, if there is such a one -/
def OFL (nl : Nat) (p0 v : Int32) : Int32 := if 0 ≤ p0 ∧ p0 ≤ nI nl - 1 then v else -1
theorem ofl_y (h : 0 ≤ p0 ∧ p0 ≤ nI nl - 1) {F : Nat → Int32} (e0 : p0 = nI lj) (hj : lj < 2 ^ 31) (hv : v = F lj) : v = OFL nl p0 (F (Int32.toNatClampNeg p0)) := by
  unfold OFL
  rw [if_pos h, e0, nI_clamp hj, hv]
theorem ofl_n (h : ¬ (0 ≤ p0 ∧ p0 ≤ nI nl - 1)) : -1 = OFL nl p0 v := (if_neg h).symm
/-- a level's set, a level's height -/
def ALV (li wo de su : Nat → Nat) (it ki to : Nat → Int32) (ru th : Int32) (ag lim lam : Nat → Nat) (l : Nat) (p1 : Int32) : Int32 := if 0 ≤ p1 ∧ p1 ≤ nI (NLL li wo de su it ki to ru th ag lim lam l) - 1 then ORS (fun p => bt (INL li wo de su it ki to ru th ag lim lam l) p && decide (LVL (TT (YI ki to (INL li wo de su it ki to ru th ag lim lam l))) p = Int32.toNatClampNeg p1)) 8 else -1
def AST (li wo de su : Nat → Nat) (it ki to : Nat → Int32) (ru th : Int32) (ag lim lam : Nat → Nat) (l : Nat) (p1 : Int32) : Int32 := if 0 ≤ p1 ∧ p1 ≤ nI (NLL li wo de su it ki to ru th ag lim lam l) - 1 then nI (HGT (CPL li wo de su it ki to (INL li wo de su it ki to ru th ag lim lam l) (LFN li wo de su it ki to ru th ag lim lam l) (lim l) (lam l - TTS li wo de su it ki to (INL li wo de su it ki to ru th ag lim lam l) (LFN li wo de su it ki to ru th ag lim lam l) (lim l) (lam l) (Int32.toNatClampNeg p1)) (Int32.toNatClampNeg p1)) (DUE li wo de su it ki to (INL li wo de su it ki to ru th ag lim lam l) (LFN li wo de su it ki to ru th ag lim lam l) (lim l) (lam l) (Int32.toNatClampNeg p1))) else -1
end
/-! levels -/
section
variable {qj l : Nat} {li wo de su : Nat → Nat} {it ki to : Nat → Int32} {ru th : Int32} {ag lim lam : Nat → Nat} {p1 v : Int32}
theorem alv_y (h : 0 ≤ p1 ∧ p1 ≤ nI (NLL li wo de su it ki to ru th ag lim lam l) - 1) (e1 : p1 = nI qj) (hq : qj < 2 ^ 31) (hv : v = ORS (fun p => bt (INL li wo de su it ki to ru th ag lim lam l) p && decide (LVL (TT (YI ki to (INL li wo de su it ki to ru th ag lim lam l))) p = qj)) 8) : v = ALV li wo de su it ki to ru th ag lim lam l p1 := by
  unfold ALV
  rw [if_pos h, e1, nI_clamp hq, hv]
theorem alv_m (h : 0 ≤ p1 ∧ p1 ≤ nI (NLL li wo de su it ki to ru th ag lim lam l) - 1) (hv : v = ORS (fun p => bt (INL li wo de su it ki to ru th ag lim lam l) p && decide (nI (LVL (TT (YI ki to (INL li wo de su it ki to ru th ag lim lam l))) p) = p1)) 8) : v = ALV li wo de su it ki to ru th ag lim lam l p1 := by
  have hb : (NLL li wo de su it ki to ru th ag lim lam l) ≤ 8 := nl_8 (tt_rk _)
  obtain ⟨qj, hq, e⟩ := wi_n (by omega) h
  refine alv_y h e (by omega) (hv.trans (ors_cong (fun p hp => ?_)))
  have h7 := lvl_7 (tt_rk (YI ki to (INL li wo de su it ki to ru th ag lim lam l))) hp
  rw [e]
  exact congrArg (fun z => bt (INL li wo de su it ki to ru th ag lim lam l) p && z) (decide_eq_decide.mpr (nI_eq (by omega) (by omega)))
end
/-! heights -/
theorem hd_y {A : Nat → Int32} {c : Nat → Nat} {i x : Nat} (hi : i < 8) (H : ∀ k, k < 8 → A k = nI (if k < i then c k else 0)) (hc : c i = x) : ∀ k, k < 8 → upd A (Int32.toNatClampNeg (nI i)) (nI x) k = nI (if k < i + 1 then c k else 0) := fun k hk => by
  rw [nI_clamp (by omega)]
  by_cases q : k = i
  · subst q; rw [pk_us, if_pos (by omega), hc]
  · rw [pk_un q, H k hk]
    by_cases q2 : k < i
    · rw [if_pos q2, if_pos (by omega)]
    · rw [if_neg q2, if_neg (by omega)]
theorem hd_n {A : Nat → Int32} {c : Nat → Nat} {i : Nat} (H : ∀ k, k < 8 → A k = nI (if k < i then c k else 0)) (hc : c i = 0) : ∀ k, k < 8 → A k = nI (if k < i + 1 then c k else 0) := fun k hk => by
  rw [H k hk]
  by_cases q : k = i
  · subst q; rw [if_neg (by omega), if_pos (by omega), hc]
  · by_cases q2 : k < i
    · rw [if_pos q2, if_pos (by omega)]
    · rw [if_neg q2, if_neg (by omega)]
section
variable {qj l nl j k : Nat} {li wo de su lf : Nat → Nat} {it ki to : Nat → Int32} {ru th : Int32} {ag lim lam : Nat → Nat} {p1 v w inn : Int32} {im am : Nat}
theorem cp_w4 (hw : w = ORS (fun p => bt inn p && decide (LVL (TT (YI ki to inn)) p = j)) 8) (hj : j < nl) (hk : k < 8) : CPL li wo de su it ki to inn lf im (am - TTS li wo de su it ki to inn lf im am j) j k = if bt w k = true then CAPL li wo de su it ki to inn lf im am nl k else 0 := by
  unfold CPL CAPL PAY
  rw [hw, ors_bt8 hk]
  show (if (bt inn k && !(OUL (TT (YI ki to inn)) (KE ki) k) && decide (LVL (TT (YI ki to inn)) k = j)) = true then OWE li wo de su it lf k im (am - TTS li wo de su it ki to inn lf im am j) else 0) = if (bt inn k && decide (LVL (TT (YI ki to inn)) k = j)) = true then (if (bt inn k && !(OUL (TT (YI ki to inn)) (KE ki) k) && decide (LVL (TT (YI ki to inn)) k < nl)) = true then OWE li wo de su it lf k im (am - TTS li wo de su it ki to inn lf im am (LVL (TT (YI ki to inn)) k)) else 0) else 0
  generalize hb : bt inn k = b
  generalize ho : OUL (TT (YI ki to inn)) (KE ki) k = o
  generalize hL : LVL (TT (YI ki to inn)) k = L
  by_cases c : L = j
  · subst c
    cases b <;> cases o <;> simp [hj]
  · simp [c]
theorem ast_y (h : 0 ≤ p1 ∧ p1 ≤ nI (NLL li wo de su it ki to ru th ag lim lam l) - 1) (e1 : p1 = nI qj) (hq : qj < 2 ^ 31) (hv : v = nI (HGT (CPL li wo de su it ki to (INL li wo de su it ki to ru th ag lim lam l) (LFN li wo de su it ki to ru th ag lim lam l) (lim l) (lam l - TTS li wo de su it ki to (INL li wo de su it ki to ru th ag lim lam l) (LFN li wo de su it ki to ru th ag lim lam l) (lim l) (lam l) qj) qj) (DUE li wo de su it ki to (INL li wo de su it ki to ru th ag lim lam l) (LFN li wo de su it ki to ru th ag lim lam l) (lim l) (lam l) qj))) : v = AST li wo de su it ki to ru th ag lim lam l p1 := by
  unfold AST
  rw [if_pos h, e1, nI_clamp hq, hv]
end
