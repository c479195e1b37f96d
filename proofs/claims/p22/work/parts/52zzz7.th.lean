/-! insurers that pay nothing -/
def BCAP (b : Int32) (ki : Nat → Int32) (lo sh : Nat → Nat) (p : Nat) : Nat := if bt b p = true then 0 else if ki p = 0 then lo p - sh p else 0
def BGP (b : Int32) (sh : Nat → Nat) (p : Nat) : Nat := if bt b p = true then sh p else 0
theorem bcap_b {b : Int32} {ki : Nat → Int32} {lo sh : Nat → Nat} {p c : Nat} (h : lo p ≤ c) : BCAP b ki lo sh p ≤ c := by
  unfold BCAP
  by_cases q : bt b p = true
  · rw [if_pos q]; exact Nat.zero_le _
  · rw [if_neg q]
    by_cases q2 : ki p = 0
    · rw [if_pos q2]; omega
    · rw [if_neg q2]; exact Nat.zero_le _
theorem bcap_on {b : Int32} {ki : Nat → Int32} {lo sh : Nat → Nat} {p : Nat} (h : bt b p = true) : BCAP b ki lo sh p = 0 := if_pos h
theorem bcap_y {b : Int32} {ki : Nat → Int32} {lo sh : Nat → Nat} {p : Nat} (h : ¬ bt b p = true) (hk : ki p = 0) : BCAP b ki lo sh p = lo p - sh p := by
  unfold BCAP; rw [if_neg h, if_pos hk]
theorem bcap_k {b : Int32} {ki : Nat → Int32} {lo sh : Nat → Nat} {p : Nat} (hk : ¬ ki p = 0) : BCAP b ki lo sh p = 0 := by
  unfold BCAP; rw [if_neg hk, ite_self]
theorem bcap_z {b : Int32} {ki : Nat → Int32} {lo sh : Nat → Nat} {p : Nat} (h : lo p = 0) : BCAP b ki lo sh p = 0 := by
  unfold BCAP; rw [h, Nat.zero_sub, ite_self, ite_self]
theorem sm_no {F : Nat → Nat} {h i : Nat} (e : h = sm F i) (hF : F i = 0) : h = sm F (i + 1) := by
  show h = sm F i + F i
  rw [e, hF]; rfl
theorem rowb {A : Nat → Int32} {F : Nat → Nat} {i x : Nat} {v : Int32} (hi : i < 8) (H : ∀ k, k < i → A k = nI (F k)) (hv : v = nI x) (hx : F i = x) : ∀ k, k < i + 1 → upd A (Int32.toNatClampNeg (nI i)) v k = nI (F k) := fun k hk => by
  rw [nI_clamp (by omega)]
  by_cases q : k = i
  · subst q; rw [pk_us, hv, hx]
  · rw [pk_un q]; exact H k (by omega)
section
variable {l p : Nat} {li wo de su : Nat → Nat} {it ki to : Nat → Int32} {ru th : Int32} {ag lim lam : Nat → Nat}
theorem shn_lone (hli : ∀ p, p < 8 → li p ≤ 1000000) (hp : p < 8) : SHN li wo de su it ki to ru th ag lim lam l p ≤ LONE li wo de su it th (LFN li wo de su it ki to ru th ag lim lam l) (lim l) (lam l) p := by
  have h := shl_le (wo := wo) (de := de) (su := su) (it := it) (ki := ki) (to := to) (ru := ru) (inn := INL li wo de su it ki to ru th ag lim lam l) (lf := LFN li wo de su it ki to ru th ag lim lam l) (im := lim l) (am := lam l) hli hp (NLL li wo de su it ki to ru th ag lim lam l)
  have e : SHN li wo de su it ki to ru th ag lim lam l p = SHL li wo de su it ki to ru (INL li wo de su it ki to ru th ag lim lam l) (LFN li wo de su it ki to ru th ag lim lam l) (lim l) (lam l) (NLL li wo de su it ki to ru th ag lim lam l) p := rfl
  rw [← e] at h
  by_cases c : bt (INL li wo de su it ki to ru th ag lim lam l) p = true ∧ LVL (TT (YI ki to (INL li wo de su it ki to ru th ag lim lam l))) p < NLL li wo de su it ki to ru th ag lim lam l
  · rw [if_pos c] at h
    have hb : bt (INL li wo de su it ki to ru th ag lim lam l) p = decide (0 < LONE li wo de su it th (LFN li wo de su it ki to ru th ag lim lam l) (lim l) (lam l) p) := ors_bt8 hp
    have h0 : 0 < LONE li wo de su it th (LFN li wo de su it ki to ru th ag lim lam l) (lim l) (lam l) p := of_decide_eq_true (hb.symm.trans c.1)
    by_cases ct : bt th p = true
    · rw [← lone_y ct]; exact h
    · rw [← lone_n ct] at h0; exact absurd h0 (Nat.lt_irrefl 0)
  · rw [if_neg c] at h
    omega
end
theorem nI_pol {n p : Nat} (h : p < n) (hn : n ≤ 8) : 0 ≤ nI p ∧ nI p ≤ nI n - 1 := by
  rw [show nI n - 1 = nI (n - 1) from pk_sub (a := n) (b := 1) (by omega)]
  exact ⟨(nI_leI (a := 0) (b := p) (by decide) (by omega)).mpr (Nat.zero_le _), (nI_leI (by omega) (by omega)).mpr (by omega)⟩
def ABR (b ru : Int32) (ki : Nat → Int32) (lo sh : Nat → Nat) (p2 : Int32) : Int32 := if p2 = -1 then nI (sm (BGP b sh) 8 - min (sm (BCAP b ki lo sh) 8) (sm (BGP b sh) 8)) else if bt b (Int32.toNatClampNeg p2) = true then 0 else nI (sh (Int32.toNatClampNeg p2) + DIV ru (BCAP b ki lo sh) (min (sm (BCAP b ki lo sh) 8) (sm (BGP b sh) 8)) (Int32.toNatClampNeg p2))
def A_br (np nl : Nat) (li wo de su : Nat → Nat) (it ki to : Nat → Int32) (ru : Int32) (ag lim lam : Nat → Nat) (p0 p1 p2 : Int32) : Int32 := if (0 ≤ p0 ∧ p0 ≤ nI nl - 1) ∧ (p2 = -1 ∨ (0 ≤ p2 ∧ p2 ≤ nI np - 1)) ∧ (0 ≤ p1 ∧ p1 ≤ nI (2 ^ np - 1)) then ABR p1 ru ki (LONE li wo de su it (nI (2 ^ np - 1)) (LFN li wo de su it ki to ru (nI (2 ^ np - 1)) ag lim lam (Int32.toNatClampNeg p0)) (lim (Int32.toNatClampNeg p0)) (lam (Int32.toNatClampNeg p0))) (SHN li wo de su it ki to ru (nI (2 ^ np - 1)) ag lim lam (Int32.toNatClampNeg p0)) p2 else -1
section
variable {np nl lj pj : Nat} {li wo de su : Nat → Nat} {it ki to : Nat → Int32} {ru : Int32} {ag lim lam : Nat → Nat} {p0 p1 p2 v b : Int32} {lo sh : Nat → Nat}
theorem a_br_y (h : (0 ≤ p0 ∧ p0 ≤ nI nl - 1) ∧ (p2 = -1 ∨ (0 ≤ p2 ∧ p2 ≤ nI np - 1)) ∧ (0 ≤ p1 ∧ p1 ≤ nI (2 ^ np - 1))) (e0 : p0 = nI lj) (hj : lj < 2 ^ 31) (hv : v = ABR p1 ru ki (LONE li wo de su it (nI (2 ^ np - 1)) (LFN li wo de su it ki to ru (nI (2 ^ np - 1)) ag lim lam lj) (lim lj) (lam lj)) (SHN li wo de su it ki to ru (nI (2 ^ np - 1)) ag lim lam lj) p2) : v = A_br np nl li wo de su it ki to ru ag lim lam p0 p1 p2 := by
  unfold A_br
  rw [if_pos h, e0, nI_clamp hj, hv]
theorem abr_1 (h : p2 = -1) (hv : v = nI (sm (BGP b sh) 8 - min (sm (BCAP b ki lo sh) 8) (sm (BGP b sh) 8))) : v = ABR b ru ki lo sh p2 := by
  unfold ABR; rw [if_pos h, hv]
theorem abr_2 (h : ¬ p2 = -1) (e2 : p2 = nI pj) (hp : pj < 8) (hb : bt b pj = true) : 0 = ABR b ru ki lo sh p2 := by
  unfold ABR; rw [if_neg h, e2, nI_clamp (by omega), if_pos hb]
theorem abr_3 (h : ¬ p2 = -1) (e2 : p2 = nI pj) (hp : pj < 8) (hb : ¬ bt b pj = true) (hv : v = nI (sh pj + DIV ru (BCAP b ki lo sh) (min (sm (BCAP b ki lo sh) 8) (sm (BGP b sh) 8)) pj)) : v = ABR b ru ki lo sh p2 := by
  unfold ABR; rw [if_neg h, e2, nI_clamp (by omega), if_neg hb, hv]
end
