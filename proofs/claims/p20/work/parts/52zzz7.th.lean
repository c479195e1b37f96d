section
variable {l p : Nat} {li wo de su : Nat → Nat} {it ki to : Nat → Int32} {ru th : Int32} {ag lim lam : Nat → Nat}
theorem shn_lone (hli : ∀ p, p < 8 → li p ≤ 1000000) (hp : p < 8) : SHN li wo de su it ki to ru th ag lim lam l p ≤ LONE li wo de su it th (LFN li wo de su it ki to ru th ag lim lam l) (lim l) (lam l) p := by
  have h := shl_le (wo := wo) (de := de) (su := su) (it := it) (ki := ki) (to := to) (ru := ru) (inn := INL li wo de su it ki to ru th ag lim lam l) (lf := LFN li wo de su it ki to ru th ag lim lam l) (im := lim l) (am := lam l) hli hp (NLL li wo de su it ki to ru th ag lim lam l)
  have e : SHN li wo de su it ki to ru th ag lim lam l p = SHL li wo de su it ki to ru (INL li wo de su it ki to ru th ag lim lam l) (LFN li wo de su it ki to ru th ag lim lam l) (lim l) (lam l) (NLL li wo de su it ki to ru th ag lim lam l) p := rfl
  rw [← e] at h
  by_cases c : bt (INL li wo de su it ki to ru th ag lim lam l) p = true ∧ LVL (TT (YI ki to (INL li wo de su it ki to ru th ag lim lam l))) p < NLL li wo de su it ki to ru th ag lim lam l
  · rw [if_pos c] at h
    have hb : bt (INL li wo de su it ki to ru th ag lim lam l) p = decide (0 < LONE li wo de su it th (LFN li wo de su it ki to ru th ag lim lam l) (lim l) (lam l) p) := ors_bt8 hp
    have h0 : 0 < LONE li wo de su it th (LFN li wo de su it ki to ru th ag lim lam l) (lim l) (lam l) p := of_decide_eq_true (hb.symm.trans c.1)
    by_cases ct : bt th p = true
    · rw [← lone_y ct]; exact h
    · rw [← lone_n ct] at h0; exact absurd h0 (Nat.lt_irrefl 0)
  · rw [if_neg c] at h
    omega
end
section
variable {np nl lj pj : Nat} {li wo de su : Nat → Nat} {it ki to : Nat → Int32} {ru : Int32} {ag lim lam : Nat → Nat} {p0 p1 p2 v b : Int32} {lo sh : Nat → Nat}
end
