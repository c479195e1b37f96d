/-! the answers, as both give them -/
section
variable {np nl lj pj : Nat} {li wo de su : Nat → Nat} {it ki to : Nat → Int32} {ru : Int32} {ag lim lam : Nat → Nat} {p0 p1 p2 s : Int32}
/-- how many would pay another share, had one another kind of clause -/
def DF (f g : Nat → Nat) (p : Nat) : Nat := if f p = g p then 0 else 1
def A_mv (np nl : Nat) (li wo de su : Nat → Nat) (it ki to : Nat → Int32) (ru : Int32) (ag lim lam : Nat → Nat) (p0 p1 p2 : Int32) : Int32 := if ((0 ≤ p0 ∧ p0 ≤ nI nl - 1) ∧ (0 ≤ p1 ∧ p1 ≤ nI np - 1)) ∧ (0 ≤ p2 ∧ p2 ≤ 3) then nI (sm (DF (SHN li wo de su it (upd ki (Int32.toNatClampNeg p1) p2) to ru (nI (2 ^ np - 1)) ag lim lam (Int32.toNatClampNeg p0)) (SHN li wo de su it ki to ru (nI (2 ^ np - 1)) ag lim lam (Int32.toNatClampNeg p0))) 8) else -1
theorem a_mv_y {n : Nat} (h : ((0 ≤ p0 ∧ p0 ≤ nI nl - 1) ∧ (0 ≤ p1 ∧ p1 ≤ nI np - 1)) ∧ (0 ≤ p2 ∧ p2 ≤ 3)) (e0 : p0 = nI lj) (e1 : p1 = nI pj) (hj : lj < 2 ^ 31) (hn : n = sm (DF (SHN li wo de su it (upd ki (Int32.toNatClampNeg (nI pj)) p2) to ru (nI (2 ^ np - 1)) ag lim lam lj) (SHN li wo de su it ki to ru (nI (2 ^ np - 1)) ag lim lam lj)) 8) : nI n = A_mv np nl li wo de su it ki to ru ag lim lam p0 p1 p2 := by
  unfold A_mv
  rw [if_pos h, e0, e1, nI_clamp hj, hn]
end
theorem df_eq {f g : Nat → Nat} {n i : Nat} {a b : Int32} (h : n = sm (DF f g) i) (ha : a = nI (f i)) (hb : b = nI (g i)) (hf : f i < 2 ^ 31) (hg : g i < 2 ^ 31) (c : a = b) : n = sm (DF f g) (i + 1) := by
  have e : f i = g i := (nI_eq hf hg).mp (ha.symm.trans (c.trans hb))
  show n = sm (DF f g) i + DF f g i
  unfold DF at h ⊢
  rw [if_pos e]; exact h
theorem df_ne {f g : Nat → Nat} {n i : Nat} {a b : Int32} (h : n = sm (DF f g) i) (ha : a = nI (f i)) (hb : b = nI (g i)) (c : ¬ a = b) : n + 1 = sm (DF f g) (i + 1) := by
  have e : ¬ f i = g i := fun q => c (by rw [ha, hb, q])
  show n + 1 = sm (DF f g) i + DF f g i
  unfold DF at h ⊢
  rw [if_neg e, h]
section
variable {np nl lj pj tl tt : Nat} {li wo de su : Nat → Nat} {it ki to : Nat → Int32} {ru s inn out v : Int32} {ag lim lam : Nat → Nat} {p0 p1 : Int32} {S6 S8 S9 S10 S11 W1 W2 W3 W4 G19 G20 G21 G23 G24 G25 G26 G27 G33 G34 : Nat → Int32}
end
theorem upd_cong {f g : Nat → Int32} {ix : Nat} {x : Int32} (h : ∀ k, k < 8 → f k = g k) : ∀ k, k < 8 → upd f ix x k = upd g ix x k := fun k hk => by
  by_cases c : k = ix
  · subst c; rw [pk_us, pk_us]
  · rw [pk_un c, pk_un c]; exact h k hk
theorem shn_b {li wo de su : Nat → Nat} {it ki to : Nat → Int32} {ru th : Int32} {ag lim lam : Nat → Nat} {l p : Nat} (hli : ∀ p, p < 8 → li p ≤ 1000000) (hag : ∀ p, p < 8 → ag p ≤ 9000000) (hp : p < 8) : SHN li wo de su it ki to ru th ag lim lam l p < 2 ^ 31 := by
  have h1 := shn_le (wo := wo) (de := de) (su := su) (it := it) (ki := ki) (to := to) (ru := ru) (th := th) (ag := ag) (lim := lim) (lam := lam) (l := l) hli hp
  have h2 := lfn_b (li := li) (wo := wo) (de := de) (su := su) (it := it) (ki := ki) (to := to) (ru := ru) (th := th) (ag := ag) (lim := lim) (lam := lam) (l := l) (hag p hp)
  omega

