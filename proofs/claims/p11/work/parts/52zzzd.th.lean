/-! a policy, asked -/
theorem uby_stay {li wo de su : Nat → Nat} {it ki to : Nat → Int32} {ru th : Int32} {ag lim lam : Nat → Nat} {k p : Nat} (hk : k < 10) (h : UBY li wo de su it ki to ru th ag lim lam (k + 1) p = nI k) : ∀ n, UBY li wo de su it ki to ru th ag lim lam (k + 1 + n) p = nI k
  | 0 => h
  | n + 1 => by
    have ih := uby_stay hk h n
    show (if ag p - SPN li wo de su it ki to ru th ag lim lam (k + 1 + n + 1) p = 0 ∧ UBY li wo de su it ki to ru th ag lim lam (k + 1 + n) p = -1 then nI (k + 1 + n) else UBY li wo de su it ki to ru th ag lim lam (k + 1 + n) p) = nI k
    rw [ih, if_neg (fun z => ni_m1 (by omega) z.2)]
theorem uby_y {li wo de su : Nat → Nat} {it ki to : Nat → Int32} {ru th : Int32} {ag lim lam : Nat → Nat} {k p n : Nat} (hk : k < 10) (hn : k < n) (h : UBY li wo de su it ki to ru th ag lim lam k p = -1) (he : SPN li wo de su it ki to ru th ag lim lam (k + 1) p = ag p) : nI k = UBY li wo de su it ki to ru th ag lim lam n p := by
  have h1 : UBY li wo de su it ki to ru th ag lim lam (k + 1) p = nI k := by
    show (if ag p - SPN li wo de su it ki to ru th ag lim lam (k + 1) p = 0 ∧ UBY li wo de su it ki to ru th ag lim lam k p = -1 then nI k else UBY li wo de su it ki to ru th ag lim lam k p) = nI k
    rw [if_pos ⟨by omega, h⟩]
  have h2 := uby_stay hk h1 (n - (k + 1))
  rw [show k + 1 + (n - (k + 1)) = n from by omega] at h2
  exact h2.symm
theorem uby_n {li wo de su : Nat → Nat} {it ki to : Nat → Int32} {ru th : Int32} {ag lim lam : Nat → Nat} {k p : Nat} (h : UBY li wo de su it ki to ru th ag lim lam k p = -1) (hle : SPN li wo de su it ki to ru th ag lim lam (k + 1) p ≤ ag p) (he : ¬ SPN li wo de su it ki to ru th ag lim lam (k + 1) p = ag p) : UBY li wo de su it ki to ru th ag lim lam (k + 1) p = -1 := by
  show (if ag p - SPN li wo de su it ki to ru th ag lim lam (k + 1) p = 0 ∧ UBY li wo de su it ki to ru th ag lim lam k p = -1 then nI k else UBY li wo de su it ki to ru th ag lim lam k p) = -1
  rw [if_neg (fun z => by omega)]; exact h
theorem sub_m1 {f : Nat → Int32} {su : Nat → Nat} {k : Nat} (H : SUB f su) (hk : k < 64) : f k = nI (su k) - 1 := by
  have h := (H k hk).2
  by_cases c : su k = 0
  · rw [if_pos c] at h; rw [h, c]; decide
  · rw [if_neg c] at h
    rw [h]; exact (pk_sub (a := su k) (b := 1) (by omega)).symm
def OFC (np : Nat) (p0 p1 : Int32) : Prop := (0 ≤ p0 ∧ p0 ≤ nI np - 1) ∧ ((0 ≤ p1 ∧ p1 ≤ 10) ∨ (20 ≤ p1 ∧ p1 ≤ 27))
def AOF (nl : Nat) (B0 B1 B2 B3 B7 : Nat → Int32) (li wo de su : Nat → Nat) (it ki to : Nat → Int32) (ru th : Int32) (ag lim lam : Nat → Nat) (p : Nat) (w : Int32) : Int32 := if w = 0 then B0 p else if w = 1 then B1 p else if w = 2 then B2 p else if w = 3 then B3 p else if w = 4 then it p else if w = 5 then ki p else if w = 6 then to p else if w = 7 then nI (LFN li wo de su it ki to ru th ag lim lam nl p) else if w = 8 then nI (SPN li wo de su it ki to ru th ag lim lam nl p) else if w = 9 then B7 p else if w = 10 then UBY li wo de su it ki to ru th ag lim lam nl p else nI (su (8 * p + (Int32.toNatClampNeg w - 20))) - 1
theorem aof_s {nl : Nat} {B0 B1 B2 B3 B7 : Nat → Int32} {li wo de su : Nat → Nat} {it ki to : Nat → Int32} {ru th : Int32} {ag lim lam : Nat → Nat} {p wj : Nat} {w v : Int32} (e : w = nI wj) (h1 : 20 ≤ wj) (h2 : wj ≤ 27) (hv : v = nI (su (8 * p + (wj - 20))) - 1) : v = AOF nl B0 B1 B2 B3 B7 li wo de su it ki to ru th ag lim lam p w := by
  have hn : ∀ k, k < 20 → ¬ w = nI k := fun k hk z => by
    have := (nI_eq (a := wj) (b := k) (by omega) (by omega)).mp (e.symm.trans z)
    omega
  unfold AOF
  rw [if_neg (show ¬ w = 0 from hn 0 (by decide)), if_neg (show ¬ w = 1 from hn 1 (by decide)), if_neg (show ¬ w = 2 from hn 2 (by decide)), if_neg (show ¬ w = 3 from hn 3 (by decide)), if_neg (show ¬ w = 4 from hn 4 (by decide)), if_neg (show ¬ w = 5 from hn 5 (by decide)), if_neg (show ¬ w = 6 from hn 6 (by decide)), if_neg (show ¬ w = 7 from hn 7 (by decide)), if_neg (show ¬ w = 8 from hn 8 (by decide)), if_neg (show ¬ w = 9 from hn 9 (by decide)), if_neg (show ¬ w = 10 from hn 10 (by decide)), e, nI_clamp (by omega), hv]
theorem spn_ag {li wo de su : Nat → Nat} {it ki to : Nat → Int32} {ru th : Int32} {ag lim lam : Nat → Nat} {l p : Nat} (h : SPN li wo de su it ki to ru th ag lim lam l p ≤ ag p) : ag p - LFN li wo de su it ki to ru th ag lim lam l p = SPN li wo de su it ki to ru th ag lim lam l p := by
  show ag p - (ag p - SPN li wo de su it ki to ru th ag lim lam l p) = SPN li wo de su it ki to ru th ag lim lam l p
  omega

