/-! shares asked, and what throws -/
def SHC (np nl : Nat) (p0 p1 p2 : Int32) : Prop := ((0 ≤ p0 ∧ p0 ≤ nI nl - 1) ∧ (0 ≤ p1 ∧ p1 ≤ nI np - 1)) ∧ (0 ≤ p2 ∧ p2 ≤ 8)
def SHT2 (c : Prop) (v : Int32) : Prop := (c ∧ v = 0) ∨ (¬ c ∧ v = 1)
theorem shx_eq {c : Prop} {v w : Int32} (h1 : SHT2 c v) (h2 : SHT2 c w) : v = w := by
  rcases h1 with ⟨a, b⟩ | ⟨a, b⟩ <;> rcases h2 with ⟨x, y⟩ | ⟨x, y⟩
  · rw [b, y]
  · exact absurd a x
  · exact absurd x a
  · rw [b, y]
theorem shx_0 {c : Prop} {v : Int32} (h : SHT2 c v) (e : v = 0) : c := by
  rcases h with ⟨a, b⟩ | ⟨a, b⟩
  · exact a
  · rw [b] at e; exact absurd e (by decide)
theorem n_in {x : Int32} {m : Nat} {h8 : Int32} (e : h8 = nI m) (hm : m < 2 ^ 31) (h : x.toInt < 0 ∨ (m : Int) < x.toInt) : ¬ (0 ≤ x ∧ x ≤ h8) := fun q => by
  subst e
  have h3 := Int32.le_iff_toInt_le.mp q.1
  have h4 := Int32.le_iff_toInt_le.mp q.2
  rw [show Int32.toInt 0 = 0 from rfl] at h3
  rw [nI_toInt hm] at h4
  omega
def ASH (li wo de su : Nat → Nat) (it ki to : Nat → Int32) (ru th : Int32) (ag lim lam : Nat → Nat) (l p : Nat) (w : Int32) : Int32 := if w = 0 then nI (LONE li wo de su it th (LFN li wo de su it ki to ru th ag lim lam l) (lim l) (lam l) p) else if w = 1 then (if bt (INL li wo de su it ki to ru th ag lim lam l) p = true then nI (LVL (TT (YI ki to (INL li wo de su it ki to ru th ag lim lam l))) p) else -1) else if w = 2 then nI (CAPL li wo de su it ki to (INL li wo de su it ki to ru th ag lim lam l) (LFN li wo de su it ki to ru th ag lim lam l) (lim l) (lam l) (NLL li wo de su it ki to ru th ag lim lam l) p) else if w = 3 then nI (SHN li wo de su it ki to ru th ag lim lam l p) else if w = 4 then RIN (clo (YI ki to (INL li wo de su it ki to ru th ag lim lam l)) 8) p else if w = 5 then YI ki to (INL li wo de su it ki to ru th ag lim lam l) p else if w = 6 then TT (YI ki to (INL li wo de su it ki to ru th ag lim lam l)) p else if w = 7 then nI (LFN li wo de su it ki to ru th ag lim lam l p) else (if bt (INL li wo de su it ki to ru th ag lim lam l) p = true then nI (lam l - TTS li wo de su it ki to (INL li wo de su it ki to ru th ag lim lam l) (LFN li wo de su it ki to ru th ag lim lam l) (lim l) (lam l) (LVL (TT (YI ki to (INL li wo de su it ki to ru th ag lim lam l))) p)) else -1)
theorem lv_nl {inn : Int32} {T : Nat → Int32} {p : Nat} (hp : p < 8) (h : bt inn p = true) : LVL T p < NL inn T := nl_lt hp h

