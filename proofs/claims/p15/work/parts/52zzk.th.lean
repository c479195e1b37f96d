/-! LOSSES one behind the other -/
def LSF (ag sp : Nat → Nat) : Nat → Nat := fun q => ag q - sp q
def SPN (li wo de su : Nat → Nat) (it ki to : Nat → Int32) (ru th : Int32) (ag lim lam : Nat → Nat) : Nat → Nat → Nat
  | 0 => fun _ => 0
  | l + 1 => fun p => SPN li wo de su it ki to ru th ag lim lam l p + SHL li wo de su it ki to ru (INN li wo de su it th (LSF ag (SPN li wo de su it ki to ru th ag lim lam l)) (lim l) (lam l)) (LSF ag (SPN li wo de su it ki to ru th ag lim lam l)) (lim l) (lam l) (NL (INN li wo de su it th (LSF ag (SPN li wo de su it ki to ru th ag lim lam l)) (lim l) (lam l)) (TT (YI ki to (INN li wo de su it th (LSF ag (SPN li wo de su it ki to ru th ag lim lam l)) (lim l) (lam l))))) p
/-- what is left ahead of loss l -/
def LFN (li wo de su : Nat → Nat) (it ki to : Nat → Int32) (ru th : Int32) (ag lim lam : Nat → Nat) (l : Nat) : Nat → Nat := LSF ag (SPN li wo de su it ki to ru th ag lim lam l)
/-- who is in, in loss l -/
def INL (li wo de su : Nat → Nat) (it ki to : Nat → Int32) (ru th : Int32) (ag lim lam : Nat → Nat) (l : Nat) : Int32 := INN li wo de su it th (LFN li wo de su it ki to ru th ag lim lam l) (lim l) (lam l)
def NLL (li wo de su : Nat → Nat) (it ki to : Nat → Int32) (ru th : Int32) (ag lim lam : Nat → Nat) (l : Nat) : Nat := NL (INL li wo de su it ki to ru th ag lim lam l) (TT (YI ki to (INL li wo de su it ki to ru th ag lim lam l)))
/-- the shares of loss l -/
def SHN (li wo de su : Nat → Nat) (it ki to : Nat → Int32) (ru th : Int32) (ag lim lam : Nat → Nat) (l p : Nat) : Nat := SHL li wo de su it ki to ru (INL li wo de su it ki to ru th ag lim lam l) (LFN li wo de su it ki to ru th ag lim lam l) (lim l) (lam l) (NLL li wo de su it ki to ru th ag lim lam l) p
/-- what is paid of loss l -/
def TTN (li wo de su : Nat → Nat) (it ki to : Nat → Int32) (ru th : Int32) (ag lim lam : Nat → Nat) (l : Nat) : Nat := TTS li wo de su it ki to (INL li wo de su it ki to ru th ag lim lam l) (LFN li wo de su it ki to ru th ag lim lam l) (lim l) (lam l) (NLL li wo de su it ki to ru th ag lim lam l)
theorem spn_s {li wo de su : Nat → Nat} {it ki to : Nat → Int32} {ru th : Int32} {ag lim lam : Nat → Nat} {l p : Nat} : SPN li wo de su it ki to ru th ag lim lam (l + 1) p = SPN li wo de su it ki to ru th ag lim lam l p + SHN li wo de su it ki to ru th ag lim lam l p := rfl
theorem shn_le {li wo de su : Nat → Nat} {it ki to : Nat → Int32} {ru th : Int32} {ag lim lam : Nat → Nat} {l p : Nat} (hli : ∀ p, p < 8 → li p ≤ 1000000) (hp : p < 8) : SHN li wo de su it ki to ru th ag lim lam l p ≤ LFN li wo de su it ki to ru th ag lim lam l p := shl_lf hli hp
theorem spn_le {li wo de su : Nat → Nat} {it ki to : Nat → Int32} {ru th : Int32} {ag lim lam : Nat → Nat} (hli : ∀ p, p < 8 → li p ≤ 1000000) {p : Nat} (hp : p < 8) : ∀ l, SPN li wo de su it ki to ru th ag lim lam l p ≤ ag p
  | 0 => Nat.zero_le _
  | l + 1 => by
    have ih := spn_le (wo := wo) (de := de) (su := su) (it := it) (ki := ki) (to := to) (ru := ru) (th := th) (ag := ag) (lim := lim) (lam := lam) hli hp l
    have h := shn_le (wo := wo) (de := de) (su := su) (it := it) (ki := ki) (to := to) (ru := ru) (th := th) (ag := ag) (lim := lim) (lam := lam) (l := l) hli hp
    rw [spn_s]
    have e : LFN li wo de su it ki to ru th ag lim lam l p = ag p - SPN li wo de su it ki to ru th ag lim lam l p := rfl
    omega
/-- behind which loss one's whole sum was used up -/
def UBY (li wo de su : Nat → Nat) (it ki to : Nat → Int32) (ru th : Int32) (ag lim lam : Nat → Nat) : Nat → Nat → Int32
  | 0 => fun _ => -1
  | l + 1 => fun p => if ag p - SPN li wo de su it ki to ru th ag lim lam (l + 1) p = 0 ∧ UBY li wo de su it ki to ru th ag lim lam l p = -1 then nI l else UBY li wo de su it ki to ru th ag lim lam l p
/-- what the object holds behind the settling of a loss -/
def LCS (li wo de su : Nat → Nat) (it ki to : Nat → Int32) (ru th : Int32) (lf : Nat → Nat) (im am : Nat) (S6 S8 S9 S10 S11 W1 W2 W3 W4 : Nat → Int32) (inn out : Int32) (nl tt : Nat) : Prop :=
  inn = INN li wo de su it th lf im am ∧ nv S6 lf ∧ nv S8 (LONE li wo de su it th lf im am) ∧ (∀ k, k < 8 → W1 k = YI ki to inn k) ∧ (∀ k, k < 8 → W2 k = RIN (clo (YI ki to inn) 8) k) ∧ LD inn (TT (YI ki to inn)) (KE ki) W3 out nl ∧ (∀ j, j < nl → W4 j = ORS (fun p => bt inn p && decide (LVL (TT (YI ki to inn)) p = j)) 8) ∧ (∀ k, k < 8 → S9 k = nI (CAPL li wo de su it ki to inn lf im am nl k)) ∧ (∀ k, k < 8 → S10 k = nI (SHL li wo de su it ki to ru inn lf im am nl k)) ∧ tt = TTS li wo de su it ki to inn lf im am nl ∧ (∀ j, j < nl → S11 j = nI (am - TTS li wo de su it ki to inn lf im am j))
/-- using up, being done -/
def UU (A5 A7 S7 : Nat → Int32) (lf sh : Nat → Nat) (l i : Nat) : Prop := ∀ k, k < 8 → A5 k = nI (if k < i then lf k - sh k else lf k) ∧ A7 k = if k < i ∧ lf k - sh k = 0 ∧ S7 k = -1 then nI l else S7 k
theorem uu_0 {A5 S7 : Nat → Int32} {lf sh : Nat → Nat} {l : Nat} (h : nv A5 lf) : UU A5 S7 S7 lf sh l 0 := fun k hk => by
  rw [if_neg (by omega), if_neg (by omega)]; exact ⟨h k hk, rfl⟩
theorem uu_at {A5 A7 S7 : Nat → Int32} {lf sh : Nat → Nat} {l i : Nat} (H : UU A5 A7 S7 lf sh l i) (hi : i < 8) : A5 (Int32.toNatClampNeg (nI i)) = nI (lf i) := by
  rw [nI_clamp (by omega), (H i hi).1, if_neg (by omega)]
theorem uu_7 {A5 A7 S7 : Nat → Int32} {lf sh : Nat → Nat} {l i : Nat} {v : Int32} (H : UU A5 A7 S7 lf sh l i) (hi : i < 8) (ev : v = A7 (Int32.toNatClampNeg (nI i))) : v = S7 i := by
  rw [nI_clamp (by omega), (H i hi).2, if_neg (fun z => by omega)] at ev; exact ev
theorem uu_no {A5 A7 S7 : Nat → Int32} {lf sh : Nat → Nat} {l i : Nat} (hi : i < 8) (H : UU A5 A7 S7 lf sh l i) (h : ¬ (lf i - sh i = 0 ∧ S7 i = -1)) : UU (upd A5 (Int32.toNatClampNeg (nI i)) (nI (lf i - sh i))) A7 S7 lf sh l (i + 1) := fun k hk => by
  rw [nI_clamp (by omega)]
  by_cases c : k = i
  · subst c
    rw [pk_us, if_pos (by omega), (H k hk).2, if_neg (fun z => by omega), if_neg (fun z => h z.2)]; exact ⟨rfl, rfl⟩
  · have e1 : (k < i + 1) ↔ (k < i) := by omega
    have e2 : (k < i + 1 ∧ lf k - sh k = 0 ∧ S7 k = -1) ↔ (k < i ∧ lf k - sh k = 0 ∧ S7 k = -1) := and_congr e1 Iff.rfl
    rw [pk_un c, ifc e1, ifc e2]; exact H k hk
theorem uu_yes {A5 A7 S7 : Nat → Int32} {lf sh : Nat → Nat} {l i : Nat} (hi : i < 8) (H : UU A5 A7 S7 lf sh l i) (h : lf i - sh i = 0 ∧ S7 i = -1) : UU (upd A5 (Int32.toNatClampNeg (nI i)) (nI (lf i - sh i))) (upd A7 (Int32.toNatClampNeg (nI i)) (nI l)) S7 lf sh l (i + 1) := fun k hk => by
  rw [nI_clamp (by omega)]
  by_cases c : k = i
  · subst c
    rw [pk_us, pk_us, if_pos (by omega), if_pos ⟨by omega, h⟩]; exact ⟨rfl, rfl⟩
  · have e1 : (k < i + 1) ↔ (k < i) := by omega
    have e2 : (k < i + 1 ∧ lf k - sh k = 0 ∧ S7 k = -1) ↔ (k < i ∧ lf k - sh k = 0 ∧ S7 k = -1) := and_congr e1 Iff.rfl
    rw [pk_un c, pk_un c, ifc e1, ifc e2]; exact H k hk
theorem uu_end {A5 A7 S7 : Nat → Int32} {lf sh : Nat → Nat} {l : Nat} (H : UU A5 A7 S7 lf sh l 8) : (∀ k, k < 8 → A5 k = nI (lf k - sh k)) ∧ ∀ k, k < 8 → A7 k = if lf k - sh k = 0 ∧ S7 k = -1 then nI l else S7 k := by
  refine ⟨fun k hk => by rw [(H k hk).1, if_pos hk], fun k hk => ?_⟩
  rw [(H k hk).2, ifc (show (k < 8 ∧ lf k - sh k = 0 ∧ S7 k = -1) ↔ (lf k - sh k = 0 ∧ S7 k = -1) from ⟨fun z => z.2, fun z => ⟨hk, z⟩⟩)]
theorem st_ge {lx : Int32} {ln k : Nat} (e : lx = nI ln - 1) (hl : ln ≤ 10) (hk : k ≤ ln) (h : lx < nI k) : k = ln := by
  rcases Nat.lt_or_ge k ln with q | q
  · have e1 : lx = nI (ln - 1) := by rw [e]; exact pk_sub (a := ln) (b := 1) (by omega)
    rw [e1] at h
    have := (nI_ltI (a := ln - 1) (b := k) (by omega) (by omega)).mp h
    omega
  · omega
theorem lfn_0 {li wo de su : Nat → Nat} {it ki to : Nat → Int32} {ru th : Int32} {ag lim lam : Nat → Nat} {k : Nat} : ag k = LFN li wo de su it ki to ru th ag lim lam 0 k := by
  show ag k = ag k - 0
  omega
theorem lfn_s {li wo de su : Nat → Nat} {it ki to : Nat → Int32} {ru th : Int32} {ag lim lam : Nat → Nat} {l k : Nat} : LFN li wo de su it ki to ru th ag lim lam l k - SHN li wo de su it ki to ru th ag lim lam l k = LFN li wo de su it ki to ru th ag lim lam (l + 1) k := by
  show ag k - SPN li wo de su it ki to ru th ag lim lam l k - SHN li wo de su it ki to ru th ag lim lam l k = ag k - (SPN li wo de su it ki to ru th ag lim lam l k + SHN li wo de su it ki to ru th ag lim lam l k)
  omega
theorem lfn_b {li wo de su : Nat → Nat} {it ki to : Nat → Int32} {ru th : Int32} {ag lim lam : Nat → Nat} {l k b : Nat} (h : ag k ≤ b) : LFN li wo de su it ki to ru th ag lim lam l k ≤ b := by
  have : LFN li wo de su it ki to ru th ag lim lam l k = ag k - SPN li wo de su it ki to ru th ag lim lam l k := rfl
  omega
theorem uby_s {li wo de su : Nat → Nat} {it ki to : Nat → Int32} {ru th : Int32} {ag lim lam : Nat → Nat} {l p : Nat} : UBY li wo de su it ki to ru th ag lim lam (l + 1) p = if LFN li wo de su it ki to ru th ag lim lam l p - SHN li wo de su it ki to ru th ag lim lam l p = 0 ∧ UBY li wo de su it ki to ru th ag lim lam l p = -1 then nI l else UBY li wo de su it ki to ru th ag lim lam l p := by
  rw [lfn_s]; rfl

