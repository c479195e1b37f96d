theorem q32_or {a b : Nat} (hab : a ≤ b) (h0 : 0 < b) (hb : b ≤ 1000000) : PBF a b = 0 ∨ (8388608 ≤ PBF a b ∧ PBF a b ≤ 127 * 8388608) := by
  rcases Nat.eq_zero_or_pos a with z | z
  · left; rw [z]; exact q32_0 h0 hb
  · right; have h := q32_y z hab hb; omega
theorem sh23_t : ∀ h : Fin 128, nI h.val <<< ((23 : Int32) &&& 31) = nI (h.val * 8388608) := by decide +kernel
theorem sh23 {h : Nat} {v : Int32} (hh : h ≤ 127) (ev : v = nI h <<< ((23 : Int32) &&& 31)) : v = nI (h * 8388608) := ev.trans (sh23_t ⟨h, by omega⟩)
theorem sb23 {t : Nat} {v : Int32} (ev : v = nI (8388608 + t) - 8388608) : v = nI t := by
  rw [ev, show (8388608 : Int32) = nI 8388608 from rfl]
  have h9 : nI (8388608 + t) - nI 8388608 = nI (8388608 + t - 8388608) := pk_sub (by omega)
  rw [h9, Nat.add_sub_cancel_left]
theorem nI_orn (a b : Nat) : nI a ||| nI b = nI (a ||| b) := by
  apply Int32.toBitVec_inj.mp
  show BitVec.ofNat 32 a ||| BitVec.ofNat 32 b = BitVec.ofNat 32 (a ||| b)
  exact BitVec.ofNat_or.symm
theorem or23 {h t : Nat} {v : Int32} (ht : t < 8388608) (ev : v = nI (h * 8388608) ||| nI t) : v = nI (h * 8388608 + t) := by
  rw [ev, nI_orn]
  have h9 := Nat.two_pow_add_eq_or_of_lt (i := 23) (b := t) (by omega) h
  rw [show (2 : Nat) ^ 23 * h = h * 8388608 from by omega] at h9
  rw [h9]
theorem sm_one {f : Nat → Nat} {p : Nat} : ∀ n, p < n → f p ≤ sm f n
  | 0, h => absurd h (Nat.not_lt_zero p)
  | n + 1, h => by
    show f p ≤ sm f n + f n
    by_cases c : p = n
    · rw [c]; omega
    · have := sm_one (f := f) (p := p) n (by omega); omega
def A2 (np nl : Nat) (p0 p1 v : Int32) : Int32 := if (0 ≤ p0 ∧ p0 ≤ nI nl - 1) ∧ (0 ≤ p1 ∧ p1 ≤ nI np - 1) then v else -1
section
variable {np nl lj pj : Nat} {p0 p1 : Int32}
theorem a2_n {v : Int32} (h : ¬ ((0 ≤ p0 ∧ p0 ≤ nI nl - 1) ∧ (0 ≤ p1 ∧ p1 ≤ nI np - 1))) : -1 = A2 np nl p0 p1 v := (if_neg h).symm
theorem a2_y {v : Int32} (h : (0 ≤ p0 ∧ p0 ≤ nI nl - 1) ∧ (0 ≤ p1 ∧ p1 ≤ nI np - 1)) {F : Nat → Nat → Int32} (e0 : p0 = nI lj) (e1 : p1 = nI pj) (h0 : lj < 2 ^ 31) (h1 : pj < 2 ^ 31) (hv : v = F lj pj) : v = A2 np nl p0 p1 (F (Int32.toNatClampNeg p0) (Int32.toNatClampNeg p1)) := by
  unfold A2
  rw [if_pos h, e0, e1, nI_clamp h0, nI_clamp h1, hv]
end
def APT (sh tt : Nat) : Int32 := if tt = 0 then -1 else nI (PBF sh tt)
theorem apt_0 {sh tt t : Nat} (e : t = tt) (h : t = 0) : -1 = APT sh tt := (if_pos (e.symm.trans h)).symm
theorem apt_y {sh tt t : Nat} (e : t = tt) (h : ¬ t = 0) : nI (PBF sh t) = APT sh tt := by
  unfold APT
  rw [if_neg (by omega), e]
section
variable {li wo de su : Nat → Nat} {it ki to : Nat → Int32} {ru th : Int32} {ag lim lam : Nat → Nat} {l p : Nat}
theorem ttn_m (hla : lam l ≤ 1000000) : TTN li wo de su it ki to ru th ag lim lam l ≤ 1000000 := Nat.le_trans (tts_le _) hla
theorem shn_tt (hli : ∀ p, p < 8 → li p ≤ 1000000) (hp : p < 8) : SHN li wo de su it ki to ru th ag lim lam l p ≤ TTN li wo de su it ki to ru th ag lim lam l := by
  have h := sm_one (f := SHN li wo de su it ki to ru th ag lim lam l) 8 hp
  have h2 : sm (SHN li wo de su it ki to ru th ag lim lam l) 8 = TTN li wo de su it ki to ru th ag lim lam l := shl_sum hli _
  omega
end
theorem lu23 {f i : Nat} (h : f + i * 8388608 < 127 * 8388608) : f + (i + 1) * 8388608 < 128 * 8388608 := by
  have h9 := Nat.add_lt_add_right h 8388608
  rw [Nat.add_mul, Nat.one_mul, ← Nat.add_assoc]
  exact Nat.lt_of_lt_of_le h9 (by decide)

