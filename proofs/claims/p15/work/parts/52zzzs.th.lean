/-! strain: the double's bits -/
theorem sh52_t : ∀ h : Fin 1024, lN h.val <<< (Int32.toInt64 52 &&& 63) = lN (h.val * 4503599627370496) := by decide +kernel
theorem sh52 {h : Nat} {u v : Int64} (hh : h ≤ 1023) (eu : u = lN h) (ev : v = u <<< (Int32.toInt64 52 &&& 63)) : v = lN (h * 4503599627370496) := by
  rw [ev, eu]; exact sh52_t ⟨h, by omega⟩
theorem sb52 {t : Nat} {v : Int64} (ev : v = lN (4503599627370496 + t) - 4503599627370496) : v = lN t := by
  rw [ev, show (4503599627370496 : Int64) = lN 4503599627370496 from rfl, lN_sub (by omega), Nat.add_sub_cancel_left]
theorem lN_orn (a b : Nat) : lN a ||| lN b = lN (a ||| b) := by
  apply Int64.toBitVec_inj.mp
  show BitVec.ofNat 64 a ||| BitVec.ofNat 64 b = BitVec.ofNat 64 (a ||| b)
  exact BitVec.ofNat_or.symm
theorem or52 {h t : Nat} {v : Int64} (ht : t < 4503599627370496) (ev : v = lN (h * 4503599627370496) ||| lN t) : v = lN (h * 4503599627370496 + t) := by
  rw [ev, lN_orn]
  have h9 := Nat.two_pow_add_eq_or_of_lt (i := 52) (b := t) (by omega) h
  rw [show (2 : Nat) ^ 52 * h = h * 4503599627370496 from by omega] at h9
  rw [h9]
theorem ex64 {i : Nat} {h v : Int64} (hi : i < 1023) (eh : h = lN (1023 - i)) (ev : v = h - 1) : v = lN (1023 - (i + 1)) := by
  rw [ev, eh, show (1 : Int64) = lN 1 from rfl, lN_sub (by omega), Nat.sub_sub]
theorem lu52 {f i : Nat} (h : f + i * 4503599627370496 < 1023 * 4503599627370496) : f + (i + 1) * 4503599627370496 < 1024 * 4503599627370496 := by
  have h9 := Nat.add_lt_add_right h 4503599627370496
  rw [Nat.add_mul, Nat.one_mul, ← Nat.add_assoc]
  exact Nat.lt_of_lt_of_le h9 (by decide)

