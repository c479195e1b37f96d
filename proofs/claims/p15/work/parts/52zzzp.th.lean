/-! floats: a quotient of two whole numbers, its bits -/
theorem fl_quot {f : FP.Core.Fmt} {a b : Nat} {x y : FP.Core.Datum} (hx : FP.Core.Whole (a : Int) x) (hy : FP.Core.Whole (b : Int) y) (ha : 0 < a) (hb : 0 < b) : FP.Core.quotient f x y = FP.Core.roundRatio f false a b 0 := by
  cases x with
  | nan => exact hx.elim
  | inf s => exact hx.elim
  | fin s c q =>
    cases y with
    | nan => exact hy.elim
    | inf t => exact hy.elim
    | fin t d r =>
      have h1 := FP.Core.whole_natAbs hx
      have h2 := FP.Core.whole_natAbs hy
      rw [Int.natAbs_natCast] at h1 h2
      have s1 := FP.Core.whole_sign hx (by omega)
      have s2 := FP.Core.whole_sign hy (by omega)
      have e1 : s = false := by rw [s1]; exact decide_eq_false (by omega)
      have e2 : t = false := by rw [s2]; exact decide_eq_false (by omega)
      have hd : ¬ d = 0 := fun z => by
        have := (FP.Core.whole_zero hy).mp z
        omega
      have e3 : (c * b) * 2 ^ (q.toNat + (-r).toNat) = (a * d) * 2 ^ ((-q).toNat + r.toNat) := by
        rw [Nat.pow_add, Nat.pow_add]
        calc (c * b) * (2 ^ q.toNat * 2 ^ (-r).toNat) = (c * 2 ^ q.toNat) * (b * 2 ^ (-r).toNat) := by ac_rfl
          _ = (a * 2 ^ (-q).toNat) * (d * 2 ^ r.toNat) := by rw [h1, ← h2]
          _ = (a * d) * (2 ^ (-q).toNat * 2 ^ r.toNat) := by ac_rfl
      obtain ⟨t9, ht1, ht2⟩ : ∃ t9 : Nat, q.toNat + (-r).toNat = (q - r).toNat + t9 ∧ (-q).toNat + r.toNat = (0 - (q - r)).toNat + t9 := ⟨q.toNat + (-r).toNat - (q - r).toNat, by omega, by omega⟩
      rw [ht1, ht2, Nat.pow_add, Nat.pow_add, ← Nat.mul_assoc, ← Nat.mul_assoc] at e3
      have e4 := Nat.eq_of_mul_eq_mul_right (Nat.two_pow_pos t9) e3
      rw [e1, e2]
      show (if d = 0 then (if c = 0 then FP.Core.Datum.nan else FP.Core.Datum.inf (false != false)) else FP.Core.roundRatio f (false != false) c d (q - r)) = _
      rw [if_neg hd]
      exact FP.Core.roundRatio_congr (by omega) hb (by rw [Int.sub_zero]; exact e4)
theorem fl_bits {f : FP.Core.Fmt} (hf : FP.Core.Good f) {d : FP.Core.Datum} {a b : Nat} {e : Int} (hb : 0 < b) (ed : d = FP.Core.roundRatio f false a b e) : FP.Core.decode f (FP.Core.encode f d) = d ∧ FP.Core.mag f (FP.Core.encode f d) = FP.Core.encode f d := by
  have h1 : FP.Core.fits f d := by rw [ed]; exact FP.Core.roundRatio_fits hf false a hb e
  have h2 := FP.Core.decode_encode hf d h1
  have h3 : FP.Core.encode f d < 2 * FP.Core.half f := by
    have h := FP.Core.encode_lt hf d h1
    rw [Nat.mul_assoc] at h
    exact h
  have h4 : FP.Core.mag f (FP.Core.encode f d) ≤ FP.Core.infBits f := Nat.le_of_not_lt fun z => FP.Core.roundRatio_ne_nan f false a b e (by rw [← ed, ← h2]; exact (FP.Core.decode_nan _).mpr z)
  have h5 := FP.Core.sgn_decode h4 h3
  rw [h2, ed, FP.Core.sgn_roundRatio, ← ed] at h5
  have h6 : ¬ FP.Core.half f ≤ FP.Core.encode f d := of_decide_eq_false h5.symm
  exact ⟨h2, FP.Core.mag_of_lt (Nat.lt_of_not_le h6)⟩
/-- between two powers of two -/
theorem fl_range {f : FP.Core.Fmt} (hf : FP.Core.Good f) {a b lo hi : Nat} (hb : 0 < b) (hl : 1 ≤ lo) (hh : 1 ≤ hi) (hq : f.qmin ≤ 0) (hlo : lo ≤ f.exps - 1) (h1 : a * 2 ^ (0 - f.qmin).toNat ≤ f.tails * 2 ^ (hi - 1) * b) (h2 : f.tails * 2 ^ (lo - 1) * b ≤ a * 2 ^ (0 - f.qmin).toNat) : lo * f.tails ≤ FP.Core.encode f (FP.Core.roundRatio f false a b 0) ∧ FP.Core.encode f (FP.Core.roundRatio f false a b 0) ≤ hi * f.tails := by
  obtain ⟨h3, h4⟩ := fl_bits hf hb (rfl : FP.Core.roundRatio f false a b 0 = FP.Core.roundRatio f false a b 0)
  refine ⟨?_, ?_⟩
  · rw [← h4]
    refine FP.Core.mag_ge hf h3 hb (Int.le_refl _) hq (Nat.mul_le_mul_right _ hlo) ?_
    rw [FP.Core.unitsOf_start hl, Int.sub_self]
    show f.tails * 2 ^ (lo - 1) * 2 ^ 0 * b ≤ a * 2 ^ (0 - f.qmin).toNat
    rw [Nat.pow_zero, Nat.mul_one]; exact h2
  · rw [← h4]
    refine FP.Core.mag_le hf h3 hb (Int.le_refl _) hq ?_
    rw [FP.Core.unitsOf_start hh, Int.sub_self]
    show a * 2 ^ (0 - f.qmin).toNat ≤ f.tails * 2 ^ (hi - 1) * 2 ^ 0 * b
    rw [Nat.pow_zero, Nat.mul_one]; exact h1
/-- bits of a normal number -/
theorem fl_dec {f : FP.Core.Fmt} {e t : Nat} (he : 1 ≤ e) (h2 : e < f.exps - 1) (ht : t < f.tails) : FP.Core.decode f (e * f.tails + t) = .fin false (f.tails + t) (f.qmin + ((e : Int) - 1)) := by
  have h := FP.Core.decode_assemble f false e t (by omega) ht
  unfold FP.Core.assemble at h
  rw [show ((false : Bool).toNat * f.exps + e) = e from by show 0 * f.exps + e = e; omega, if_neg (by omega), if_neg (by omega)] at h
  exact h
/-- a power of two times a normal number -/
theorem fl_mul {f : FP.Core.Fmt} (hf : FP.Core.Good f) {e t k : Nat} (he : 1 ≤ e) (h2 : e + k < f.exps - 1) (ht : t < f.tails) (hk : f.emax + k < f.exps - 1) : FP.Core.mul f (e * f.tails + t) ((f.emax + k) * f.tails) = (e + k) * f.tails + t := by
  have hm := FP.Core.emax_pos hf
  have htp := FP.Core.tails_pos f
  have h5 := FP.Core.two_tails hf
  have h7 := FP.Core.emax_exps hf
  have hp : 2 ≤ f.p := hf.2
  have h4 : FP.Core.decode f ((f.emax + k) * f.tails) = .fin false f.tails (f.qmin + (((f.emax + k : Nat) : Int) - 1)) := by
    have h := fl_dec (f := f) (e := f.emax + k) (t := 0) (by omega) hk htp
    rw [Nat.add_zero, Nat.add_zero] at h
    exact h
  unfold FP.Core.mul
  rw [fl_dec he (by omega) ht, h4]
  show FP.Core.encode f (FP.Core.roundRatio f (false != false) ((f.tails + t) * f.tails) 1 (f.qmin + ((e : Int) - 1) + (f.qmin + (((f.emax + k : Nat) : Int) - 1)))) = _
  have hqm : f.qmin = 2 - (f.emax : Int) - (f.p : Int) := rfl
  have hqx : f.qmax = (f.emax : Int) - (f.p : Int) + 1 := rfl
  have h6 : FP.Core.roundRatio f false ((f.tails + t) * f.tails) 1 (f.qmin + ((e : Int) - 1) + (f.qmin + (((f.emax + k : Nat) : Int) - 1))) = .fin false (f.tails + t) (f.qmin + (((e + k : Nat) : Int) - 1)) := by
    have hfit : FP.Core.fits f (.fin false (f.tails + t) (f.qmin + (((e + k : Nat) : Int) - 1))) := by
      show f.tails + t < 2 ^ f.p ∧ f.qmin ≤ f.qmin + (((e + k : Nat) : Int) - 1) ∧ f.qmin + (((e + k : Nat) : Int) - 1) ≤ f.qmax ∧ (f.qmin + (((e + k : Nat) : Int) - 1) = f.qmin ∨ f.tails ≤ f.tails + t)
      exact ⟨by omega, by omega, by omega, Or.inr (by omega)⟩
    refine FP.Core.roundRatio_exact hf (by decide) hfit ?_
    rw [show (f.qmin + ((e : Int) - 1) + (f.qmin + (((f.emax + k : Nat) : Int) - 1)) - (f.qmin + (((e + k : Nat) : Int) - 1))).toNat = 0 from by omega, show (f.qmin + (((e + k : Nat) : Int) - 1) - (f.qmin + ((e : Int) - 1) + (f.qmin + (((f.emax + k : Nat) : Int) - 1)))).toNat = f.p - 1 from by omega, Nat.pow_zero, Nat.mul_one, Nat.mul_one]
    rfl
  rw [show (false != false) = false from rfl, h6]
  show (if f.tails + t < f.tails then FP.Core.assemble f false 0 (f.tails + t) else FP.Core.assemble f false ((f.qmin + (((e + k : Nat) : Int) - 1) - f.qmin).toNat + 1) (f.tails + t - f.tails)) = _
  rw [if_neg (by omega), show (f.qmin + (((e + k : Nat) : Int) - 1) - f.qmin).toNat + 1 = e + k from by omega, show f.tails + t - f.tails = t from by omega]
  unfold FP.Core.assemble
  rw [show ((false : Bool).toNat * f.exps + (e + k)) = e + k from by show 0 * f.exps + (e + k) = e + k; omega]

