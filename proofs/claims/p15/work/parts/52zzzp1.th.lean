theorem fl_cmp3 (a b : Int) : compare a b = (if a < b then Ordering.lt else if a = b then Ordering.eq else Ordering.gt) := rfl
/-! double -/
def PBD (a b : Nat) : Nat := (FP.ddiv (FP.i2d (nI a)) (FP.i2d (nI b))).toNat
theorem q64_t : FP.Core.b64.tails = 4503599627370496 := by decide +kernel
theorem q64_q : (0 - FP.Core.b64.qmin).toNat = 1074 := by decide +kernel
theorem q64_e : FP.Core.b64.exps = 2048 := by decide +kernel
theorem q64_m : FP.Core.b64.emax = 1023 := by decide +kernel
theorem q64_whole {a : Nat} (h : a ≤ 1000000) : FP.Core.Whole (a : Int) (FP.Core.val64 (FP.i2d (nI a))) := by
  have h1 : (nI a).toInt = (a : Int) := nI_toInt (by omega)
  have h2 := FP.Core.i2d_int (nI a)
  unfold FP.Core.DInt at h2
  rw [h1] at h2
  exact h2
theorem q64_pb {a b : Nat} : PBD a b = FP.Core.encode FP.Core.b64 (FP.Core.quotient FP.Core.b64 (FP.Core.val64 (FP.i2d (nI a))) (FP.Core.val64 (FP.i2d (nI b)))) := FP.Core.toNat_of64 (d := FP.Core.quotient FP.Core.b64 (FP.Core.val64 (FP.i2d (nI a))) (FP.Core.val64 (FP.i2d (nI b)))) (FP.Core.quotient_fits FP.Core.good_b64 _ _)
theorem q64_0 {b : Nat} (hb : 0 < b) (h : b ≤ 1000000) : PBD 0 b = 0 := by
  rw [q64_pb]
  have h1 : FP.Core.val64 (FP.i2d (nI 0)) = .fin false 0 FP.Core.b64.qmin := by decide +kernel
  have h2 := q64_whole h
  rw [h1]
  generalize FP.Core.val64 (FP.i2d (nI b)) = y at h2 ⊢
  cases y with
  | nan => exact h2.elim
  | inf s => exact h2.elim
  | fin t d r =>
    have hd : ¬ d = 0 := fun z => by
      have := (FP.Core.whole_zero h2).mp z
      omega
    have s2 := FP.Core.whole_sign h2 (by omega)
    have e2 : t = false := by rw [s2]; exact decide_eq_false (by omega)
    rw [e2]
    have h3 : FP.Core.quotient FP.Core.b64 (.fin false 0 FP.Core.b64.qmin) (.fin false d r) = FP.Core.roundRatio FP.Core.b64 (false != false) 0 d (FP.Core.b64.qmin - r) := if_neg hd
    have h4 : FP.Core.roundRatio FP.Core.b64 (false != false) 0 d (FP.Core.b64.qmin - r) = .fin (false != false) 0 FP.Core.b64.qmin := if_pos rfl
    rw [h3, h4]
    decide +kernel
theorem q64_y {a b : Nat} (ha : 1 ≤ a) (hab : a ≤ b) (hb : b ≤ 1000000) : 1003 * 4503599627370496 ≤ PBD a b ∧ PBD a b ≤ 1023 * 4503599627370496 := by
  rw [q64_pb, fl_quot (q64_whole (by omega)) (q64_whole hb) (by omega) (by omega)]
  have A : a * 2 ^ 1074 ≤ 4503599627370496 * 2 ^ (1023 - 1) * b := by
    rw [show (4503599627370496 * 2 ^ (1023 - 1) : Nat) = 2 ^ 1074 from by decide +kernel, Nat.mul_comm (2 ^ 1074) b]
    exact Nat.mul_le_mul_right _ hab
  have B : 4503599627370496 * 2 ^ (1003 - 1) * b ≤ a * 2 ^ 1074 :=
    calc 4503599627370496 * 2 ^ (1003 - 1) * b ≤ 4503599627370496 * 2 ^ (1003 - 1) * 1048576 := Nat.mul_le_mul_left _ (by omega)
      _ = 1 * 2 ^ 1074 := by decide +kernel
      _ ≤ a * 2 ^ 1074 := Nat.mul_le_mul_right _ ha
  have h := fl_range (f := FP.Core.b64) FP.Core.good_b64 (a := a) (b := b) (lo := 1003) (hi := 1023) (by omega) (by decide) (by decide) (by decide +kernel) (by rw [q64_e]; decide) (by rw [q64_q, q64_t]; exact A) (by rw [q64_q, q64_t]; exact B)
  rw [q64_t] at h
  exact h
theorem q64_cmp {x y : UInt64} (hx : x.toNat ≤ 9218868437227405312) (hy : y.toNat ≤ 9218868437227405312) : FP.dcmp x y = some (compare (x.toNat : Int) (y.toNat : Int)) := by
  have h := FP.Core.cmp_key FP.Core.good_b64 (FP.Core.lt_full64 x) (FP.Core.lt_full64 y) ((FP.Core.ne_nan x).mpr (by omega)) ((FP.Core.ne_nan y).mpr (by omega))
  have k : ∀ n : Nat, n ≤ 9218868437227405312 → FP.Core.key FP.Core.b64 n = (n : Int) := fun n hn => by
    unfold FP.Core.key FP.Core.mag
    rw [FP.Core.half_b64, decide_eq_false (by omega), Nat.mod_eq_of_lt (by omega)]
    rfl
  rw [k _ hx, k _ hy] at h
  exact h
theorem q64_gt {x y : UInt64} {op : CmpOp} {v : Int32} (hx : x.toNat ≤ 9218868437227405312) (hy : y.toNat ≤ 9218868437227405312) (ev : v = Op.cmpValue (FP.dcmp x y) op) : 0 < v ↔ y.toNat < x.toNat := by
  rw [ev, q64_cmp hx hy, fl_cmp3]
  by_cases c : (x.toNat : Int) < (y.toNat : Int)
  · rw [if_pos c]; exact ⟨fun h => absurd h (show ¬ (0 : Int32) < -1 from by decide), fun h => by omega⟩
  · rw [if_neg c]
    by_cases d : (x.toNat : Int) = (y.toNat : Int)
    · rw [if_pos d]; exact ⟨fun h => absurd h (show ¬ (0 : Int32) < 0 from by decide), fun h => by omega⟩
    · rw [if_neg d]; exact ⟨fun _ => by omega, fun _ => show (0 : Int32) < 1 from by decide⟩
theorem q64_ge {x y : UInt64} {op : CmpOp} {v : Int32} (hx : x.toNat ≤ 9218868437227405312) (hy : y.toNat ≤ 9218868437227405312) (ev : v = Op.cmpValue (FP.dcmp x y) op) : 0 ≤ v ↔ y.toNat ≤ x.toNat := by
  rw [ev, q64_cmp hx hy, fl_cmp3]
  by_cases c : (x.toNat : Int) < (y.toNat : Int)
  · rw [if_pos c]; exact ⟨fun h => absurd h (show ¬ (0 : Int32) ≤ -1 from by decide), fun h => by omega⟩
  · rw [if_neg c]
    by_cases d : (x.toNat : Int) = (y.toNat : Int)
    · rw [if_pos d]; exact ⟨fun _ => by omega, fun _ => show (0 : Int32) ≤ 0 from by decide⟩
    · rw [if_neg d]; exact ⟨fun _ => by omega, fun _ => show (0 : Int32) ≤ 1 from by decide⟩
theorem q64_eq {x : UInt64} {op : CmpOp} {v : Int32} (hx : x.toNat ≤ 9218868437227405312) (ev : v = Op.cmpValue (FP.dcmp x x) op) : v = 0 := by
  rw [ev, q64_cmp hx hx, fl_cmp3, if_neg (by omega), if_pos rfl]
  rfl
theorem q64_mul {x y : UInt64} {n k : Nat} (hx : x.toNat = n) (hn : 4503599627370496 ≤ n) (h2 : n + k * 4503599627370496 < (2048 - 1) * 4503599627370496) (hk : k ≤ 100) (hy : y.toNat = (1023 + k) * 4503599627370496) : (FP.dmul x y).toNat = n + k * 4503599627370496 := by
  have h1 : (FP.dmul x y).toNat = FP.Core.mul FP.Core.b64 x.toNat y.toNat := FP.Core.toNat_of64 (d := FP.Core.round FP.Core.b64 (FP.Core.exactProduct (FP.Core.val64 x) (FP.Core.val64 y))) (FP.Core.round_fits FP.Core.good_b64 _)
  have h3 := fl_mul (f := FP.Core.b64) FP.Core.good_b64 (e := n / 4503599627370496) (t := n % 4503599627370496) (k := k) (by omega) (by rw [q64_e]; omega) (by rw [q64_t]; omega) (by rw [q64_e, q64_m]; omega)
  rw [q64_t, q64_m, show n / 4503599627370496 * 4503599627370496 + n % 4503599627370496 = n from by omega] at h3
  rw [h1, hx, hy, h3]
  omega
theorem q64_n {r : UInt64} (h : r.toNat ≤ 9218868437227405312) : vf_n64 r := by
  show r &&& 0x7fffffffffffffff ≤ 0x7ff0000000000000
  rw [UInt64.le_iff_toNat_le, UInt64.toNat_and]
  exact Nat.le_trans Nat.and_le_left (Nat.le_trans h (by decide))
theorem q64_i {x : UInt64} {t : Nat} (ht : t < 4503599627370496) (hx : x.toNat = 1075 * 4503599627370496 + t) : FP.d2l x = lN (4503599627370496 + t) := by
  have h := fl_dec (f := FP.Core.b64) (e := 1075) (t := t) (by decide) (by rw [q64_e]; decide) (by rw [q64_t]; exact ht)
  rw [q64_t, show FP.Core.b64.qmin + (((1075 : Nat) : Int) - 1) = 0 from by decide +kernel] at h
  have h0 : FP.d2l x = FP.Core.toL (FP.Core.decode FP.Core.b64 x.toNat) := rfl
  have h1 : FP.Core.truncate false (4503599627370496 + t) 0 = ((4503599627370496 + t : Nat) : Int) := by
    show ((4503599627370496 + t) * 2 ^ 0 / 2 ^ 0 : Nat) = ((4503599627370496 + t : Nat) : Int)
    rw [Nat.pow_zero, Nat.mul_one, Nat.div_one]
  have h2 : FP.Core.toL (FP.Core.Datum.fin false (4503599627370496 + t) 0) = Int64.ofInt (max (-2 ^ 63) (min (2 ^ 63 - 1) (FP.Core.truncate false (4503599627370496 + t) 0))) := rfl
  rw [h0, hx, h, h2, h1, show max (-2 ^ 63 : Int) (min (2 ^ 63 - 1) ((4503599627370496 + t : Nat) : Int)) = ((4503599627370496 + t : Nat) : Int) from by omega]
  first | rfl | exact Int64.ofInt_natCast | simp [lN]
theorem q64_raw {x : UInt64} {n : Nat} (hx : x.toNat = n) : x.toInt64 = lN n := by
  apply Int64.toBitVec_inj.mp
  apply BitVec.eq_of_toNat_eq
  show x.toNat = n % 2 ^ 64
  rw [hx, Nat.mod_eq_of_lt (by rw [← hx]; exact x.toNat_lt)]

