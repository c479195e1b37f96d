theorem fl_cmp3 (a b : Int) : compare a b = (if a < b then Ordering.lt else if a = b then Ordering.eq else Ordering.gt) := rfl
/-! float -/
def PBF (a b : Nat) : Nat := (FP.fdiv (FP.i2f (nI a)) (FP.i2f (nI b))).toNat
theorem q32_t : FP.Core.b32.tails = 8388608 := by decide +kernel
theorem q32_q : (0 - FP.Core.b32.qmin).toNat = 149 := by decide +kernel
theorem q32_e : FP.Core.b32.exps = 256 := by decide +kernel
theorem q32_m : FP.Core.b32.emax = 127 := by decide +kernel
theorem q32_whole {a : Nat} (h : a ≤ 1000000) : FP.Core.Whole (a : Int) (FP.Core.val32 (FP.i2f (nI a))) := by
  have h1 : (nI a).toInt = (a : Int) := nI_toInt (by omega)
  have h2 := FP.Core.i2f_int (a := nI a) (by rw [h1, Int.natAbs_natCast]; exact Nat.le_trans h (by decide))
  unfold FP.Core.FInt at h2
  rw [h1] at h2
  exact h2
theorem q32_pb {a b : Nat} : PBF a b = FP.Core.encode FP.Core.b32 (FP.Core.quotient FP.Core.b32 (FP.Core.val32 (FP.i2f (nI a))) (FP.Core.val32 (FP.i2f (nI b)))) := FP.Core.toNat_of32 (d := FP.Core.quotient FP.Core.b32 (FP.Core.val32 (FP.i2f (nI a))) (FP.Core.val32 (FP.i2f (nI b)))) (FP.Core.quotient_fits FP.Core.good_b32 _ _)
theorem q32_0 {b : Nat} (hb : 0 < b) (h : b ≤ 1000000) : PBF 0 b = 0 := by
  rw [q32_pb]
  have h1 : FP.Core.val32 (FP.i2f (nI 0)) = .fin false 0 FP.Core.b32.qmin := by decide +kernel
  have h2 := q32_whole h
  rw [h1]
  generalize FP.Core.val32 (FP.i2f (nI b)) = y at h2 ⊢
  cases y with
  | nan => exact h2.elim
  | inf s => exact h2.elim
  | fin t d r =>
    have hd : ¬ d = 0 := fun z => by
      have := (FP.Core.whole_zero h2).mp z
      omega
    have s2 := FP.Core.whole_sign h2 (by omega)
    have e2 : t = false := by rw [s2]; exact decide_eq_false (by omega)
    rw [e2]
    have h3 : FP.Core.quotient FP.Core.b32 (.fin false 0 FP.Core.b32.qmin) (.fin false d r) = FP.Core.roundRatio FP.Core.b32 (false != false) 0 d (FP.Core.b32.qmin - r) := if_neg hd
    have h4 : FP.Core.roundRatio FP.Core.b32 (false != false) 0 d (FP.Core.b32.qmin - r) = .fin (false != false) 0 FP.Core.b32.qmin := if_pos rfl
    rw [h3, h4]
    decide +kernel
theorem q32_y {a b : Nat} (ha : 1 ≤ a) (hab : a ≤ b) (hb : b ≤ 1000000) : 107 * 8388608 ≤ PBF a b ∧ PBF a b ≤ 127 * 8388608 := by
  rw [q32_pb, fl_quot (q32_whole (by omega)) (q32_whole hb) (by omega) (by omega)]
  have A : a * 2 ^ 149 ≤ 8388608 * 2 ^ (127 - 1) * b := by
    rw [show (8388608 * 2 ^ (127 - 1) : Nat) = 2 ^ 149 from by decide +kernel, Nat.mul_comm (2 ^ 149) b]
    exact Nat.mul_le_mul_right _ hab
  have B : 8388608 * 2 ^ (107 - 1) * b ≤ a * 2 ^ 149 :=
    calc 8388608 * 2 ^ (107 - 1) * b ≤ 8388608 * 2 ^ (107 - 1) * 1048576 := Nat.mul_le_mul_left _ (by omega)
      _ = 1 * 2 ^ 149 := by decide +kernel
      _ ≤ a * 2 ^ 149 := Nat.mul_le_mul_right _ ha
  have h := fl_range (f := FP.Core.b32) FP.Core.good_b32 (a := a) (b := b) (lo := 107) (hi := 127) (by omega) (by decide) (by decide) (by decide +kernel) (by rw [q32_e]; decide) (by rw [q32_q, q32_t]; exact A) (by rw [q32_q, q32_t]; exact B)
  rw [q32_t] at h
  exact h
theorem q32_cmp {x y : UInt32} (hx : x.toNat ≤ 2139095040) (hy : y.toNat ≤ 2139095040) : FP.fcmp x y = some (compare (x.toNat : Int) (y.toNat : Int)) := by
  have h := FP.Core.cmp_key FP.Core.good_b32 (FP.Core.lt_full32 x) (FP.Core.lt_full32 y) ((FP.Core.ne_nan32 x).mpr (by omega)) ((FP.Core.ne_nan32 y).mpr (by omega))
  have k : ∀ n : Nat, n ≤ 2139095040 → FP.Core.key FP.Core.b32 n = (n : Int) := fun n hn => by
    unfold FP.Core.key FP.Core.mag
    rw [FP.Core.half_b32, decide_eq_false (by omega), Nat.mod_eq_of_lt (by omega)]
    rfl
  rw [k _ hx, k _ hy] at h
  exact h
theorem q32_gt {x y : UInt32} {op : CmpOp} {v : Int32} (hx : x.toNat ≤ 2139095040) (hy : y.toNat ≤ 2139095040) (ev : v = Op.cmpValue (FP.fcmp x y) op) : 0 < v ↔ y.toNat < x.toNat := by
  rw [ev, q32_cmp hx hy, fl_cmp3]
  by_cases c : (x.toNat : Int) < (y.toNat : Int)
  · rw [if_pos c]; exact ⟨fun h => absurd h (show ¬ (0 : Int32) < -1 from by decide), fun h => by omega⟩
  · rw [if_neg c]
    by_cases d : (x.toNat : Int) = (y.toNat : Int)
    · rw [if_pos d]; exact ⟨fun h => absurd h (show ¬ (0 : Int32) < 0 from by decide), fun h => by omega⟩
    · rw [if_neg d]; exact ⟨fun _ => by omega, fun _ => show (0 : Int32) < 1 from by decide⟩
theorem q32_ge {x y : UInt32} {op : CmpOp} {v : Int32} (hx : x.toNat ≤ 2139095040) (hy : y.toNat ≤ 2139095040) (ev : v = Op.cmpValue (FP.fcmp x y) op) : 0 ≤ v ↔ y.toNat ≤ x.toNat := by
  rw [ev, q32_cmp hx hy, fl_cmp3]
  by_cases c : (x.toNat : Int) < (y.toNat : Int)
  · rw [if_pos c]; exact ⟨fun h => absurd h (show ¬ (0 : Int32) ≤ -1 from by decide), fun h => by omega⟩
  · rw [if_neg c]
    by_cases d : (x.toNat : Int) = (y.toNat : Int)
    · rw [if_pos d]; exact ⟨fun _ => by omega, fun _ => show (0 : Int32) ≤ 0 from by decide⟩
    · rw [if_neg d]; exact ⟨fun _ => by omega, fun _ => show (0 : Int32) ≤ 1 from by decide⟩
theorem q32_eq {x : UInt32} {op : CmpOp} {v : Int32} (hx : x.toNat ≤ 2139095040) (ev : v = Op.cmpValue (FP.fcmp x x) op) : v = 0 := by
  rw [ev, q32_cmp hx hx, fl_cmp3, if_neg (by omega), if_pos rfl]
  rfl
theorem q32_mul {x y : UInt32} {n k : Nat} (hx : x.toNat = n) (hn : 8388608 ≤ n) (h2 : n + k * 8388608 < (256 - 1) * 8388608) (hk : k ≤ 100) (hy : y.toNat = (127 + k) * 8388608) : (FP.fmul x y).toNat = n + k * 8388608 := by
  have h1 : (FP.fmul x y).toNat = FP.Core.mul FP.Core.b32 x.toNat y.toNat := FP.Core.toNat_of32 (d := FP.Core.round FP.Core.b32 (FP.Core.exactProduct (FP.Core.val32 x) (FP.Core.val32 y))) (FP.Core.round_fits FP.Core.good_b32 _)
  have h3 := fl_mul (f := FP.Core.b32) FP.Core.good_b32 (e := n / 8388608) (t := n % 8388608) (k := k) (by omega) (by rw [q32_e]; omega) (by rw [q32_t]; omega) (by rw [q32_e, q32_m]; omega)
  rw [q32_t, q32_m, show n / 8388608 * 8388608 + n % 8388608 = n from by omega] at h3
  rw [h1, hx, hy, h3]
  omega
theorem q32_n {r : UInt32} (h : r.toNat ≤ 2139095040) : vf_n32 r := by
  show r &&& 0x7fffffff ≤ 0x7f800000
  rw [UInt32.le_iff_toNat_le, UInt32.toNat_and]
  exact Nat.le_trans Nat.and_le_left (Nat.le_trans h (by decide))
theorem q32_i {x : UInt32} {t : Nat} (ht : t < 8388608) (hx : x.toNat = 150 * 8388608 + t) : FP.f2i x = nI (8388608 + t) := by
  have h := fl_dec (f := FP.Core.b32) (e := 150) (t := t) (by decide) (by rw [q32_e]; decide) (by rw [q32_t]; exact ht)
  rw [q32_t, show FP.Core.b32.qmin + (((150 : Nat) : Int) - 1) = 0 from by decide +kernel] at h
  have h0 : FP.f2i x = FP.Core.toI (FP.Core.decode FP.Core.b32 x.toNat) := rfl
  have h1 : FP.Core.truncate false (8388608 + t) 0 = ((8388608 + t : Nat) : Int) := by
    show ((8388608 + t) * 2 ^ 0 / 2 ^ 0 : Nat) = ((8388608 + t : Nat) : Int)
    rw [Nat.pow_zero, Nat.mul_one, Nat.div_one]
  have h2 : FP.Core.toI (FP.Core.Datum.fin false (8388608 + t) 0) = Int32.ofInt (max (-2 ^ 31) (min (2 ^ 31 - 1) (FP.Core.truncate false (8388608 + t) 0))) := rfl
  rw [h0, hx, h, h2, h1, show max (-2 ^ 31 : Int) (min (2 ^ 31 - 1) ((8388608 + t : Nat) : Int)) = ((8388608 + t : Nat) : Int) from by omega]
  first | rfl | exact Int32.ofInt_natCast | simp [nI]
theorem q32_raw {x : UInt32} {n : Nat} (hx : x.toNat = n) : x.toInt32 = nI n := by
  apply Int32.toBitVec_inj.mp
  apply BitVec.eq_of_toNat_eq
  show x.toNat = n % 2 ^ 32
  rw [hx, Nat.mod_eq_of_lt (by rw [← hx]; exact x.toNat_lt)]

