/-! what each brings, over all rows of joining -/
def siL (F : Nat → Int64) : Nat → Int64
  | 0 => 0
  | n + 1 => siL F n + F n
theorem si_add {F : Nat → Int64} {a : Nat} : ∀ b, siL F (a + b) = siL F a + siL (fun s => F (a + s)) b
  | 0 => (Int64.add_zero _).symm
  | b + 1 => by
    show siL F (a + b) + F (a + b) = siL F a + (siL (fun s => F (a + s)) b + F (a + b))
    rw [si_add b, Int64.add_assoc]
theorem si_cong {F G : Nat → Int64} : ∀ {n : Nat}, (∀ s, s < n → F s = G s) → siL F n = siL G n
  | 0, _ => rfl
  | n + 1, h => by
    show siL F n + F n = siL G n + G n
    rw [si_cong (n := n) (fun s hs => h s (by omega)), h n (by omega)]
theorem si_zero : ∀ n, siL (fun _ => 0) n = 0
  | 0 => rfl
  | n + 1 => by
    show siL (fun _ => 0) n + 0 = 0
    rw [si_zero n, Int64.add_zero]
theorem l4 (a b c d : Int64) : (a - b) + (c - d) = (a + c) - (b + d) := by
  rw [Int64.sub_eq_add_neg a b, Int64.sub_eq_add_neg c d, Int64.sub_eq_add_neg (a + c) (b + d), Int64.neg_add, Int64.sub_eq_add_neg (-b) d, Int64.add_assoc a (-b), Int64.add_assoc a c, ← Int64.add_assoc (-b) c, Int64.add_comm (-b) c, Int64.add_assoc c (-b)]
theorem si_sub {F G : Nat → Int64} : ∀ n, siL (fun s => F s - G s) n = siL F n - siL G n
  | 0 => show (0 : Int64) = 0 - 0 from by decide
  | n + 1 => by
    show siL (fun s => F s - G s) n + (F n - G n) = (siL F n + F n) - (siL G n + G n)
    rw [si_sub n, l4]
theorem si_bit {p : Nat} : ∀ n, p < n → ∀ H : Nat → Int64, siL (fun s => if s.testBit p = true then 0 else H (s + 2 ^ p)) (2 ^ n) = siL (fun s => if s.testBit p = true then H s else 0) (2 ^ n)
  | 0, h, _ => absurd h (Nat.not_lt_zero p)
  | n + 1, h, H => by
    rw [show 2 ^ (n + 1) = 2 ^ n + 2 ^ n from by rw [Nat.pow_succ, Nat.mul_two], si_add, si_add]
    by_cases c : p = n
    · subst c
      have e1 : siL (fun s => if s.testBit p = true then 0 else H (s + 2 ^ p)) (2 ^ p) = siL (fun s => H (2 ^ p + s)) (2 ^ p) := si_cong (fun s hs => by
        show (if s.testBit p = true then 0 else H (s + 2 ^ p)) = H (2 ^ p + s)
        rw [Nat.testBit_lt_two_pow hs, if_neg Bool.false_ne_true, Nat.add_comm s])
      have e2 : siL (fun s => if (2 ^ p + s).testBit p = true then 0 else H (2 ^ p + s + 2 ^ p)) (2 ^ p) = 0 := (si_cong (G := fun _ => 0) (fun s hs => by
        show (if (2 ^ p + s).testBit p = true then 0 else H (2 ^ p + s + 2 ^ p)) = 0
        rw [Nat.testBit_two_pow_add_eq, Nat.testBit_lt_two_pow hs]; rfl)).trans (si_zero _)
      have e3 : siL (fun s => if s.testBit p = true then H s else 0) (2 ^ p) = 0 := (si_cong (G := fun _ => 0) (fun s hs => by
        show (if s.testBit p = true then H s else 0) = 0
        rw [Nat.testBit_lt_two_pow hs]; rfl)).trans (si_zero _)
      have e4 : siL (fun s => if (2 ^ p + s).testBit p = true then H (2 ^ p + s) else 0) (2 ^ p) = siL (fun s => H (2 ^ p + s)) (2 ^ p) := si_cong (fun s hs => by
        show (if (2 ^ p + s).testBit p = true then H (2 ^ p + s) else 0) = H (2 ^ p + s)
        rw [Nat.testBit_two_pow_add_eq, Nat.testBit_lt_two_pow hs]; rfl)
      rw [e1, e2, e3, e4, Int64.add_zero, Int64.zero_add]
    · have h2 : p < n := by omega
      have e5 := si_bit n h2 H
      have e6 : siL (fun s => if s.testBit p = true then 0 else H (2 ^ n + (s + 2 ^ p))) (2 ^ n) = siL (fun s => if s.testBit p = true then H (2 ^ n + s) else 0) (2 ^ n) := si_bit n h2 (fun t => H (2 ^ n + t))
      have e7 : siL (fun s => if (2 ^ n + s).testBit p = true then 0 else H (2 ^ n + s + 2 ^ p)) (2 ^ n) = siL (fun s => if s.testBit p = true then 0 else H (2 ^ n + (s + 2 ^ p))) (2 ^ n) := si_cong (fun s _ => by
        show (if (2 ^ n + s).testBit p = true then 0 else H (2 ^ n + s + 2 ^ p)) = (if s.testBit p = true then 0 else H (2 ^ n + (s + 2 ^ p)))
        rw [Nat.testBit_two_pow_add_gt h2, Nat.add_assoc])
      have e8 : siL (fun s => if (2 ^ n + s).testBit p = true then H (2 ^ n + s) else 0) (2 ^ n) = siL (fun s => if s.testBit p = true then H (2 ^ n + s) else 0) (2 ^ n) := si_cong (fun s _ => by
        show (if (2 ^ n + s).testBit p = true then H (2 ^ n + s) else 0) = (if s.testBit p = true then H (2 ^ n + s) else 0)
        rw [Nat.testBit_two_pow_add_gt h2])
      rw [e5, e7, e6, e8]
theorem bcn_t3 : ∀ p : Fin 8, ∀ s : Fin 256, bt (nI s.val) p.val = false → NB (nI s.val) = pcx s.val p.val ∧ pcx (s.val + 2 ^ p.val) p.val = pcx s.val p.val ∧ nI s.val ||| ((1 : Int32) <<< (nI p.val &&& 31)) = nI (s.val + 2 ^ p.val) ∧ s.val + 2 ^ p.val < 256 := by decide +kernel
theorem bcnx {n s p : Nat} {v w x : Int32} (hn : n ≤ 8) (hp : p < n) (hs : s < 2 ^ n) (ev : v = 1 <<< (nI p &&& 31)) (ew : w = v ^^^ (-1)) (ex : x = nI s &&& w) : pcx s p + 1 ≤ n ∧ bc x = nI (pcx s p) := by
  have h256 : s < 256 := Nat.lt_of_lt_of_le hs (Nat.pow_le_pow_right (by decide) hn)
  refine ⟨bcn_t2 ⟨n, by omega⟩ ⟨p, by omega⟩ ⟨s, h256⟩ hp hs, ?_⟩
  rw [ex, ew, ev]
  exact bcn_t1 ⟨p, by omega⟩ ⟨s, h256⟩
def HSH (n p : Nat) (T : Nat → Nat) (s : Nat) : Int64 := fct (pcx s p) * fct (n - 1 - pcx s p) * Int32.toInt64 (nI (T s))
def CSH (n p : Nat) (T : Nat → Nat) (s : Nat) : Int64 := if bt (nI s) p = true then HSH n p T s else -(HSH n p T s)
def RSH (n p : Nat) (T : Nat → Nat) (s : Nat) : Int64 := if bt (nI s) p = true then 0 else HSH n p T (s + 2 ^ p) - HSH n p T s
theorem sh_eq {n p : Nat} {T : Nat → Nat} (hn : n ≤ 8) (hp : p < n) : siL (RSH n p T) (2 ^ n) = siL (CSH n p T) (2 ^ n) := by
  have e1 : siL (RSH n p T) (2 ^ n) = siL (fun s => (if s.testBit p = true then 0 else HSH n p T (s + 2 ^ p)) - (if s.testBit p = true then 0 else HSH n p T s)) (2 ^ n) := si_cong (fun s _ => by
    unfold RSH
    rw [bt_n (by omega)]
    by_cases c : s.testBit p = true
    · rw [if_pos c, if_pos c, if_pos c]; rfl
    · rw [if_neg c, if_neg c, if_neg c])
  have e2 : siL (CSH n p T) (2 ^ n) = siL (fun s => (if s.testBit p = true then HSH n p T s else 0) - (if s.testBit p = true then 0 else HSH n p T s)) (2 ^ n) := si_cong (fun s _ => by
    unfold CSH
    rw [bt_n (by omega)]
    by_cases c : s.testBit p = true
    · rw [if_pos c, if_pos c, if_pos c, Int64.sub_eq_add_neg, show -(0 : Int64) = 0 from rfl, Int64.add_zero]
    · rw [if_neg c, if_neg c, if_neg c, Int64.sub_eq_add_neg, Int64.zero_add])
  rw [e1, e2, si_sub, si_sub, si_bit n hp]
theorem csh_y {n p s : Nat} {T : Nat → Nat} {h o f1 f2 t x v : Int64} (e : h = siL (CSH n p T) s) (hb : bt (nI s) p = true) (e1 : f1 = fct (pcx s p)) (e2 : f2 = fct (n - 1 - pcx s p)) (eo : o = f1 * f2) (et : t = Int32.toInt64 (nI (T s))) (ex : x = o * t) (ev : v = h + x) : v = siL (CSH n p T) (s + 1) := by
  show v = siL (CSH n p T) s + CSH n p T s
  unfold CSH HSH
  rw [if_pos hb, ev, ex, eo, e1, e2, et, e]; rfl
theorem csh_n {n p s : Nat} {T : Nat → Nat} {h o f1 f2 t x y v : Int64} (e : h = siL (CSH n p T) s) (hb : ¬ bt (nI s) p = true) (e1 : f1 = fct (pcx s p)) (e2 : f2 = fct (n - 1 - pcx s p)) (eo : o = f1 * f2) (et : t = Int32.toInt64 (nI (T s))) (ey : y = -o) (ex : x = y * t) (ev : v = h + x) : v = siL (CSH n p T) (s + 1) := by
  have e9 : CSH n p T s = x := by
    unfold CSH HSH
    rw [if_neg hb, ex, ey, eo, e1, e2, et, Int64.neg_mul]
  show v = siL (CSH n p T) s + CSH n p T s
  rw [e9, ev, e]
theorem i64_sub {a b : Nat} (ha : a ≤ 1000000) (hb : b ≤ 1000000) : Int32.toInt64 (nI a - nI b) = Int32.toInt64 (nI a) - Int32.toInt64 (nI b) := by
  apply Int64.toInt_inj.mp
  rw [Int32.toInt_toInt64, Int32.toInt_sub, Int64.toInt_sub, Int32.toInt_toInt64, Int32.toInt_toInt64, nI_toInt (n := a) (by omega), nI_toInt (n := b) (by omega), Int.bmod_eq_of_le (by omega) (by omega), Int.bmod_eq_of_le (by omega) (by omega)]
theorem rsh_z {n p s : Nat} {T : Nat → Nat} {h : Int64} (e : h = siL (RSH n p T) s) (hb : bt (nI s) p = true) : h = siL (RSH n p T) (s + 1) := by
  show h = siL (RSH n p T) s + RSH n p T s
  unfold RSH
  rw [if_pos hb, Int64.add_zero]; exact e
theorem l5 (a b f g : Int64) : f * g * a - f * g * b = (a - b) * f * g := by
  rw [← Int64.mul_sub, Int64.mul_assoc (a - b) f g, Int64.mul_comm]
theorem rsh_y {n p s : Nat} {T : Nat → Nat} {b : Int32} {h f1 f2 x y v : Int64} (hp : p < 8) (hs : s < 256) (e : h = siL (RSH n p T) s) (hb : ¬ bt (nI s) p = true) (eb : b = nI (T (s + 2 ^ p)) - nI (T s)) (h1 : T (s + 2 ^ p) ≤ 1000000) (h2 : T s ≤ 1000000) (e1 : f1 = fct (NB (nI s))) (e2 : f2 = fct (n - 1 - NB (nI s))) (ex : x = Int32.toInt64 b * f1) (ey : y = x * f2) (ev : v = h + y) : v = siL (RSH n p T) (s + 1) := by
  obtain ⟨h3, h4, _, _⟩ := bcn_t3 ⟨p, hp⟩ ⟨s, hs⟩ (bf hb)
  have h3 : NB (nI s) = pcx s p := h3
  have h4 : pcx (s + 2 ^ p) p = pcx s p := h4
  have e9 : RSH n p T s = y := by
    unfold RSH HSH
    rw [if_neg hb, h4, ey, ex, e1, e2, h3, eb, i64_sub h1 h2]
    exact l5 _ _ _ _
  show v = siL (RSH n p T) s + RSH n p T s
  rw [e9, ev, e]
theorem or_set {p s : Nat} {v w : Int32} (hp : p < 8) (hs : s < 256) (hb : ¬ bt (nI s) p = true) (ev : v = 1 <<< (nI p &&& 31)) (ew : w = nI s ||| v) : w = nI (s + 2 ^ p) ∧ s + 2 ^ p < 256 := by
  obtain ⟨_, _, h3, h4⟩ := bcn_t3 ⟨p, hp⟩ ⟨s, hs⟩ (bf hb)
  exact ⟨by rw [ew, ev]; exact h3, h4⟩
theorem nb_n1 {n p s : Nat} (hn : n ≤ 8) (hp : p < n) (hs : s < 2 ^ n) (hb : ¬ bt (nI s) p = true) : NB (nI s) + 1 ≤ n := by
  have h256 : s < 256 := Nat.lt_of_lt_of_le hs (Nat.pow_le_pow_right (by decide) hn)
  obtain ⟨h3, _, _, _⟩ := bcn_t3 ⟨p, by omega⟩ ⟨s, h256⟩ (bf hb)
  have h3 : NB (nI s) = pcx s p := h3
  rw [h3]
  exact bcn_t2 ⟨n, by omega⟩ ⟨p, by omega⟩ ⟨s, h256⟩ hp hs
theorem fct_tab : ∀ k : Fin 8, 2 ≤ k.val → fct (k.val - 1) * Int32.toInt64 (nI k.val) = fct k.val := by decide +kernel
theorem fct_s {k : Nat} {h y v : Int64} (h2 : 2 ≤ k) (h7 : k ≤ 7) (e : h = fct (k - 1)) (ey : y = Int32.toInt64 (nI k)) (ev : v = h * y) : v = fct (k + 1 - 1) := by
  rw [ev, e, ey, Nat.add_sub_cancel]; exact fct_tab ⟨k, by omega⟩ h2
theorem fct_e {k x : Nat} {h : Int64} (e : h = fct (k - 1)) (hk : k ≤ x + 1 ∨ k = 2) (hx : x < k) : h = fct x := by
  by_cases c : k = x + 1
  · rw [e, c, Nat.add_sub_cancel]
  · have h2 : k = 2 := by omega
    have h3 : x = 0 ∨ x = 1 := by omega
    subst h2
    rcases h3 with rfl | rfl
    · rw [e]; rfl
    · rw [e]
def ASPL (n nl : Nat) (p0 p1 : Int32) (v : Int64) : Int64 := if (0 ≤ p0 ∧ p0 ≤ nI nl - 1) ∧ (0 ≤ p1 ∧ p1 ≤ nI n - 1) then v else -1
theorem asp_n {n nl : Nat} {p0 p1 : Int32} {v : Int64} (h : ¬ ((0 ≤ p0 ∧ p0 ≤ nI nl - 1) ∧ (0 ≤ p1 ∧ p1 ≤ nI n - 1))) : -1 = ASPL n nl p0 p1 v := (if_neg h).symm
theorem asp_y {n nl lj pj : Nat} {p0 p1 : Int32} {v : Int64} {F : Nat → Nat → Int64} (h : (0 ≤ p0 ∧ p0 ≤ nI nl - 1) ∧ (0 ≤ p1 ∧ p1 ≤ nI n - 1)) (e0 : p0 = nI lj) (e1 : p1 = nI pj) (hj : lj < 2 ^ 31) (hp : pj < 8) (hv : v = F lj pj) : v = ASPL n nl p0 p1 (F (Int32.toNatClampNeg p0) (Int32.toNatClampNeg p1)) := by
  unfold ASPL
  rw [if_pos h, e0, e1, nI_clamp hj, nI_clamp (by omega)]; exact hv

