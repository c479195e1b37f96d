/-! WORDS: sets of eight as ints, by their bits -/
theorem bt_orw (a b : Int32) (q : Nat) : bt (a ||| b) q = (bt a q || bt b q) := by
  show (a.toBitVec ||| b.toBitVec).getLsbD q = _
  rw [BitVec.getLsbD_or]; rfl
theorem bt_andw (a b : Int32) (q : Nat) : bt (a &&& b) q = (bt a q && bt b q) := by
  show (a.toBitVec &&& b.toBitVec).getLsbD q = _
  rw [BitVec.getLsbD_and]; rfl
theorem bt_notw (a : Int32) {q : Nat} (hq : q < 8) : bt (a ^^^ (-1)) q = !(bt a q) := by
  show (a.toBitVec ^^^ (-1 : Int32).toBitVec).getLsbD q = _
  rw [BitVec.getLsbD_xor, bt_m1 ⟨q, hq⟩, Bool.xor_true]; rfl
theorem bt_sh1 {p q : Nat} (hp : p < 8) (hq : q < 8) : bt ((1 : Int32) <<< (nI p &&& 31)) q = decide (q = p) := bt_one ⟨p, hp⟩ ⟨q, hq⟩
theorem bt_n {n q : Nat} (hq : q < 8) : bt (nI n) q = n.testBit q := by
  show (BitVec.ofNat 32 n).getLsbD q = _
  rw [BitVec.getLsbD_ofNat]
  simp [show q < 32 from by omega]
theorem or_0 (a : Int32) : a ||| 0 = a := by
  apply Int32.toBitVec_inj.mp
  show a.toBitVec ||| (0#32) = a.toBitVec
  exact BitVec.or_zero
theorem or_sf (a : Int32) : a ||| a = a := by
  apply Int32.toBitVec_inj.mp
  show a.toBitVec ||| a.toBitVec = a.toBitVec
  exact BitVec.or_self
/-- a word of eight bits -/
def isw8 (a : Int32) : Prop := ∃ n : Nat, n < 256 ∧ a = nI n
theorem w8_0 : isw8 0 := ⟨0, by decide, rfl⟩
theorem w_ext {a b : Int32} (ha : isw8 a) (hb : isw8 b) (h : ∀ q, q < 8 → bt a q = bt b q) : a = b := by
  obtain ⟨n, hn, rfl⟩ := ha
  obtain ⟨m, hm, rfl⟩ := hb
  have e : n = m := Nat.eq_of_testBit_eq fun i => by
    rcases Nat.lt_or_ge i 8 with q | q
    · have := h i q
      rwa [bt_n q, bt_n q] at this
    · have h2 : 256 ≤ 2 ^ i := Nat.le_trans (by decide : 256 ≤ 2 ^ 8) (Nat.pow_le_pow_right (by decide) q)
      rw [Nat.testBit_lt_two_pow (Nat.lt_of_lt_of_le hn h2), Nat.testBit_lt_two_pow (Nat.lt_of_lt_of_le hm h2)]
  rw [e]
theorem w8_or {a : Int32} {p : Nat} (ha : isw8 a) (hp : p < 8) : isw8 (a ||| ((1 : Int32) <<< (nI p &&& 31))) := by
  obtain ⟨n, hn, rfl⟩ := ha
  exact orb hn hp rfl rfl
theorem nI_andw (a b : Nat) : nI a &&& nI b = nI (a &&& b) := by
  apply Int32.toBitVec_inj.mp
  show BitVec.ofNat 32 a &&& BitVec.ofNat 32 b = BitVec.ofNat 32 (a &&& b)
  exact BitVec.ofNat_and.symm
theorem w8_and {a b : Int32} (ha : isw8 a) : isw8 (a &&& b) := by
  obtain ⟨n, hn, rfl⟩ := ha
  refine ⟨n &&& b.toBitVec.toNat, Nat.lt_of_le_of_lt Nat.and_le_left hn, ?_⟩
  rw [← nI_andw]
  congr 1
  apply Int32.toBitVec_inj.mp
  show b.toBitVec = BitVec.ofNat 32 b.toBitVec.toNat
  rw [BitVec.ofNat_toNat, BitVec.setWidth_eq]
/-- the word of those below n for which P says yes -/
def ORS (P : Nat → Bool) : Nat → Int32
  | 0 => 0
  | i + 1 => if P i = true then ORS P i ||| ((1 : Int32) <<< (nI i &&& 31)) else ORS P i
theorem ors_t {P : Nat → Bool} {i : Nat} (h : P i = true) : ORS P (i + 1) = ORS P i ||| ((1 : Int32) <<< (nI i &&& 31)) := if_pos h
theorem ors_f {P : Nat → Bool} {i : Nat} (h : ¬ P i = true) : ORS P (i + 1) = ORS P i := if_neg h
theorem ors_cong {P Q : Nat → Bool} : ∀ {n : Nat}, (∀ k, k < n → P k = Q k) → ORS P n = ORS Q n
  | 0, _ => rfl
  | n + 1, h => by
    show (if P n = true then ORS P n ||| _ else ORS P n) = (if Q n = true then ORS Q n ||| _ else ORS Q n)
    rw [ors_cong (fun k hk => h k (by omega)), h n (by omega)]
theorem ors_no : ∀ {n : Nat}, ORS (fun _ => false) n = 0
  | 0 => rfl
  | n + 1 => by rw [ors_f (by decide)]; exact ors_no
theorem ors_w8 {P : Nat → Bool} : ∀ {n : Nat}, n ≤ 8 → isw8 (ORS P n)
  | 0, _ => w8_0
  | n + 1, h => by
    by_cases e : P n = true
    · rw [ors_t e]; exact w8_or (ors_w8 (by omega)) (by omega)
    · rw [ors_f e]; exact ors_w8 (by omega)
theorem ors_bt {P : Nat → Bool} : ∀ {n : Nat}, n ≤ 8 → ∀ {q : Nat}, q < 8 → bt (ORS P n) q = (decide (q < n) && P q)
  | 0, _, q, hq => by rw [show ORS P 0 = 0 from rfl, bt_0 hq]; simp
  | n + 1, h, q, hq => by
    have ih := ors_bt (P := P) (n := n) (by omega) hq
    by_cases e : P n = true
    · rw [ors_t e, bt_orw, bt_sh1 (by omega) hq, ih]
      by_cases c : q = n
      · subst c; simp [e]
      · have : decide (q < n + 1) = decide (q < n) := by
          apply decide_eq_decide.mpr; omega
        simp [c, this]
    · rw [ors_f e, ih]
      by_cases c : q = n
      · subst c
        have e2 : P q = false := by cases hh : P q with
          | false => rfl
          | true => exact absurd hh e
        simp [e2]
      · have : decide (q < n + 1) = decide (q < n) := by
          apply decide_eq_decide.mpr; omega
        rw [this]
theorem ors_bt8 {P : Nat → Bool} {q : Nat} (hq : q < 8) : bt (ORS P 8) q = P q := by
  rw [ors_bt (Nat.le_refl _) hq]; simp [hq]
/-! CLOSURE: whom one comes to, as both build it -/
def cin (f : Nat → Int32) (m : Nat) : Nat → Nat → Int32
  | 0 => f
  | i + 1 => fun k => if k = i then cin f m i i ||| (if bt (cin f m i i) m = true then cin f m i m else 0) else cin f m i k
def clo (f : Nat → Int32) : Nat → Nat → Int32
  | 0 => f
  | m + 1 => cin (clo f m) m 8
theorem cin_at {f : Nat → Int32} {m : Nat} : ∀ i k, cin f m i k = if k < i then f k ||| (if bt (f k) m = true then f m else 0) else f k := by
  intro i
  induction i with
  | zero => intro k; rw [if_neg (show ¬ k < 0 from by omega)]; rfl
  | succ i ih =>
    intro k
    have hself : cin f m i m = f m := by
      rw [ih m]
      by_cases c : m < i
      · rw [if_pos c]
        by_cases b : bt (f m) m = true
        · rw [if_pos b, or_sf]
        · rw [if_neg b, or_0]
      · rw [if_neg c]
    have hi : cin f m i i = f i := by rw [ih i, if_neg (show ¬ i < i from by omega)]
    show (if k = i then cin f m i i ||| (if bt (cin f m i i) m = true then cin f m i m else 0) else cin f m i k) = _
    by_cases c : k = i
    · subst c
      rw [if_pos (show k = k from rfl), hi, hself, if_pos (show k < k + 1 from by omega)]
    · rw [if_neg c, ih k]
      by_cases b : k < i
      · rw [if_pos b, if_pos (show k < i + 1 from by omega)]
      · rw [if_neg b, if_neg (show ¬ k < i + 1 from by omega)]
theorem cin_m {f : Nat → Int32} {m : Nat} (i : Nat) : cin f m i m = f m := by
  rw [cin_at i m]
  by_cases c : m < i
  · rw [if_pos c]
    by_cases b : bt (f m) m = true
    · rw [if_pos b, or_sf]
    · rw [if_neg b, or_0]
  · rw [if_neg c]
theorem cin_z {f : Nat → Int32} {m : Nat} (h : f m = 0) (i k : Nat) : cin f m i k = f k := by
  rw [cin_at i k]
  by_cases c : k < i
  · rw [if_pos c, h]
    by_cases b : bt (f k) m = true
    · rw [if_pos b, or_0]
    · rw [if_neg b, or_0]
  · rw [if_neg c]
theorem clo_bt {f : Nat → Int32} {m k q : Nat} (hk : k < 8) (hq : q < 8) : bt (clo f (m + 1) k) q = (bt (clo f m k) q || (bt (clo f m k) m && bt (clo f m m) q)) := by
  show bt (cin (clo f m) m 8 k) q = _
  rw [cin_at 8 k, if_pos hk, bt_orw]
  by_cases b : bt (clo f m k) m = true
  · rw [if_pos b, b]; simp
  · rw [if_neg b, bt_0 hq]
    have e : bt (clo f m k) m = false := by cases hh : bt (clo f m k) m with
      | false => rfl
      | true => exact absurd hh b
    rw [e]; simp
theorem clo_mono {f : Nat → Int32} {p q : Nat} (hp : p < 8) (hq : q < 8) (h : bt (f p) q = true) : ∀ j, bt (clo f j p) q = true
  | 0 => h
  | j + 1 => by rw [clo_bt hp hq, clo_mono hp hq h j]; rfl
def TRn (f : Nat → Int32) (j : Nat) : Prop := ∀ m, m < j → ∀ p q, p < 8 → q < 8 → bt (f p) m = true → bt (f m) q = true → bt (f p) q = true
theorem clo_tr {f : Nat → Int32} : ∀ j, j ≤ 8 → TRn (clo f j) j
  | 0, _ => fun m hm => absurd hm (Nat.not_lt_zero m)
  | j + 1, hj => by
    have ih := clo_tr (f := f) j (by omega)
    intro m hm p q hp hq h1 h2
    have hj8 : j < 8 := by omega
    have hm8 : m < 8 := by omega
    rw [clo_bt hp hm8] at h1
    rw [clo_bt hm8 hq] at h2
    rw [clo_bt hp hq]
    rw [Bool.or_eq_true, Bool.and_eq_true] at h1 h2 ⊢
    rcases Nat.lt_or_ge m j with c | c
    · rcases h1 with a | ⟨a1, a2⟩
      · rcases h2 with b | ⟨b1, b2⟩
        · exact Or.inl (ih m c p q hp hq a b)
        · exact Or.inr ⟨ih m c p j hp hj8 a b1, b2⟩
      · rcases h2 with b | ⟨b1, b2⟩
        · exact Or.inr ⟨a1, ih m c j q hj8 hq a2 b⟩
        · exact Or.inr ⟨a1, b2⟩
    · obtain rfl : m = j := by omega
      have a1 : bt (clo f m p) m = true := h1.elim id (fun h => h.1)
      have b1 : bt (clo f m m) q = true := h2.elim id (fun h => h.2)
      exact Or.inr ⟨a1, b1⟩
/-- who stands with p on a ring -/
def RIN (R : Nat → Int32) (p : Nat) : Int32 := ORS (fun q => bt (R p) q && bt (R q) p) 8
theorem rin_bt {R : Nat → Int32} {p q : Nat} (hq : q < 8) : bt (RIN R p) q = (bt (R p) q && bt (R q) p) := ors_bt8 hq
theorem rin_0 {R : Nat → Int32} {p : Nat} (hT : TRn R 8) (hp : p < 8) (h : ¬ bt (R p) p = true) : RIN R p = 0 := by
  unfold RIN
  rw [ors_cong (Q := fun _ => false) (fun q hq => by
    cases e : (bt (R p) q && bt (R q) p) with
    | false => rfl
    | true =>
      rw [Bool.and_eq_true] at e
      exact absurd (hT q hq p p hp hp e.1 e.2) h)]
  exact ors_no

