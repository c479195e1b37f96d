/-! LEVELS: the longest way down; who is out -/
def mx (F : Nat → Nat) : Nat → Nat
  | 0 => 0
  | n + 1 => max (mx F n) (F n)
theorem mx_ge {F : Nat → Nat} : ∀ {n k : Nat}, k < n → F k ≤ mx F n
  | 0, k, h => absurd h (Nat.not_lt_zero k)
  | n + 1, k, h => by
    show F k ≤ max (mx F n) (F n)
    rcases Nat.lt_or_ge k n with q | q
    · exact Nat.le_trans (mx_ge q) (Nat.le_max_left _ _)
    · obtain rfl : k = n := by omega
      exact Nat.le_max_right _ _
theorem mx_le {F : Nat → Nat} {b : Nat} : ∀ {n : Nat}, (∀ k, k < n → F k ≤ b) → mx F n ≤ b
  | 0, _ => Nat.zero_le _
  | n + 1, h => Nat.max_le.mpr ⟨mx_le (fun k hk => h k (by omega)), h n (by omega)⟩
theorem mx_cong {F G : Nat → Nat} : ∀ {n : Nat}, (∀ k, k < n → F k = G k) → mx F n = mx G n
  | 0, _ => rfl
  | n + 1, h => by
    show max (mx F n) (F n) = max (mx G n) (G n)
    rw [mx_cong (fun k hk => h k (by omega)), h n (by omega)]
theorem mx_up {F : Nat → Nat} {p v n : Nat} (hp : p < n) (h0 : F p = 0) : mx (fun k => if k = p then v else F k) n = max (mx F n) v := by
  apply Nat.le_antisymm
  · refine mx_le (fun k hk => ?_)
    by_cases c : k = p
    · rw [if_pos c]; exact Nat.le_max_right _ _
    · rw [if_neg c]; exact Nat.le_trans (mx_ge hk) (Nat.le_max_left _ _)
  · refine Nat.max_le.mpr ⟨mx_le (fun k hk => ?_), ?_⟩
    · by_cases c : k = p
      · rw [c, h0]; exact Nat.zero_le _
      · have := mx_ge (F := fun k => if k = p then v else F k) hk
        simp only [c, if_false] at this
        exact this
    · have := mx_ge (F := fun k => if k = p then v else F k) hp
      simp only [if_true] at this
      exact this
def anyb (P : Nat → Bool) : Nat → Bool
  | 0 => false
  | n + 1 => anyb P n || P n
theorem anyb_t {P : Nat → Bool} : ∀ {n : Nat}, anyb P n = true ↔ ∃ k, k < n ∧ P k = true
  | 0 => ⟨fun h => absurd (show false = true from h) (by decide), fun ⟨k, hk, _⟩ => absurd hk (Nat.not_lt_zero k)⟩
  | n + 1 => by
    show (anyb P n || P n) = true ↔ _
    rw [Bool.or_eq_true, anyb_t]
    constructor
    · rintro (⟨k, hk, h⟩ | h)
      · exact ⟨k, by omega, h⟩
      · exact ⟨n, by omega, h⟩
    · rintro ⟨k, hk, h⟩
      rcases Nat.lt_or_ge k n with q | q
      · exact Or.inl ⟨k, q, h⟩
      · obtain rfl : k = n := by omega
        exact Or.inr h
theorem anyb_cong {P Q : Nat → Bool} : ∀ {n : Nat}, (∀ k, k < n → P k = Q k) → anyb P n = anyb Q n
  | 0, _ => rfl
  | n + 1, h => by
    show (anyb P n || P n) = (anyb Q n || Q n)
    rw [anyb_cong (fun k hk => h k (by omega)), h n (by omega)]
theorem sm_lt {f g : Nat → Nat} : ∀ {n j : Nat}, (∀ k, k < n → f k ≤ g k) → j < n → f j < g j → sm f n < sm g n
  | 0, j, _, h, _ => absurd h (Nat.not_lt_zero j)
  | n + 1, j, h, hj, hl => by
    show sm f n + f n < sm g n + g n
    rcases Nat.lt_or_ge j n with q | q
    · have h1 := sm_lt (fun k hk => h k (by omega)) q hl
      have h2 := h n (by omega)
      omega
    · obtain rfl : j = n := by omega
      have h1 := sm_le (f := f) (g := g) (n := j) (fun k hk => h k (by omega))
      omega
/-- a number that falls along T -/
def RK (T : Nat → Int32) (rk : Nat → Nat) : Prop := (∀ p q, p < 8 → q < 8 → bt (T p) q = true → rk q < rk p) ∧ ∀ p, p < 8 → rk p ≤ 7
def lvf (T : Nat → Int32) : Nat → Nat → Nat
  | 0, _ => 0
  | f + 1, p => mx (fun q => if bt (T p) q = true then lvf T f q + 1 else 0) 8
theorem lvf_st {T : Nat → Int32} {rk : Nat → Nat} (H : RK T rk) : ∀ n p f g, p < 8 → rk p ≤ n → rk p < f → rk p < g → lvf T f p = lvf T g p := by
  intro n
  induction n with
  | zero =>
    intro p f g hp hn hf hg
    obtain ⟨f, rfl⟩ : ∃ x, f = x + 1 := ⟨f - 1, by omega⟩
    obtain ⟨g, rfl⟩ : ∃ x, g = x + 1 := ⟨g - 1, by omega⟩
    refine mx_cong (fun q hq => ?_)
    by_cases c : bt (T p) q = true
    · have := H.1 p q hp hq c
      omega
    · rw [if_neg c, if_neg c]
  | succ n ih =>
    intro p f g hp hn hf hg
    obtain ⟨f, rfl⟩ : ∃ x, f = x + 1 := ⟨f - 1, by omega⟩
    obtain ⟨g, rfl⟩ : ∃ x, g = x + 1 := ⟨g - 1, by omega⟩
    refine mx_cong (fun q hq => ?_)
    by_cases c : bt (T p) q = true
    · have h1 := H.1 p q hp hq c
      rw [if_pos c, if_pos c, ih q f g hq (by omega) (by omega) (by omega)]
    · rw [if_neg c, if_neg c]
def LVL (T : Nat → Int32) (p : Nat) : Nat := lvf T 8 p
theorem lvl_eq {T : Nat → Int32} {rk : Nat → Nat} (H : RK T rk) {p : Nat} (hp : p < 8) : LVL T p = mx (fun q => if bt (T p) q = true then LVL T q + 1 else 0) 8 := by
  have h7 := H.2 p hp
  show lvf T 8 p = lvf T 9 p
  exact lvf_st H 8 p 8 9 hp (by omega) (by omega) (by omega)
theorem lvl_lt {T : Nat → Int32} {rk : Nat → Nat} (H : RK T rk) {p q : Nat} (hp : p < 8) (hq : q < 8) (h : bt (T p) q = true) : LVL T q < LVL T p := by
  rw [lvl_eq H hp]
  have := mx_ge (F := fun q => if bt (T p) q = true then LVL T q + 1 else 0) hq
  simp only [h, if_true] at this
  exact this
theorem lvl_rk {T : Nat → Int32} {rk : Nat → Nat} (H : RK T rk) : ∀ n p, p < 8 → rk p ≤ n → LVL T p ≤ rk p := by
  intro n
  induction n with
  | zero =>
    intro p hp hn
    rw [lvl_eq H hp]
    refine mx_le (fun q hq => ?_)
    by_cases c : bt (T p) q = true
    · have := H.1 p q hp hq c
      omega
    · rw [if_neg c]; exact Nat.zero_le _
  | succ n ih =>
    intro p hp hn
    rw [lvl_eq H hp]
    refine mx_le (fun q hq => ?_)
    by_cases c : bt (T p) q = true
    · have h1 := H.1 p q hp hq c
      have h2 := ih q hq (by omega)
      rw [if_pos c]
      omega
    · rw [if_neg c]; exact Nat.zero_le _
theorem lvl_7 {T : Nat → Int32} {rk : Nat → Nat} (H : RK T rk) {p : Nat} (hp : p < 8) : LVL T p ≤ 7 := Nat.le_trans (lvl_rk H 8 p hp (Nat.le_trans (H.2 p hp) (by decide))) (H.2 p hp)
def ouf (T : Nat → Int32) (K : Nat → Bool) : Nat → Nat → Bool
  | 0, _ => false
  | f + 1, p => K p && anyb (fun q => bt (T p) q && !(ouf T K f q)) 8
theorem ouf_st {T : Nat → Int32} {K : Nat → Bool} {rk : Nat → Nat} (H : RK T rk) : ∀ n p f g, p < 8 → rk p ≤ n → rk p < f → rk p < g → ouf T K f p = ouf T K g p := by
  intro n
  induction n with
  | zero =>
    intro p f g hp hn hf hg
    obtain ⟨f, rfl⟩ : ∃ x, f = x + 1 := ⟨f - 1, by omega⟩
    obtain ⟨g, rfl⟩ : ∃ x, g = x + 1 := ⟨g - 1, by omega⟩
    show (K p && anyb _ 8) = (K p && anyb _ 8)
    rw [anyb_cong (fun q hq => ?_)]
    by_cases c : bt (T p) q = true
    · have := H.1 p q hp hq c
      omega
    · have e : bt (T p) q = false := by cases hh : bt (T p) q with
        | false => rfl
        | true => exact absurd hh c
      rw [e]; rfl
  | succ n ih =>
    intro p f g hp hn hf hg
    obtain ⟨f, rfl⟩ : ∃ x, f = x + 1 := ⟨f - 1, by omega⟩
    obtain ⟨g, rfl⟩ : ∃ x, g = x + 1 := ⟨g - 1, by omega⟩
    show (K p && anyb _ 8) = (K p && anyb _ 8)
    rw [anyb_cong (fun q hq => ?_)]
    by_cases c : bt (T p) q = true
    · have h1 := H.1 p q hp hq c
      rw [ih q f g hq (by omega) (by omega) (by omega)]
    · have e : bt (T p) q = false := by cases hh : bt (T p) q with
        | false => rfl
        | true => exact absurd hh c
      rw [e]; rfl
def OUL (T : Nat → Int32) (K : Nat → Bool) (p : Nat) : Bool := ouf T K 8 p
theorem oul_eq {T : Nat → Int32} {K : Nat → Bool} {rk : Nat → Nat} (H : RK T rk) {p : Nat} (hp : p < 8) : OUL T K p = (K p && anyb (fun q => bt (T p) q && !(OUL T K q)) 8) := by
  have h7 := H.2 p hp
  show ouf T K 8 p = ouf T K 9 p
  exact ouf_st H 8 p 8 9 hp (by omega) (by omega) (by omega)
/-- stands above, along R -/
def SOb (R : Nat → Int32) (p q : Nat) : Bool := bt (R p) q && !(bt (R q) p)
def rkR (R : Nat → Int32) (p : Nat) : Nat := sm (fun q => if SOb R p q = true then 1 else 0) 8
theorem so_t {R : Nat → Int32} {p q : Nat} : SOb R p q = true ↔ bt (R p) q = true ∧ ¬ bt (R q) p = true := by
  unfold SOb
  rw [Bool.and_eq_true, Bool.not_eq_true', Bool.not_eq_true]
theorem rk_lt {R : Nat → Int32} (hT : TRn R 8) {p q : Nat} (hp : p < 8) (hq : q < 8) (h : SOb R p q = true) : rkR R q < rkR R p := by
  have h1 := so_t.mp h
  refine sm_lt (j := q) (fun x hx => ?_) hq ?_
  · by_cases c : SOb R q x = true
    · have h2 := so_t.mp c
      have h3 : SOb R p x = true := so_t.mpr ⟨hT q hq p x hp hx h1.1 h2.1, fun h4 => h1.2 (hT x hx q p hq hp h2.1 h4)⟩
      rw [if_pos c, if_pos h3]; exact Nat.le_refl _
    · rw [if_neg c]; exact Nat.zero_le _
  · have h2 : ¬ SOb R q q = true := fun c => (so_t.mp c).2 (so_t.mp c).1
    rw [if_neg h2, if_pos h]; decide
theorem rk_7 {R : Nat → Int32} {p : Nat} (hp : p < 8) : rkR R p ≤ 7 := by
  have h : rkR R p < sm (fun _ => 1) 8 := sm_lt (j := p) (fun x hx => by
    by_cases c : SOb R p x = true
    · rw [if_pos c]; exact Nat.le_refl _
    · rw [if_neg c]; exact Nat.zero_le _) hp (by
    have h2 : ¬ SOb R p p = true := fun c => (so_t.mp c).2 (so_t.mp c).1
    rw [if_neg h2]; decide)
  rw [sm_const] at h
  omega
/-- whom one yields to truly -/
def TT (Y : Nat → Int32) (p : Nat) : Int32 := Y p &&& (RIN (clo Y 8) p ^^^ (-1))
theorem tt_bt {Y : Nat → Int32} {p q : Nat} (hq : q < 8) : bt (TT Y p) q = (bt (Y p) q && !(bt (RIN (clo Y 8) p) q)) := by
  unfold TT; rw [bt_andw, bt_notw _ hq]
theorem tt_rk (Y : Nat → Int32) : RK (TT Y) (rkR (clo Y 8)) := by
  refine ⟨fun p q hp hq h => ?_, fun p hp => rk_7 hp⟩
  rw [tt_bt hq, rin_bt hq, Bool.and_eq_true] at h
  have h1 := clo_mono hp hq h.1 8
  refine rk_lt (clo_tr 8 (Nat.le_refl _)) hp hq (so_t.mpr ⟨h1, fun h3 => ?_⟩)
  have h2 := h.2
  rw [h1, h3] at h2
  exact absurd h2 (by decide)
theorem tt_y {Y : Nat → Int32} {p q : Nat} (hq : q < 8) (h : bt (TT Y p) q = true) : bt (Y p) q = true := by
  rw [tt_bt hq, Bool.and_eq_true] at h; exact h.1
theorem tt_w8 {Y : Nat → Int32} {p : Nat} (h : isw8 (Y p)) : isw8 (TT Y p) := w8_and h
/-- how many levels -/
def NL (inn : Int32) (T : Nat → Int32) : Nat := mx (fun p => if bt inn p = true then LVL T p + 1 else 0) 8
theorem nl_lt {inn : Int32} {T : Nat → Int32} {p : Nat} (hp : p < 8) (h : bt inn p = true) : LVL T p < NL inn T := by
  have := mx_ge (F := fun p => if bt inn p = true then LVL T p + 1 else 0) hp
  simp only [h, if_true] at this
  exact this
theorem bf {b : Bool} (h : ¬ b = true) : b = false := by
  cases b with
  | false => rfl
  | true => exact absurd rfl h
theorem sub_iff {a o : Int32} (ha : isw8 a) : a &&& (o ^^^ (-1)) = 0 ↔ ∀ q, q < 8 → bt a q = true → bt o q = true := by
  constructor
  · intro h q hq hb
    exact bt_sub h hq hb
  · intro h
    refine w_ext (w8_and ha) w8_0 (fun q hq => ?_)
    rw [bt_andw, bt_notw _ hq, bt_0 hq]
    by_cases c : bt a q = true
    · rw [h q hq c]; simp
    · rw [bf c]; rfl

