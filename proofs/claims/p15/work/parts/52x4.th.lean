/-! WHAT ONE OWES; HEIGHTS; PARTS -/
/-- what policy p owes for so much on an item, as much as lf being left -/
def OWE (li wo de su : Nat → Nat) (it : Nat → Int32) (lf : Nat → Nat) (p im mu : Nat) : Nat :=
  if bt (it p) im = true then
    min (if 0 < su (8 * p + im) then min (min ((if li p < wo p then mu * li p / wo p else mu) - de p) (li p)) (su (8 * p + im) - 1) else min ((if li p < wo p then mu * li p / wo p else mu) - de p) (li p)) (lf p)
  else 0
theorem owe_li {li wo de su : Nat → Nat} {it : Nat → Int32} {lf : Nat → Nat} {p im mu : Nat} : OWE li wo de su it lf p im mu ≤ li p := by
  unfold OWE
  by_cases c : bt (it p) im = true
  · rw [if_pos c]
    by_cases c2 : 0 < su (8 * p + im)
    · rw [if_pos c2]; omega
    · rw [if_neg c2]; omega
  · rw [if_neg c]; exact Nat.zero_le _
theorem owe_lf {li wo de su : Nat → Nat} {it : Nat → Int32} {lf : Nat → Nat} {p im mu : Nat} : OWE li wo de su it lf p im mu ≤ lf p := by
  unfold OWE
  by_cases c : bt (it p) im = true
  · rw [if_pos c]; exact Nat.min_le_right _ _
  · rw [if_neg c]; exact Nat.zero_le _
/-- the sum of the caps up to a height -/
def SHT (c : Nat → Nat) (h : Nat) : Nat := sm (fun k => min (c k) h) 8
theorem sht_mono {c : Nat → Nat} {a b : Nat} (h : a ≤ b) : SHT c a ≤ SHT c b := sm_le (fun k _ => by omega)
theorem sht_top {c : Nat → Nat} {h : Nat} (hc : ∀ k, k < 8 → c k ≤ h) : SHT c h = sm c 8 := sm_cong (fun k hk => Nat.min_eq_left (hc k hk))
def hgd (c : Nat → Nat) (du : Nat) : Nat → Nat
  | 0 => 0
  | h + 1 => if SHT c (h + 1) ≤ du then h + 1 else hgd c du h
/-- the height that shares a sum in steps -/
def HGT (c : Nat → Nat) (du : Nat) : Nat := hgd c du (mx c 8)
theorem sht_0 (c : Nat → Nat) : SHT c 0 = 0 := sm_min0 c
theorem hgd_p {c : Nat → Nat} {du : Nat} : ∀ n, hgd c du n ≤ n ∧ SHT c (hgd c du n) ≤ du ∧ ∀ h, hgd c du n < h → h ≤ n → du < SHT c h
  | 0 => ⟨Nat.le_refl _, by show SHT c 0 ≤ du; rw [sht_0]; exact Nat.zero_le _, fun h h1 h2 => absurd h1 (by show ¬ 0 < h; omega)⟩
  | n + 1 => by
    have ih := hgd_p (c := c) (du := du) n
    by_cases q : SHT c (n + 1) ≤ du
    · have e : hgd c du (n + 1) = n + 1 := if_pos q
      rw [e]
      exact ⟨Nat.le_refl _, q, fun h h1 h2 => absurd h1 (by omega)⟩
    · have e : hgd c du (n + 1) = hgd c du n := if_neg q
      rw [e]
      refine ⟨by omega, ih.2.1, fun h h1 h2 => ?_⟩
      rcases Nat.lt_or_ge n h with z | z
      · obtain rfl : h = n + 1 := by omega
        omega
      · exact ih.2.2 h h1 z
theorem hgt_mx {c : Nat → Nat} {du : Nat} : HGT c du ≤ mx c 8 := (hgd_p _).1
theorem hgt_s {c : Nat → Nat} {du : Nat} : SHT c (HGT c du) ≤ du := (hgd_p _).2.1
theorem hgt_t {c : Nat → Nat} {du : Nat} : HGT c du = mx c 8 ∨ du < SHT c (HGT c du + 1) := by
  rcases Nat.lt_or_ge (HGT c du) (mx c 8) with q | q
  · exact Or.inr ((hgd_p _).2.2 _ (by show HGT c du < HGT c du + 1; omega) q)
  · exact Or.inl (Nat.le_antisymm hgt_mx q)
theorem hgt_u {c : Nat → Nat} {du h : Nat} (h1 : h ≤ mx c 8) (h2 : SHT c h ≤ du) (h3 : h = mx c 8 ∨ du < SHT c (h + 1)) : h = HGT c du := by
  rcases Nat.lt_trichotomy h (HGT c du) with q | q | q
  · rcases h3 with z | z
    · have := hgt_mx (c := c) (du := du)
      omega
    · have h4 := sht_mono (c := c) (a := h + 1) (b := HGT c du) q
      have h5 := hgt_s (c := c) (du := du)
      omega
  · exact q
  · rcases hgt_t (c := c) (du := du) with z | z
    · omega
    · have h4 := sht_mono (c := c) (a := HGT c du + 1) (b := h) q
      omega
theorem mx_bound {c : Nat → Nat} {b : Nat} (h : ∀ k, k < 8 → c k ≤ b) : mx c 8 ≤ b := mx_le h
/-- how many of the first n stand above h -/
def cnt (c : Nat → Nat) (h : Nat) (n : Nat) : Nat := sm (fun q => if h < c q then 1 else 0) n
theorem cnt_s {c : Nat → Nat} {h n : Nat} : cnt c h (n + 1) = cnt c h n + (if h < c n then 1 else 0) := rfl
/-- parts in steps -/
def DST (c : Nat → Nat) (h ov p : Nat) : Nat := min (c p) h + (if h < c p ∧ cnt c h p < ov then 1 else 0)
def DS (c : Nat → Nat) (du p : Nat) : Nat := DST c (HGT c du) (du - SHT c (HGT c du)) p
/-- the first of the greatest -/
def fm (rs : Nat → Int64) : Nat → Nat
  | 0 => 0
  | n + 1 => if rs (fm rs n) < rs n then n else fm rs n
theorem fm_lt {rs : Nat → Int64} : ∀ {n : Nat}, 0 < n → fm rs n < n
  | 0, h => absurd h (Nat.lt_irrefl 0)
  | 1, _ => by
    show (if rs 0 < rs 0 then 0 else 0) < 1
    by_cases c : rs 0 < rs 0
    · rw [if_pos c]; decide
    · rw [if_neg c]; decide
  | n + 2, _ => by
    have ih := fm_lt (rs := rs) (n := n + 1) (by omega)
    show (if rs (fm rs (n + 1)) < rs (n + 1) then n + 1 else fm rs (n + 1)) < n + 2
    by_cases c : rs (fm rs (n + 1)) < rs (n + 1)
    · rw [if_pos c]; omega
    · rw [if_neg c]; omega
theorem fm_max {rs : Nat → Int64} : ∀ {n : Nat}, (∀ k, k < n → rs k ≤ rs (fm rs n)) ∧ ∀ k, k < fm rs n → rs k < rs (fm rs n)
  | 0 => ⟨fun k hk => absurd hk (Nat.not_lt_zero k), fun k hk => absurd hk (Nat.not_lt_zero k)⟩
  | n + 1 => by
    obtain ⟨h1, h2⟩ := fm_max (rs := rs) (n := n)
    by_cases c : rs (fm rs n) < rs n
    · have e : fm rs (n + 1) = n := if_pos c
      rw [e]
      refine ⟨fun k hk => ?_, fun k hk => ?_⟩
      · rcases Nat.lt_or_ge k n with q | q
        · exact Int64.le_trans (h1 k q) (Int64.le_of_lt c)
        · obtain rfl : k = n := by omega
          exact Int64.le_refl _
      · exact Int64.lt_of_le_of_lt (h1 k hk) c
    · have e : fm rs (n + 1) = fm rs n := if_neg c
      rw [e]
      refine ⟨fun k hk => ?_, h2⟩
      rcases Nat.lt_or_ge k n with q | q
      · exact h1 k q
      · obtain rfl : k = n := by omega
        exact Int64.not_lt.mp c
theorem fm_u {rs : Nat → Int64} {m : Nat} (hm : m < 8) (h1 : ∀ k, k < 8 → rs k ≤ rs m) (h2 : ∀ k, k < m → rs k < rs m) : fm rs 8 = m := by
  obtain ⟨g1, g2⟩ := fm_max (rs := rs) (n := 8)
  have g3 := fm_lt (rs := rs) (n := 8) (by decide)
  rcases Nat.lt_trichotomy (fm rs 8) m with q | q | q
  · exact absurd (Int64.lt_of_le_of_lt (g1 m hm) (h2 _ q)) Int64.lt_irrefl
  · exact q
  · exact absurd (Int64.lt_of_le_of_lt (h1 _ g3) (g2 _ q)) Int64.lt_irrefl
theorem fm_cong {rs ls : Nat → Int64} (h : ∀ k, k < 8 → rs k = ls k) : fm rs 8 = fm ls 8 := by
  obtain ⟨g1, g2⟩ := fm_max (rs := ls) (n := 8)
  have g3 := fm_lt (rs := ls) (n := 8) (by decide)
  refine fm_u g3 (fun k hk => ?_) (fun k hk => ?_)
  · rw [h k hk, h _ g3]; exact g1 k hk
  · rw [h k (by omega), h _ g3]; exact g2 k hk
/-- the rests behind i parts that were rounded up, and the parts -/
def dcs (rs : Nat → Int64) : Nat → Nat → Int64
  | 0 => rs
  | i + 1 => vp_updL (dcs rs i) (fm (dcs rs i) 8) (-1)
def dcp (rs : Nat → Int64) (fl : Nat → Nat) : Nat → Nat → Nat
  | 0 => fl
  | i + 1 => fun k => if k = fm (dcs rs i) 8 then dcp rs fl i k + 1 else dcp rs fl i k
def rmz (c : Nat → Nat) (du : Nat) : Nat → Int64 := fun k => lN (du * c k % sm c 8)
def flz (c : Nat → Nat) (du : Nat) : Nat → Nat := fun k => du * c k / sm c 8
/-- parts by caps -/
def DC (c : Nat → Nat) (du p : Nat) : Nat := dcp (rmz c du) (flz c du) (du - sm (flz c du) 8) p
/-- parts, by either rule -/
def DIV (ru : Int32) (c : Nat → Nat) (du p : Nat) : Nat := if sm c 8 = 0 then 0 else if ru = 0 then DC c du p else DS c du p
/-- rests that are 0 where the others' are below 0 -/
def LR (ls rs : Nat → Int64) : Prop := ∀ k, k < 8 → ls k = if rs k < 0 then 0 else rs k
theorem lr_fm {ls rs : Nat → Int64} (H : LR ls rs) (hp : ∃ k, k < 8 ∧ 0 < rs k) : fm ls 8 = fm rs 8 := by
  obtain ⟨g1, g2⟩ := fm_max (rs := rs) (n := 8)
  have g3 := fm_lt (rs := rs) (n := 8) (by decide)
  obtain ⟨k0, hk0, hp0⟩ := hp
  have hpos : 0 < rs (fm rs 8) := Int64.lt_of_lt_of_le hp0 (g1 k0 hk0)
  have em : ls (fm rs 8) = rs (fm rs 8) := by
    rw [H _ g3, if_neg (fun q => Int64.lt_irrefl (Int64.lt_trans q hpos))]
  refine fm_u g3 (fun k hk => ?_) (fun k hk => ?_)
  · rw [em, H k hk]
    by_cases c : rs k < 0
    · rw [if_pos c]; exact Int64.le_of_lt hpos
    · rw [if_neg c]; exact g1 k hk
  · rw [em, H k (by omega)]
    by_cases c : rs k < 0
    · rw [if_pos c]; exact hpos
    · rw [if_neg c]; exact g2 k hk
theorem lr_up {ls rs : Nat → Int64} (H : LR ls rs) (m : Nat) : LR (vp_updL ls m 0) (vp_updL rs m (-1)) := by
  intro k hk
  by_cases c : k = m
  · subst c; rw [pk_uLs, pk_uLs, if_pos (by decide)]
  · rw [pk_uLn c, pk_uLn c]; exact H k hk
theorem lr_0 {ls rs : Nat → Int64} (h : ∀ k, k < 8 → ls k = rs k) (hn : ∀ k, k < 8 → ¬ rs k < 0) : LR ls rs := fun k hk => by
  rw [if_neg (hn k hk)]; exact h k hk
theorem rm_nn {c : Nat → Nat} {du k : Nat} (hS : 0 < sm c 8) (hb : sm c 8 < 2 ^ 31) : ¬ rmz c du k < 0 := fun q => by
  have h1 : du * c k % sm c 8 < sm c 8 := Nat.mod_lt _ hS
  have h2 := (lN_lt (a := du * c k % sm c 8) (b := 0) (by omega) (by decide)).mp q
  omega
/-- the caps that stand below zero never come first: as many parts are rounded up as there are rests -/
theorem dc_pos {c : Nat → Nat} {du : Nat} (hS : 0 < sm c 8) (hb : sm c 8 < 2 ^ 31) (hd : du ≤ sm c 8) (hc : ∀ k, k < 8 → c k ≤ 1000000) : ∀ i, i ≤ du - sm (flz c du) 8 → BC (fun k => nI (dcp (rmz c du) (flz c du) i k)) (dcs (rmz c du) i) c du (du - sm (flz c du) 8 - i)
  | 0, _ => bc_0 (fun k _ => ⟨rfl, rfl⟩) hS hb hd
  | i + 1, hi => by
    have ih := dc_pos hS hb hd hc i (by omega)
    have g3 := fm_lt (rs := dcs (rmz c du) i) (n := 8) (by decide)
    have h := bc_step (b := fm (dcs (rmz c du) i) 8) (v := nI (dcp (rmz c du) (flz c du) i (fm (dcs (rmz c du) i) 8))) (w := nI (dcp (rmz c du) (flz c du) i (fm (dcs (rmz c du) i) 8) + 1)) ih (by omega) g3 (fun k hk => fm_max.1 k hk) hc (by rw [nI_clamp (by omega)]) (nI_1 _).symm
    rw [nI_clamp (by omega)] at h
    have e1 : upd (fun k => nI (dcp (rmz c du) (flz c du) i k)) (fm (dcs (rmz c du) i) 8) (nI (dcp (rmz c du) (flz c du) i (fm (dcs (rmz c du) i) 8) + 1)) = fun k => nI (dcp (rmz c du) (flz c du) (i + 1) k) := by
      funext k
      show _ = nI (if k = fm (dcs (rmz c du) i) 8 then _ else _)
      by_cases q : k = fm (dcs (rmz c du) i) 8
      · rw [q, pk_us, if_pos rfl]
      · rw [pk_un q, if_neg q]
    rw [e1] at h
    have e2 : du - sm (flz c du) 8 - i - 1 = du - sm (flz c du) 8 - (i + 1) := by omega
    rw [e2] at h
    exact h
theorem dc_ex {c : Nat → Nat} {du i : Nat} (hS : 0 < sm c 8) (hb : sm c 8 < 2 ^ 31) (hd : du ≤ sm c 8) (hc : ∀ k, k < 8 → c k ≤ 1000000) (hi : i < du - sm (flz c du) 8) : ∃ k, k < 8 ∧ 0 < dcs (rmz c du) i k := by
  obtain ⟨pt, -, -, -, -, h5⟩ := dc_pos hS hb hd hc i (by omega)
  exact cp_pos (by omega)
theorem dcp_b {rs : Nat → Int64} {fl : Nat → Nat} : ∀ i k, dcp rs fl i k ≤ fl k + i
  | 0, k => Nat.le_refl _
  | i + 1, k => by
    have ih := dcp_b (rs := rs) (fl := fl) i k
    show (if k = fm (dcs rs i) 8 then dcp rs fl i k + 1 else dcp rs fl i k) ≤ _
    by_cases c : k = fm (dcs rs i) 8
    · rw [if_pos c]; omega
    · rw [if_neg c]; omega
theorem dc_b {c : Nat → Nat} {du : Nat} (hS : 0 < sm c 8) (hb : sm c 8 < 2 ^ 31) (hd : du ≤ sm c 8) (hc : ∀ k, k < 8 → c k ≤ 1000000) {k : Nat} (hk : k < 8) : DC c du k < 2 ^ 31 := by
  have h1 := dcp_b (rs := rmz c du) (fl := flz c du) (du - sm (flz c du) 8) k
  have h2 : flz c du k ≤ c k := Nat.le_trans (Nat.div_le_div_right (Nat.mul_le_mul_right _ hd)) (by rw [Nat.mul_div_cancel_left _ hS]; exact Nat.le_refl _)
  have h3 := hc k hk
  have h4 : sm c 8 ≤ 8000000 := sm_bound (c := 1000000) hc
  show dcp (rmz c du) (flz c du) (du - sm (flz c du) 8) k < 2 ^ 31
  omega
theorem dc_sum {c : Nat → Nat} {du : Nat} (hS : 0 < sm c 8) (hb : sm c 8 < 2 ^ 31) (hd : du ≤ sm c 8) (hc : ∀ k, k < 8 → c k ≤ 1000000) : sm (DC c du) 8 = du ∧ ∀ k, k < 8 → DC c du k ≤ c k := by
  obtain ⟨pt, h1, h2, h3, -, -⟩ := dc_pos hS hb hd hc (du - sm (flz c du) 8) (Nat.le_refl _)
  have hle : ∀ k, k < 8 → pt k ≤ 1000000 := fun k hk => Nat.le_trans (h3 k hk) (hc k hk)
  have e : ∀ k, k < 8 → DC c du k = pt k := fun k hk => by
    have h4 : nI (DC c du k) = nI (pt k) := h1 k hk
    have h5 := hle k hk
    -- both below 2^31: the part is at most du
    have h6 : DC c du k < 2 ^ 31 := dc_b hS hb hd hc hk
    exact (nI_eq h6 (by omega)).mp h4
  exact ⟨by rw [sm_cong e]; omega, fun k hk => by rw [e k hk]; exact h3 k hk⟩

