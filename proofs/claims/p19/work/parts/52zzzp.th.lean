/-! the shortest way -/
def DIST (Y : Nat → Int32) (ot : Nat) (fr : Nat → Nat) : Prop := (∀ k, k < 8 → fr k ≤ 8) ∧ fr ot = 0 ∧ (∀ a, a < 8 → a ≠ ot → fr a = 8 ∨ ∃ b : Nat, b < 8 ∧ bt (Y a) b = true ∧ fr b + 1 ≤ fr a) ∧ (∀ a b, a < 8 → b < 8 → bt (Y a) b = true → fr b < 8 → fr a ≤ fr b + 1)
theorem dw_le {Y : Nat → Int32} {ot : Nat} {f g : Nat → Nat} (hf : DIST Y ot f) (hg : DIST Y ot g) : ∀ n a, a < 8 → f a ≤ n → g a ≤ f a := by
  intro n
  induction n with
  | zero =>
    intro a ha h
    by_cases c : a = ot
    · rw [c, hg.2.1]; exact Nat.zero_le _
    · rcases hf.2.2.1 a ha c with z | ⟨b, _, _, z⟩
      · omega
      · omega
  | succ n ih =>
    intro a ha h
    by_cases c : a = ot
    · rw [c, hg.2.1]; exact Nat.zero_le _
    · have h8 := hg.1 a ha
      rcases hf.2.2.1 a ha c with z | ⟨b, hb, ht, z⟩
      · omega
      · have h1 := ih b hb (by omega)
        have h2 := hf.1 a ha
        have h3 := hg.2.2.2 a b ha hb ht (by omega)
        omega
theorem dw_u {Y : Nat → Int32} {ot : Nat} {f g : Nat → Nat} (hf : DIST Y ot f) (hg : DIST Y ot g) {a : Nat} (ha : a < 8) : f a = g a := Nat.le_antisymm (dw_le hg hf _ a ha (Nat.le_refl _)) (dw_le hf hg _ a ha (Nat.le_refl _))
noncomputable def DSF (Y : Nat → Int32) (ot : Nat) : Nat → Nat := Classical.epsilon (fun fr => DIST Y ot fr)
theorem dsf_d {Y : Nat → Int32} {ot : Nat} {f : Nat → Nat} (h : DIST Y ot f) : DIST Y ot (DSF Y ot) := Classical.epsilon_spec (p := fun fr => DIST Y ot fr) ⟨f, h⟩
theorem dsf_eq {Y : Nat → Int32} {ot : Nat} {f : Nat → Nat} (h : DIST Y ot f) {a : Nat} (ha : a < 8) : f a = DSF Y ot a := dw_u h (dsf_d h) ha
def RNDF (fr : Nat → Nat) (k : Nat) : Int32 := if fr k < 8 then nI (fr k) else -1
theorem rnd_y {fr : Nat → Nat} {k : Nat} (h : fr k < 8) : RNDF fr k = nI (fr k) := if_pos h
theorem rnd_n {fr : Nat → Nat} {k : Nat} (h : ¬ fr k < 8) : RNDF fr k = -1 := if_neg h
/-- the class, ahead of a round -/
def MS (Y : Nat → Int32) (ot : Nat) (near : Int32) (f : Nat → Int32) (r : Nat) : Prop := ∃ fr : Nat → Nat, (∀ k, k < 8 → f k = RNDF fr k) ∧ (∀ k, k < 8 → fr k = 8 ∨ fr k < r) ∧ (∀ k, k < 8 → bt near k = decide (fr k < 8)) ∧ fr ot = 0 ∧ (∀ a, a < 8 → a ≠ ot → fr a = 8 ∨ ∃ b : Nat, b < 8 ∧ bt (Y a) b = true ∧ fr b + 1 ≤ fr a) ∧ (∀ a b, a < 8 → b < 8 → bt (Y a) b = true → fr b + 1 < r → fr a ≤ fr b + 1)
def CHG (Y : Nat → Int32) (fr : Nat → Nat) (k : Nat) : Prop := fr k = 8 ∧ ∃ b : Nat, b < 8 ∧ bt (Y k) b = true ∧ fr b < 8
/-- the class, within a round -/
def MI (Y : Nat → Int32) (ot : Nat) (near wider : Int32) (f : Nat → Int32) (r i : Nat) : Prop := ∃ f0 : Nat → Int32, MS Y ot near f0 r ∧ ∃ fr fq : Nat → Nat, (∀ k, k < 8 → f0 k = RNDF fr k) ∧ (∀ k, k < 8 → bt near k = decide (fr k < 8)) ∧ (∀ k, k < 8 → fr k = 8 ∨ fr k < r) ∧ fr ot = 0 ∧ (∀ a, a < 8 → a ≠ ot → fr a = 8 ∨ ∃ b : Nat, b < 8 ∧ bt (Y a) b = true ∧ fr b + 1 ≤ fr a) ∧ (∀ a b, a < 8 → b < 8 → bt (Y a) b = true → fr b + 1 < r → fr a ≤ fr b + 1) ∧ (∀ k, k < 8 → k < i → CHG Y fr k → fq k = r) ∧ (∀ k, k < 8 → ¬ (k < i ∧ CHG Y fr k) → fq k = fr k) ∧ (∀ k, k < 8 → f k = RNDF fq k) ∧ (∀ k, k < 8 → bt wider k = decide (fq k < 8))
theorem mi_0 {Y : Nat → Int32} {ot : Nat} {near : Int32} {f : Nat → Int32} {r : Nat} (H : MS Y ot near f r) : MI Y ot near near f r 0 := by
  have H0 := H
  obtain ⟨fr, h1, h2, h3, h4, h5, h6⟩ := H
  exact ⟨f, H0, fr, fr, h1, h3, h2, h4, h5, h6, fun k _ z => absurd z (Nat.not_lt_zero k), fun _ _ _ => rfl, h1, h3⟩
theorem mi_no {Y : Nat → Int32} {ot : Nat} {near wider : Int32} {f : Nat → Int32} {r i : Nat} (H : MI Y ot near wider f r i) (hi : i < 8) (hn : bt near i = true ∨ ∀ q, q < 8 → bt (Y i) q = true → ¬ bt near q = true) : MI Y ot near wider f r (i + 1) := by
  obtain ⟨f0, H0, fr, fq, h1, h2, h3, h4, h5, h6, h7, h8, h9, h10⟩ := H
  have hc : ¬ CHG Y fr i := fun z => by
    rcases hn with q | q
    · rw [h2 i hi, decide_eq_true_eq] at q
      have := z.1
      omega
    · obtain ⟨b, hb, ht, hl⟩ := z.2
      exact q b hb ht (by rw [h2 b hb]; exact decide_eq_true hl)
  refine ⟨f0, H0, fr, fq, h1, h2, h3, h4, h5, h6, fun k hk hki z => ?_, fun k hk z => ?_, h9, h10⟩
  · by_cases e : k = i
    · subst e; exact absurd z hc
    · exact h7 k hk (by omega) z
  · by_cases e : k = i
    · subst e; exact h8 k hk (fun q => absurd q.1 (Nat.lt_irrefl _))
    · exact h8 k hk (fun q => z ⟨by omega, q.2⟩)
theorem mi_yes {Y : Nat → Int32} {ot : Nat} {near wider : Int32} {f : Nat → Int32} {r i q : Nat} {v w : Int32} (H : MI Y ot near wider f r i) (hi : i < 8) (hr : r < 8) (hn : ¬ bt near i = true) (hq : q < 8) (ht : bt (Y i) q = true) (hb : bt near q = true) (ev : v = 1 <<< (nI i &&& 31)) (ew : w = wider ||| v) : MI Y ot near w (upd f (Int32.toNatClampNeg (nI i)) (nI r)) r (i + 1) := by
  obtain ⟨f0, H0, fr, fq, h1, h2, h3, h4, h5, h6, h7, h8, h9, h10⟩ := H
  have hc : CHG Y fr i := by
    refine ⟨?_, q, hq, ht, ?_⟩
    · rcases h3 i hi with z | z
      · exact z
      · exfalso; exact hn (by rw [h2 i hi]; exact decide_eq_true (by omega))
    · rw [h2 q hq, decide_eq_true_eq] at hb; exact hb
  refine ⟨f0, H0, fr, fun k => if k = i then r else fq k, h1, h2, h3, h4, h5, h6, fun k hk hki z => ?_, fun k hk z => ?_, fun k hk => ?_, fun k hk => ?_⟩
  · show (if k = i then r else fq k) = r
    by_cases e : k = i
    · rw [if_pos e]
    · rw [if_neg e]; exact h7 k hk (by omega) z
  · show (if k = i then r else fq k) = fr k
    by_cases e : k = i
    · subst e; exact absurd ⟨Nat.lt_succ_self _, hc⟩ z
    · rw [if_neg e]; exact h8 k hk (fun q => z ⟨by omega, q.2⟩)
  · rw [nI_clamp (by omega)]
    by_cases e : k = i
    · subst e
      rw [pk_us, rnd_y (fr := fun j => if j = k then r else fq j) (by show (if k = k then r else fq k) < 8; rw [if_pos rfl]; exact hr)]
      show nI r = nI (if k = k then r else fq k)
      rw [if_pos rfl]
    · rw [pk_un e, h9 k hk]
      unfold RNDF
      show _ = if (if k = i then r else fq k) < 8 then nI (if k = i then r else fq k) else -1
      rw [if_neg e]
  · rw [bt_or hi hk ev ew, h10 k hk]
    by_cases e : k = i
    · show (decide (fq k < 8) || decide (k = i)) = decide ((if k = i then r else fq k) < 8)
      rw [if_pos e, decide_eq_true e, decide_eq_true hr, Bool.or_true]
    · show (decide (fq k < 8) || decide (k = i)) = decide ((if k = i then r else fq k) < 8)
      rw [if_neg e, decide_eq_false e, Bool.or_false]
theorem mi_8 {Y : Nat → Int32} {ot : Nat} {near wider : Int32} {f : Nat → Int32} {r : Nat} (H : MI Y ot near wider f r 8) (hr : r < 8) (hot : ot < 8) : MS Y ot wider f (r + 1) := by
  obtain ⟨f0, H0, fr, fq, h1, h2, h3, h4, h5, h6, h7, h8, h9, h10⟩ := H
  have k1 : ∀ k, k < 8 → CHG Y fr k → fq k = r := fun k hk z => h7 k hk hk z
  have k2 : ∀ k, k < 8 → ¬ CHG Y fr k → fq k = fr k := fun k hk z => h8 k hk (fun q => z q.2)
  have k3 : ∀ k, k < 8 → fr k < 8 → fq k = fr k := fun k hk z => k2 k hk (fun q => by have := q.1; omega)
  refine ⟨fq, h9, fun k hk => ?_, h10, ?_, fun a ha hao => ?_, fun a b ha hb ht hl => ?_⟩
  · by_cases c : CHG Y fr k
    · rw [k1 k hk c]; right; omega
    · rw [k2 k hk c]; have := h3 k hk; omega
  · rw [k3 ot hot (by omega), h4]
  · by_cases c : CHG Y fr a
    · obtain ⟨b, hb, ht, hl⟩ := c.2
      right
      refine ⟨b, hb, ht, ?_⟩
      have h3b := h3 b hb
      rw [k3 b hb hl, k1 a ha c]; omega
    · rw [k2 a ha c]
      rcases h5 a ha hao with z | ⟨b, hb, ht, z⟩
      · exact Or.inl z
      · right
        refine ⟨b, hb, ht, ?_⟩
        have h3a := h3 a ha
        rw [k3 b hb (by omega)]; exact z
  · by_cases cb : CHG Y fr b
    · rw [k1 b hb cb] at hl; omega
    · rw [k2 b hb cb] at hl ⊢
      have hb8 : fr b < 8 := by omega
      by_cases ca : CHG Y fr a
      · rw [k1 a ha ca]
        by_cases e : fr b + 1 < r
        · have := h6 a b ha hb ht e
          have := ca.1
          omega
        · omega
      · rw [k2 a ha ca]
        have h3a := h3 a ha
        have hne : ¬ fr a = 8 := fun z => ca ⟨z, b, hb, ht, hb8⟩
        by_cases e : fr b + 1 < r
        · exact h6 a b ha hb ht e
        · omega
theorem ms_0 {Y : Nat → Int32} {ot : Nat} {near : Int32} {f : Nat → Int32} (hot : ot < 8) (hf : ∀ k, k < 8 → f k = -1) (en : near = 1 <<< (nI ot &&& 31)) : MS Y ot near (upd f (Int32.toNatClampNeg (nI ot)) 0) 1 := by
  refine ⟨fun k => if k = ot then 0 else 8, fun k hk => ?_, fun k hk => ?_, fun k hk => ?_, if_pos rfl, fun a ha hao => Or.inl (if_neg hao), fun a b _ _ _ z => absurd z (by omega)⟩
  · rw [nI_clamp (by omega)]
    by_cases e : k = ot
    · subst e
      rw [pk_us, rnd_y (fr := fun j => if j = k then 0 else 8) (by show (if k = k then 0 else 8) < 8; rw [if_pos rfl]; decide)]
      show (0 : Int32) = nI (if k = k then 0 else 8)
      rw [if_pos rfl]; rfl
    · rw [pk_un e, hf k hk, rnd_n (fr := fun j => if j = ot then 0 else 8) (by show ¬ (if k = ot then 0 else 8) < 8; rw [if_neg e]; decide)]
  · show (if k = ot then 0 else 8) = 8 ∨ (if k = ot then 0 else 8) < 1
    by_cases e : k = ot
    · rw [if_pos e]; right; decide
    · rw [if_neg e]; left; rfl
  · show bt near k = decide ((if k = ot then 0 else 8) < 8)
    rw [en, bt_sh1 hot hk, decide_eq_decide]
    by_cases e : k = ot
    · exact ⟨fun _ => show (if k = ot then 0 else 8) < 8 from by rw [if_pos e]; decide, fun _ => e⟩
    · exact ⟨fun z => absurd z e, fun z => absurd (show (if k = ot then 0 else 8) < 8 from z) (by rw [if_neg e]; decide)⟩
theorem ms_d {Y : Nat → Int32} {ot : Nat} {near : Int32} {f : Nat → Int32} (H : MS Y ot near f 8) : DIST Y ot (DSF Y ot) ∧ ∀ k, k < 8 → f k = RNDF (DSF Y ot) k := by
  obtain ⟨fr, h1, h2, h3, h4, h5, h6⟩ := H
  have hD : DIST Y ot fr := by
    refine ⟨fun k hk => by have := h2 k hk; omega, h4, h5, fun a b ha hb ht hl => ?_⟩
    by_cases e : fr b + 1 < 8
    · exact h6 a b ha hb ht e
    · have := h2 a ha; omega
  refine ⟨dsf_d hD, fun k hk => ?_⟩
  rw [h1 k hk]
  unfold RNDF
  rw [dsf_eq hD hk]
theorem fq_d {Y Y0 f : Nat → Int32} {ot : Nat} (H : FQ Y f ot 8 0 0) (hY : ∀ k, k < 8 → Y k = Y0 k) : DIST Y0 ot (DSF Y0 ot) ∧ nv f (DSF Y0 ot) := by
  obtain ⟨fr, h1, h2, h3, h4, h5, h6⟩ := H
  have hD : DIST Y0 ot fr := by
    refine ⟨h2, h3, fun a ha hao => ?_, fun a b ha hb ht hl => h5 a b ha hb (by rw [hY a ha]; exact ht) hl⟩
    have h9 := h4 a ha hao
    rw [hY a ha] at h9
    exact h9
  exact ⟨dsf_d hD, fun k hk => by rw [h1 k hk, dsf_eq hD hk]⟩
/-! the row -/
def LST (P : Nat → Bool) : Nat → Nat
  | 0 => 0
  | n + 1 => if LST P n < n then LST P n else if P n = true then n else n + 1
theorem lst_none {P : Nat → Bool} : ∀ n, (∀ j, j < n → ¬ P j = true) → LST P n = n
  | 0, _ => rfl
  | n + 1, h => by
    have h1 := lst_none (P := P) n (fun j hj => h j (by omega))
    show (if LST P n < n then LST P n else if P n = true then n else n + 1) = n + 1
    rw [h1, if_neg (Nat.lt_irrefl _), if_neg (h n (by omega))]
theorem lst_is {P : Nat → Bool} {i : Nat} : ∀ n, i < n → (∀ j, j < i → ¬ P j = true) → P i = true → LST P n = i
  | 0, h, _, _ => absurd h (Nat.not_lt_zero i)
  | n + 1, h, h1, h2 => by
    show (if LST P n < n then LST P n else if P n = true then n else n + 1) = i
    by_cases c : i = n
    · subst c
      rw [lst_none i h1, if_neg (Nat.lt_irrefl _), if_pos h2]
    · have h3 := lst_is (P := P) n (by omega) h1 h2
      rw [h3, if_pos (show i < n from by omega)]
def NPW (Y : Nat → Int32) (fr : Nat → Nat) (a q : Nat) : Bool := bt (Y a) q && decide (fr q + 1 = fr a)
theorem npw_t {Y : Nat → Int32} {fr : Nat → Nat} {a q : Nat} : NPW Y fr a q = true ↔ bt (Y a) q = true ∧ fr q + 1 = fr a := by unfold NPW; rw [Bool.and_eq_true, decide_eq_true_eq]
noncomputable def WYF (Y : Nat → Int32) (fr : Nat → Nat) (one : Nat) : Nat → Nat
  | 0 => one
  | i + 1 => LST (NPW Y fr (WYF Y fr one i)) 8
theorem npw_ex {Y : Nat → Int32} {ot a : Nat} {fr : Nat → Nat} (H : DIST Y ot fr) (ha : a < 8) (h0 : 0 < fr a) (h8 : fr a < 8) : ∃ q, q < 8 ∧ NPW Y fr a q = true := by
  rcases H.2.2.1 a ha (fun z => by rw [z, H.2.1] at h0; omega) with z | ⟨b, z1, z2, z3⟩
  · omega
  · have := H.2.2.2 a b ha z1 z2 (by omega)
    exact ⟨b, z1, npw_t.mpr ⟨z2, by omega⟩⟩
theorem lst_lt {P : Nat → Bool} : ∀ n, (∃ q, q < n ∧ P q = true) → LST P n < n ∧ P (LST P n) = true
  | 0, h => by obtain ⟨q, h1, _⟩ := h; exact absurd h1 (Nat.not_lt_zero q)
  | n + 1, h => by
    show (if LST P n < n then LST P n else if P n = true then n else n + 1) < n + 1 ∧ P (if LST P n < n then LST P n else if P n = true then n else n + 1) = true
    by_cases c : ∃ q, q < n ∧ P q = true
    · have h1 := lst_lt (P := P) n c
      rw [if_pos h1.1]; exact ⟨by omega, h1.2⟩
    · have h1 := lst_none (P := P) n (fun j hj z => c ⟨j, hj, z⟩)
      obtain ⟨q, hq, hp⟩ := h
      have e : q = n := Classical.byContradiction fun z => c ⟨q, by omega, hp⟩
      subst e
      rw [h1, if_neg (Nat.lt_irrefl _), if_pos hp]; exact ⟨Nat.lt_succ_self _, hp⟩
theorem wyf_st {Y : Nat → Int32} {ot one : Nat} {fr : Nat → Nat} (H : DIST Y ot fr) (ho : one < 8) (h8 : fr one < 8) : ∀ i, i ≤ fr one → WYF Y fr one i < 8 ∧ fr (WYF Y fr one i) + i = fr one
  | 0, _ => ⟨ho, rfl⟩
  | i + 1, h => by
    obtain ⟨h1, h2⟩ := wyf_st H ho h8 i (by omega)
    have h3 := lst_lt 8 (npw_ex H h1 (by omega) (by omega))
    have h4 := (npw_t.mp h3.2).2
    refine ⟨h3.1, ?_⟩
    show fr (LST (NPW Y fr (WYF Y fr one i)) 8) + (i + 1) = fr one
    omega
theorem wyf_s {Y : Nat → Int32} {fr : Nat → Nat} {one i a n : Nat} (e : a = WYF Y fr one i) (h : LST (NPW Y fr a) 8 = n) : n = WYF Y fr one (i + 1) := by
  show n = LST (NPW Y fr (WYF Y fr one i)) 8
  rw [← e, h]
theorem dw_0 {Y : Nat → Int32} {ot a : Nat} {fr : Nat → Nat} (H : DIST Y ot fr) (ha : a < 8) : fr a = 0 ↔ a = ot := by
  constructor
  · intro h
    refine Classical.byContradiction fun c => ?_
    rcases H.2.2.1 a ha c with z | ⟨b, _, _, z⟩
    · omega
    · omega
  · intro h; rw [h]; exact H.2.1
theorem rnd_17 {fr : Nat → Nat} {k : Nat} {v : Int32} (e : v = RNDF fr k) (h8 : fr k ≤ 8) : ((1 : Int32) ≤ v ∧ v ≤ 7) ↔ (1 ≤ fr k ∧ fr k ≤ 7) := by
  rw [e]
  by_cases c : fr k < 8
  · rw [rnd_y c]
    have h1 := nI_leI (a := 1) (b := fr k) (by decide) (by omega)
    have h2 := nI_leI (a := fr k) (b := 7) (by omega) (by decide)
    exact ⟨fun h => ⟨h1.mp h.1, h2.mp h.2⟩, fun h => ⟨h1.mpr h.1, h2.mpr h.2⟩⟩
  · rw [rnd_n c]
    exact ⟨fun h => absurd h.1 (by decide), fun h => absurd h.2 (by omega)⟩
theorem rnd_eq {fr : Nat → Nat} {p a : Nat} {x y z : Int32} (ha : 1 ≤ fr a) (h8 : fr a < 8) (ex : x = RNDF fr p) (ey : y = RNDF fr a) (ez : z = y - 1) : x = z ↔ fr p + 1 = fr a := by
  have hz : z = nI (fr a - 1) := by
    rw [ez, ey, rnd_y h8, show (1 : Int32) = nI 1 from rfl]; exact pk_sub (by omega)
  rw [ex, hz]
  by_cases c : fr p < 8
  · rw [rnd_y c]
    constructor
    · intro h
      have h1 := congrArg Int32.toNatClampNeg h
      rw [nI_clamp (by omega), nI_clamp (by omega)] at h1; omega
    · intro h; exact congrArg nI (by omega)
  · rw [rnd_n c]
    exact ⟨fun h => absurd h.symm (ni_m1 (by omega)), fun h => by omega⟩
noncomputable def AWY (Y : Nat → Int32) (ot one : Nat) (k : Int32) : Int32 := if one = ot ∨ DSF Y ot one = 8 then -1 else if k = -1 then nI (DSF Y ot one + 1) else if 0 ≤ k ∧ k ≤ nI (DSF Y ot one) then nI (WYF Y (DSF Y ot) one (Int32.toNatClampNeg k)) else -1
noncomputable def AWL (np nl : Nat) (p0 p1 p2 : Int32) (v : Int32) : Int32 := if ((0 ≤ p0 ∧ p0 ≤ nI nl - 1) ∧ (0 ≤ p1 ∧ p1 ≤ nI np - 1)) ∧ (0 ≤ p2 ∧ p2 ≤ nI np - 1) then v else -1
theorem and_z {y a x o : Int32} (ea : a = y) (ex : x = a &&& o) (hx : x = 0) : ∀ q, q < 8 → bt y q = true → ¬ bt o q = true := fun q hq h1 h2 => by
  have h3 : bt x q = true := by rw [ex, ea, bt_andw, h1, h2]; rfl
  rw [hx, bt_0 hq] at h3
  exact absurd h3 Bool.false_ne_true
theorem mi_yes2 {Y : Nat → Int32} {ot : Nat} {near wider : Int32} {f : Nat → Int32} {r i : Nat} {a x v w : Int32} (H : MI Y ot near wider f r i) (hi : i < 8) (hr : r < 8) (hn : ¬ bt near i = true) (ea : a = Y i) (ex : x = a &&& near) (hx : ¬ x = 0) (hw : isw8 (Y i)) (ev : v = 1 <<< (nI i &&& 31)) (ew : w = wider ||| v) : MI Y ot near w (upd f (Int32.toNatClampNeg (nI i)) (nI r)) r (i + 1) := by
  obtain ⟨q, hq, hz⟩ := w8_ne (by rw [ex, ea]; exact w8_and hw) hx
  rw [ex, ea, bt_andw, Bool.and_eq_true] at hz
  exact mi_yes H hi hr hn hq hz.1 hz.2 ev ew
theorem nw_s {P : Nat → Bool} {i : Nat} (H : ∀ j, j < i → ¬ P j = true) (h : ¬ P i = true) : ∀ j, j < i + 1 → ¬ P j = true := fun j hj => by
  by_cases c : j = i
  · rw [c]; exact h
  · exact H j (by omega)
theorem nw_abs {P : Nat → Bool} {i : Nat} (h : ∃ q, q < 8 ∧ P q = true) (H : ∀ j, j < i → ¬ P j = true) (hi : i = 8) : False := by
  obtain ⟨q, h1, h2⟩ := h
  exact H q (by omega) h2
theorem nw_lt {P : Nat → Bool} {i : Nat} (h : ∃ q, q < 8 ∧ P q = true) (H : ∀ j, j < i → ¬ P j = true) : i < 8 := by
  obtain ⟨q, h1, h2⟩ := h
  rcases Nat.lt_or_ge q i with z | z
  · exact absurd h2 (H q z)
  · omega
noncomputable def FND (Y : Nat → Int32) (ot one : Nat) : Nat := if 1 ≤ DSF Y ot one ∧ DSF Y ot one ≤ 7 then DSF Y ot one + 1 else 0
theorem fnd_y {Y : Nat → Int32} {ot one r : Nat} (e : r = DSF Y ot one) (h1 : 1 ≤ r) (h7 : r ≤ 7) : r + 1 = FND Y ot one := by
  unfold FND
  rw [if_pos (by omega), e]
theorem fnd_n {Y : Nat → Int32} {ot one : Nat} (h : ¬ (1 ≤ DSF Y ot one ∧ DSF Y ot one ≤ 7)) : (0 : Int32) = nI (FND Y ot one) := by
  unfold FND
  rw [if_neg h]; rfl
theorem fnd_8 {Y : Nat → Int32} {ot one : Nat} : FND Y ot one ≤ 8 := by
  unfold FND
  by_cases c : 1 ≤ DSF Y ot one ∧ DSF Y ot one ≤ 7
  · rw [if_pos c]; omega
  · rw [if_neg c]; omega
theorem fnd_z {Y : Nat → Int32} {ot one : Nat} (H : DIST Y ot (DSF Y ot)) (ho : one < 8) (h : FND Y ot one = 0) : one = ot ∨ DSF Y ot one = 8 := by
  unfold FND at h
  have h8 := H.1 one ho
  by_cases c : 1 ≤ DSF Y ot one ∧ DSF Y ot one ≤ 7
  · rw [if_pos c] at h; omega
  · by_cases d : DSF Y ot one = 0
    · exact Or.inl ((dw_0 H ho).mp d)
    · right; omega
theorem fnd_nz {Y : Nat → Int32} {ot one n : Nat} (H : DIST Y ot (DSF Y ot)) (ho : one < 8) (e : n = FND Y ot one) (h : ¬ n = 0) : (1 ≤ DSF Y ot one ∧ DSF Y ot one ≤ 7) ∧ n = DSF Y ot one + 1 ∧ ¬ (one = ot ∨ DSF Y ot one = 8) := by
  have h0 := dw_0 H ho
  unfold FND at e
  by_cases c : 1 ≤ DSF Y ot one ∧ DSF Y ot one ≤ 7
  · rw [if_pos c] at e
    refine ⟨c, e, fun z => ?_⟩
    rcases z with z | z
    · have := h0.mpr z; omega
    · omega
  · rw [if_neg c] at e; exact absurd e h
section
variable {Y R : Nat → Int32} {ot one n kj : Nat} {k u v : Int32}
theorem awy_0 (h : one = ot ∨ DSF Y ot one = 8) : -1 = AWY Y ot one k := by
  unfold AWY
  rw [if_pos h]
theorem awy_l (h : ¬ (one = ot ∨ DSF Y ot one = 8)) (hk : k = -1) (e : n = DSF Y ot one + 1) : nI n = AWY Y ot one k := by
  unfold AWY
  rw [if_neg h, if_pos hk, e]
theorem awy_n (h : ¬ (one = ot ∨ DSF Y ot one = 8)) (hk : ¬ k = -1) (hw : ¬ (0 ≤ k ∧ k ≤ nI (DSF Y ot one))) : -1 = AWY Y ot one k := by
  unfold AWY
  rw [if_neg h, if_neg hk, if_neg hw]
theorem awy_y (h : ¬ (one = ot ∨ DSF Y ot one = 8)) (hk : ¬ k = -1) (hw : 0 ≤ k ∧ k ≤ nI (DSF Y ot one)) (ek : k = nI kj) (hj : kj < 2 ^ 31) (ev : v = nI (WYF Y (DSF Y ot) one kj)) : v = AWY Y ot one k := by
  unfold AWY
  rw [if_neg h, if_neg hk, if_pos hw, ek, nI_clamp hj, ev]
theorem awy_c0 (H : DIST Y ot (DSF Y ot)) (ho : one < 8) (e : n = FND Y ot one) (h : n = 0) : -1 = AWY Y ot one k := awy_0 (fnd_z H ho (e.symm.trans h))
theorem awy_cl (H : DIST Y ot (DSF Y ot)) (ho : one < 8) (e : n = FND Y ot one) (h : ¬ n = 0) (hk : k = -1) : nI n = AWY Y ot one k := by
  obtain ⟨_, h2, h3⟩ := fnd_nz H ho e h
  exact awy_l h3 hk h2
theorem pred_ni {u : Int32} {n d : Nat} (hn : n = d + 1) (eu : u = nI n - 1) : u = nI d := by
  rw [eu, hn, show (1 : Int32) = nI 1 from rfl]
  have h9 : nI (d + 1) - nI 1 = nI (d + 1 - 1) := pk_sub (a := d + 1) (b := 1) (by omega)
  rw [h9, show d + 1 - 1 = d from by omega]
theorem awy_cn (H : DIST Y ot (DSF Y ot)) (ho : one < 8) (e : n = FND Y ot one) (h : ¬ n = 0) (hk : ¬ k = -1) (eu : u = nI n - 1) (hw : ¬ (0 ≤ k ∧ k ≤ u)) : -1 = AWY Y ot one k := by
  obtain ⟨_, h2, h3⟩ := fnd_nz H ho e h
  rw [pred_ni h2 eu] at hw
  exact awy_n h3 hk hw
theorem awy_cy (H : DIST Y ot (DSF Y ot)) (ho : one < 8) (e : n = FND Y ot one) (h : ¬ n = 0) (hk : ¬ k = -1) (eu : u = nI n - 1) (hw : 0 ≤ k ∧ k ≤ u) (ek : k = nI kj) (hj : kj < n) (hr : (1 ≤ DSF Y ot one ∧ DSF Y ot one ≤ 7) → ∀ j, j ≤ DSF Y ot one → R j = nI (WYF Y (DSF Y ot) one j)) (ev : v = R (Int32.toNatClampNeg (nI kj))) : v = AWY Y ot one k := by
  obtain ⟨h1, h2, h3⟩ := fnd_nz H ho e h
  rw [pred_ni h2 eu] at hw
  refine awy_y h3 hk hw ek (by omega) ?_
  rw [ev, nI_clamp (by omega)]
  exact hr h1 kj (by omega)
theorem awl_n {np nl : Nat} {p0 p1 p2 : Int32} (h : ¬ (((0 ≤ p0 ∧ p0 ≤ nI nl - 1) ∧ (0 ≤ p1 ∧ p1 ≤ nI np - 1)) ∧ (0 ≤ p2 ∧ p2 ≤ nI np - 1))) : -1 = AWL np nl p0 p1 p2 v := (if_neg h).symm
theorem awl_y {np nl lj pj qj : Nat} {p0 p1 p2 : Int32} (h : ((0 ≤ p0 ∧ p0 ≤ nI nl - 1) ∧ (0 ≤ p1 ∧ p1 ≤ nI np - 1)) ∧ (0 ≤ p2 ∧ p2 ≤ nI np - 1)) {F : Nat → Nat → Nat → Int32} (e0 : p0 = nI lj) (e1 : p1 = nI pj) (e2 : p2 = nI qj) (h0 : lj < 2 ^ 31) (h1 : pj < 2 ^ 31) (h2 : qj < 2 ^ 31) (hv : v = F lj qj pj) : v = AWL np nl p0 p1 p2 (F (Int32.toNatClampNeg p0) (Int32.toNatClampNeg p2) (Int32.toNatClampNeg p1)) := by
  unfold AWL
  rw [if_pos h, e0, e1, e2, nI_clamp h0, nI_clamp h1, nI_clamp h2, hv]
theorem awl_e {np nl : Nat} {p0 p1 p2 : Int32} {F : Nat → Int32} (h : ((0 ≤ p0 ∧ p0 ≤ nI nl - 1) ∧ (0 ≤ p1 ∧ p1 ≤ nI np - 1)) ∧ (0 ≤ p2 ∧ p2 ≤ nI np - 1)) (e : p1 = p2) : -1 = AWL np nl p0 p1 p2 (AWY Y (Int32.toNatClampNeg p2) (Int32.toNatClampNeg p1) k) := by
  unfold AWL
  rw [if_pos h]
  exact awy_0 (Or.inl (by rw [e]))
theorem wr_0 {f : Nat → Int32} {F : Nat → Nat} (h : F 0 = one) : ∀ j, j < 1 → upd f (Int32.toNatClampNeg 0) (nI one) j = nI (F j) := fun j hj => by
  obtain rfl : j = 0 := by omega
  rw [show Int32.toNatClampNeg 0 = 0 from by decide, pk_us, h]
end
