/-! on whom to claim -/
def FMB (n : Nat) : Option Nat → Bool
  | none => true
  | some b => decide (NB (nI n) < NB (nI b))
def FMO (E : Nat → Bool) : Nat → Option Nat
  | 0 => none
  | n + 1 => if E n = true ∧ FMB n (FMO E n) = true then some n else FMO E n
def FCO (E : Nat → Bool) (a : Nat) : Nat → Nat
  | 0 => a
  | n + 1 => if NB (nI n) < NB (nI (FCO E a n)) ∧ E n = true then n else FCO E a n
def OPT : Option Nat → Int32
  | none => -1
  | some b => nI b
theorem fmo_lt {E : Nat → Bool} : ∀ n b, FMO E n = some b → b < n
  | 0, b, h => by cases h
  | n + 1, b, h => by
    unfold FMO at h
    split at h
    · cases h; omega
    · have := fmo_lt n b h; omega
theorem fco_lt {E : Nat → Bool} {a : Nat} : ∀ n, n ≤ a + 1 → FCO E a n ≤ a
  | 0, _ => Nat.le_refl _
  | n + 1, h => by
    have ih := fco_lt (E := E) (a := a) n (by omega)
    show (if NB (nI n) < NB (nI (FCO E a n)) ∧ E n = true then n else FCO E a n) ≤ a
    split
    · omega
    · exact ih
theorem fmo_y {E : Nat → Bool} {h3 : Int32} {i : Nat} (hi : i ≤ 256) (e : h3 = OPT (FMO E i)) (hE : E i = true) (c : h3 = -1 ∨ NB (nI i) < NB h3) : nI i = OPT (FMO E (i + 1)) := by
  have h : E i = true ∧ FMB i (FMO E i) = true := by
    refine ⟨hE, ?_⟩
    cases hb : FMO E i with
    | none => rfl
    | some b =>
      rw [hb] at e
      have hlt := fmo_lt i b hb
      have e2 : h3 = nI b := e
      rcases c with q | q
      · exact absurd (e2.symm.trans q) (ni_m1 (by omega))
      · rw [e2] at q; exact decide_eq_true q
  show nI i = OPT (if E i = true ∧ FMB i (FMO E i) = true then some i else FMO E i)
  rw [if_pos h]; rfl
theorem fmo_1 {E : Nat → Bool} {h3 : Int32} {i : Nat} (e : h3 = OPT (FMO E i)) (hE : ¬ E i = true) : h3 = OPT (FMO E (i + 1)) := by
  show h3 = OPT (if E i = true ∧ FMB i (FMO E i) = true then some i else FMO E i)
  rw [if_neg (fun z => hE z.1)]; exact e
theorem fmo_2 {E : Nat → Bool} {h3 : Int32} {i : Nat} (e : h3 = OPT (FMO E i)) (h1 : ¬ h3 = -1) (h2 : ¬ NB (nI i) < NB h3) : h3 = OPT (FMO E (i + 1)) := by
  show h3 = OPT (if E i = true ∧ FMB i (FMO E i) = true then some i else FMO E i)
  cases hb : FMO E i with
  | none => rw [hb] at e; exact absurd e h1
  | some b =>
    rw [hb] at e
    have e2 : h3 = nI b := e
    rw [if_neg (fun z => h2 (by rw [e2]; exact of_decide_eq_true z.2))]; exact e
theorem fco_y {E : Nat → Bool} {a i h : Nat} (e : h = FCO E a i) (c : NB (nI i) < NB (nI h)) (hE : E i = true) : i = FCO E a (i + 1) := by
  show i = if NB (nI i) < NB (nI (FCO E a i)) ∧ E i = true then i else FCO E a i
  rw [← e, if_pos ⟨c, hE⟩]
theorem fco_n {E : Nat → Bool} {a i h : Nat} (e : h = FCO E a i) (c : ¬ (NB (nI i) < NB (nI h) ∧ E i = true)) : h = FCO E a (i + 1) := by
  show h = if NB (nI i) < NB (nI (FCO E a i)) ∧ E i = true then i else FCO E a i
  rw [← e, if_neg c]
theorem fal_s {P : Nat → Prop} {i : Nat} (H : ∀ j, j < i → P j) (h : P i) : ∀ j, j < i + 1 → P j := fun j hj => by
  by_cases c : j = i
  · rw [c]; exact h
  · exact H j (by omega)
/-! the fewest without whom there is no ring -/
theorem clo_1 {f : Nat → Int32} : ∀ j, j ≤ 8 → ∀ p r, p < 8 → r < 8 → bt (clo f j p) r = true → ∃ q, q < 8 ∧ bt (f p) q = true ∧ (q = r ∨ bt (clo f j q) r = true)
  | 0, _, p, r, _, hr, h => ⟨r, hr, h, Or.inl rfl⟩
  | j + 1, hj, p, r, hp, hr, h => by
    rw [clo_bt hp hr, Bool.or_eq_true, Bool.and_eq_true] at h
    rcases h with h | ⟨h1, h2⟩
    · obtain ⟨q, hq, h3, h4⟩ := clo_1 j (by omega) p r hp hr h
      refine ⟨q, hq, h3, ?_⟩
      rcases h4 with h4 | h4
      · exact Or.inl h4
      · exact Or.inr (by rw [clo_bt hq hr, h4]; rfl)
    · obtain ⟨q, hq, h3, h4⟩ := clo_1 j (by omega) p j hp (by omega) h1
      refine ⟨q, hq, h3, Or.inr ?_⟩
      rw [clo_bt hq hr]
      rcases h4 with h4 | h4
      · rw [h4, h2]; rfl
      · rw [h4, h2, Bool.and_true, Bool.or_true]
def YS (Y : Nat → Int32) (s : Int32) (p : Nat) : Int32 := if bt s p = true then 0 else Y p
theorem ys_y {Y : Nat → Int32} {s : Int32} {p : Nat} (h : bt s p = true) : (0 : Int32) = YS Y s p := (if_pos h).symm
theorem ys_n {Y : Nat → Int32} {s v : Int32} {p : Nat} (h : ¬ bt s p = true) (e : v = Y p) : v = YS Y s p := by unfold YS; rw [if_neg h]; exact e
theorem ys_bt {Y : Nat → Int32} {s : Int32} {p q : Nat} (hq : q < 8) (h : bt (YS Y s p) q = true) : ¬ bt s p = true ∧ bt (Y p) q = true := by
  unfold YS at h
  by_cases c : bt s p = true
  · rw [if_pos c, bt_0 hq] at h; exact absurd h Bool.false_ne_true
  · rw [if_neg c] at h; exact ⟨c, h⟩
def NRG (Y : Nat → Int32) (s : Int32) : Bool := !(anyb (fun p => bt (clo (YS Y s) 8 p) p) 8)
theorem nrg_t {Y : Nat → Int32} {s : Int32} : NRG Y s = true ↔ ∀ p, p < 8 → ¬ bt (clo (YS Y s) 8 p) p = true := by
  unfold NRG
  constructor
  · intro h p hp z
    have h2 : anyb (fun p => bt (clo (YS Y s) 8 p) p) 8 = true := anyb_t.mpr ⟨p, hp, z⟩
    rw [h2] at h; exact absurd h Bool.false_ne_true
  · intro h
    cases c : anyb (fun p => bt (clo (YS Y s) 8 p) p) 8 with
    | false => rfl
    | true =>
      obtain ⟨p, hp, z⟩ := anyb_t.mp c
      exact absurd z (h p hp)
def PLI (Y : Nat → Int32) (s o : Int32) (t i : Nat) : Prop :=
  isw8 o ∧ (∀ p, p < 8 → bt (clo (YS Y s) 8 p) p = true → bt o p = true) ∧ (∀ p, p < 8 → bt o p = true → ¬ bt s p = true) ∧ (NRG Y s = true → ∀ p, p < 8 → bt o p = true → t ≤ rkR (clo (YS Y s) 8) p ∧ (p < i → t + 1 ≤ rkR (clo (YS Y s) 8) p))
section
variable {Y : Nat → Int32} {inn s o : Int32} {t i : Nat}
theorem ys_rk (hn : NRG Y s = true) {p q : Nat} (hp : p < 8) (hq : q < 8) (h : bt (YS Y s p) q = true) : rkR (clo (YS Y s) 8) q < rkR (clo (YS Y s) 8) p := by
  have hT := clo_tr (f := YS Y s) 8 (Nat.le_refl _)
  have h1 := clo_mono (f := YS Y s) hp hq h 8
  exact rk_lt hT hp hq (so_t.mpr ⟨h1, fun z => nrg_t.mp hn p hp (hT q hq p p hp hp h1 z)⟩)
theorem pl_0 {v : Int32} (hi : isw8 inn) (hy : ∀ p, ¬ bt inn p = true → Y p = 0) (ev : v = s ^^^ (-1)) (eo : o = inn &&& v) : PLI Y s o 0 0 := by
  have hb : ∀ p, p < 8 → bt o p = (bt inn p && !(bt s p)) := fun p hp => by rw [eo, ev, bt_andw, bt_notw _ hp]
  refine ⟨by rw [eo]; exact w8_and hi, fun p hp h => ?_, fun p hp h z => ?_, fun _ p _ _ => ⟨Nat.zero_le _, fun z => absurd z (Nat.not_lt_zero p)⟩⟩
  · obtain ⟨q, hq, h1, _⟩ := clo_1 8 (Nat.le_refl _) p p hp hp h
    obtain ⟨h2, h3⟩ := ys_bt hq h1
    rw [hb p hp]
    have h4 : bt inn p = true := Classical.byContradiction fun z => by
      rw [hy p z, bt_0 hq] at h3; exact absurd h3 Bool.false_ne_true
    rw [h4, bf h2]; rfl
  · rw [hb p hp, z] at h
    rw [Bool.not_true, Bool.and_false] at h
    exact absurd h Bool.false_ne_true
theorem pl_keep {a x : Int32} (H : PLI Y s o t i) (hi : i < 8) (ea : a = Y i) (ex : x = a &&& o) (hx : ¬ x = 0) (hw : isw8 (Y i)) : PLI Y s o t (i + 1) := by
  obtain ⟨h1, h2, h3, h4⟩ := H
  refine ⟨h1, h2, h3, fun hn p hp hb => ⟨(h4 hn p hp hb).1, fun hpi => ?_⟩⟩
  by_cases c : p = i
  · subst c
    obtain ⟨q, hq, hz⟩ := w8_ne (by rw [ex, ea]; exact w8_and hw) hx
    rw [ex, ea, bt_andw, Bool.and_eq_true] at hz
    have h5 : bt (YS Y s p) q = true := by unfold YS; rw [if_neg (h3 p hp hb)]; exact hz.1
    have h6 := ys_rk hn hp hq h5
    have h7 := (h4 hn q hq hz.2).1
    omega
  · exact (h4 hn p hp hb).2 (by omega)
theorem pl_cut {a x v n o2 : Int32} (H : PLI Y s o t i) (hi : i < 8) (ea : a = Y i) (ex : x = a &&& o) (hx : x = 0) (ev : v = 1 <<< (nI i &&& 31)) (en : n = v ^^^ (-1)) (eo : o2 = o &&& n) : PLI Y s o2 t (i + 1) := by
  obtain ⟨h1, h2, h3, h4⟩ := H
  have hb : ∀ p, p < 8 → bt o2 p = (bt o p && !(decide (p = i))) := fun p hp => by rw [eo, en, ev, bt_andw, bt_notw _ hp, bt_sh1 hi hp]
  have hb2 : ∀ p, p < 8 → bt o2 p = true → bt o p = true ∧ ¬ p = i := fun p hp h => by
    rw [hb p hp, Bool.and_eq_true] at h
    refine ⟨h.1, fun z => ?_⟩
    rw [decide_eq_true z] at h; exact absurd h.2 Bool.false_ne_true
  refine ⟨by rw [eo]; exact w8_and h1, fun p hp h => ?_, fun p hp h => h3 p hp (hb2 p hp h).1, fun hn p hp h => ?_⟩
  · rw [hb p hp, h2 p hp h]
    have hne : ¬ p = i := fun z => by
      subst z
      obtain ⟨q, hq, h5, h6⟩ := clo_1 8 (Nat.le_refl _) p p hp hp h
      have hT := clo_tr (f := YS Y s) 8 (Nat.le_refl _)
      have h7 := clo_mono (f := YS Y s) hp hq h5 8
      have h8 : bt (clo (YS Y s) 8 q) q = true := by
        rcases h6 with h6 | h6
        · rw [h6]; exact h
        · exact hT p hp q q hq hq h6 h7
      have h9 : bt x q = true := by rw [ex, ea, bt_andw, (ys_bt hq h5).2, h2 q hq h8]; rfl
      rw [hx, bt_0 hq] at h9; exact absurd h9 Bool.false_ne_true
    rw [decide_eq_false hne]; rfl
  · obtain ⟨h5, h6⟩ := hb2 p hp h
    exact ⟨(h4 hn p hp h5).1, fun z => (h4 hn p hp h5).2 (by omega)⟩
theorem pl_turn (H : PLI Y s o t 8) : PLI Y s o (t + 1) 0 := ⟨H.1, H.2.1, H.2.2.1, fun hn p hp h => ⟨(H.2.2.2 hn p hp h).2 hp, fun z => absurd z (Nat.not_lt_zero p)⟩⟩
theorem pl_yes (H : PLI Y s o t i) (h : o = 0) : NRG Y s = true := nrg_t.mpr fun p hp z => by
  have h1 := H.2.1 p hp z
  rw [h, bt_0 hp] at h1; exact absurd h1 Bool.false_ne_true
theorem pl_no (H : PLI Y s o 8 i) (h : ¬ o = 0) : ¬ NRG Y s = true := fun hn => by
  obtain ⟨q, hq, hz⟩ := w8_ne H.1 h
  have h1 := (H.2.2.2 hn q hq hz).1
  have h2 := rk_7 (R := clo (YS Y s) 8) hq
  omega
end
/-! the scan -/
def SBW (inn : Int32) (s : Nat) : Bool := !(anyb (fun q => bt (nI s) q && !(bt inn q)) 8)
theorem sbw_t {inn : Int32} {s : Nat} : SBW inn s = true ↔ ∀ q, q < 8 → bt (nI s) q = true → bt inn q = true := by
  unfold SBW
  constructor
  · intro h q hq z
    refine Classical.byContradiction fun c => ?_
    have h2 : anyb (fun q => bt (nI s) q && !(bt inn q)) 8 = true := anyb_t.mpr ⟨q, hq, by rw [z, bf c]; rfl⟩
    rw [h2] at h; exact absurd h Bool.false_ne_true
  · intro h
    cases c : anyb (fun q => bt (nI s) q && !(bt inn q)) 8 with
    | false => rfl
    | true =>
      obtain ⟨q, hq, z⟩ := anyb_t.mp c
      rw [Bool.and_eq_true] at z
      rw [h q hq z.1] at z
      exact absurd z.2 Bool.false_ne_true
def RGE (Y : Nat → Int32) (inn : Int32) (s : Nat) : Bool := SBW inn s && NRG Y (nI s)
theorem rge_t {Y : Nat → Int32} {inn : Int32} {s : Nat} : RGE Y inn s = true ↔ SBW inn s = true ∧ NRG Y (nI s) = true := by unfold RGE; rw [Bool.and_eq_true]
theorem rge_1 {Y : Nat → Int32} {inn v x : Int32} {s : Nat} (hs : s < 256) (ev : v = inn ^^^ (-1)) (ex : x = nI s &&& v) (hx : ¬ x = 0) : ¬ RGE Y inn s = true := fun h => hx (by rw [ex, ev]; exact (sub_iff ⟨s, hs, rfl⟩).mpr (sbw_t.mp (rge_t.mp h).1))
theorem rge_y {Y : Nat → Int32} {inn v x : Int32} {s : Nat} (hs : s < 256) (ev : v = inn ^^^ (-1)) (ex : x = nI s &&& v) (hx : x = 0) (h : NRG Y (nI s) = true) : RGE Y inn s = true := rge_t.mpr ⟨sbw_t.mpr ((sub_iff ⟨s, hs, rfl⟩).mp (by rw [← ev, ← ex]; exact hx)), h⟩
theorem sm_le3 {F G : Nat → Nat} : ∀ {n : Nat}, (∀ k, k < n → F k ≤ G k) → sm F n ≤ sm G n
  | 0, _ => Nat.le_refl _
  | n + 1, h => by
    have ih := sm_le3 (F := F) (G := G) (n := n) (fun k hk => h k (by omega))
    have h2 := h n (by omega)
    show sm F n + F n ≤ sm G n + G n
    omega
theorem nb_one {a b : Int32} {k : Nat} (h : bt a k = true → bt b k = true) : (if bt a k = true then 1 else 0) ≤ (if bt b k = true then 1 else 0) := by
  by_cases c : bt a k = true
  · rw [if_pos c, if_pos (h c)]; exact Nat.le_refl _
  · rw [if_neg c]; exact Nat.zero_le _
theorem nb_sub {a b : Int32} (h : ∀ q, q < 8 → bt a q = true → bt b q = true) : NB a ≤ NB b := sm_le3 (fun k hk => nb_one (h k hk))
theorem nb_slt {a b : Int32} {j : Nat} (h : ∀ q, q < 8 → bt a q = true → bt b q = true) (hj : j < 8) (h1 : bt b j = true) (h2 : ¬ bt a j = true) : NB a < NB b := sm_lt (fun k hk => nb_one (h k hk)) hj (by rw [if_pos h1, if_neg h2]; decide)
theorem nI_inj2 {a b : Nat} (ha : a < 256) (hb : b < 256) (h : nI a = nI b) : a = b := by
  have h1 := congrArg Int32.toNatClampNeg h
  rw [nI_clamp (by omega), nI_clamp (by omega)] at h1; exact h1
theorem nb_in {a s : Nat} (ha : a < 256) (hs : s < a) (h : ∀ q, q < 8 → bt (nI s) q = true → bt (nI a) q = true) : NB (nI s) < NB (nI a) := by
  by_cases c : ∃ j, j < 8 ∧ bt (nI a) j = true ∧ ¬ bt (nI s) j = true
  · obtain ⟨j, hj, h1, h2⟩ := c
    exact nb_slt h hj h1 h2
  · exfalso
    have e : nI s = nI a := w_ext ⟨s, by omega, rfl⟩ ⟨a, ha, rfl⟩ (fun q hq => by
      cases h1 : bt (nI a) q with
      | true => exact Classical.byContradiction fun z => c ⟨q, hq, h1, z⟩
      | false =>
        refine bf (fun z => ?_)
        rw [h q hq z] at h1; exact absurd h1.symm Bool.false_ne_true)
    have := nI_inj2 (by omega) ha e
    omega
theorem fmp_step {E : Nat → Bool} {a n : Nat} (hl : E n = true → NB (nI n) < NB (nI a)) (h : (FMO E n = none ∧ FCO E a n = a) ∨ FMO E n = some (FCO E a n)) : (FMO E (n + 1) = none ∧ FCO E a (n + 1) = a) ∨ FMO E (n + 1) = some (FCO E a (n + 1)) := by
  show (( if E n = true ∧ FMB n (FMO E n) = true then some n else FMO E n) = none ∧ (if NB (nI n) < NB (nI (FCO E a n)) ∧ E n = true then n else FCO E a n) = a) ∨ (if E n = true ∧ FMB n (FMO E n) = true then some n else FMO E n) = some (if NB (nI n) < NB (nI (FCO E a n)) ∧ E n = true then n else FCO E a n)
  rcases h with ⟨h1, h2⟩ | h1
  · rw [h1, h2]
    by_cases c : E n = true
    · right
      rw [if_pos ⟨c, rfl⟩, if_pos ⟨hl c, c⟩]
    · left
      rw [if_neg (fun z => c z.1), if_neg (fun z => c z.2)]; exact ⟨rfl, rfl⟩
  · right
    rw [h1]
    by_cases c : E n = true ∧ NB (nI n) < NB (nI (FCO E a n))
    · rw [if_pos ⟨c.1, decide_eq_true c.2⟩, if_pos ⟨c.2, c.1⟩]
    · rw [if_neg (fun z => c ⟨z.1, of_decide_eq_true z.2⟩), if_neg (fun z => c ⟨z.2, z.1⟩)]
theorem fmp_all {E : Nat → Bool} {a : Nat} (hl : ∀ n, n < a → E n = true → NB (nI n) < NB (nI a)) : ∀ n, n ≤ a → (FMO E n = none ∧ FCO E a n = a) ∨ FMO E n = some (FCO E a n)
  | 0, _ => Or.inl ⟨rfl, rfl⟩
  | n + 1, h => fmp_step (hl n (by omega)) (fmp_all hl n (by omega))
theorem fmp_end {E : Nat → Bool} {a : Nat} (hl : ∀ n, n < a → E n = true → NB (nI n) < NB (nI a)) (hE : E a = true) : FMO E (a + 1) = some (FCO E a (a + 1)) := by
  have h := fmp_all hl a (Nat.le_refl _)
  show (if E a = true ∧ FMB a (FMO E a) = true then some a else FMO E a) = some (if NB (nI a) < NB (nI (FCO E a a)) ∧ E a = true then a else FCO E a a)
  rcases h with ⟨h1, h3⟩ | h1
  · rw [h1, h3, if_pos ⟨hE, rfl⟩, if_neg (fun z => Nat.lt_irrefl _ z.1)]
  · rw [h1]
    by_cases c : NB (nI a) < NB (nI (FCO E a a))
    · rw [if_pos ⟨hE, decide_eq_true c⟩, if_pos ⟨c, hE⟩]
    · rw [if_neg (fun z => c (of_decide_eq_true z.2)), if_neg (fun z => c z.1)]
def FST (E : Nat → Bool) (N b : Nat) : Prop := b < N ∧ E b = true ∧ ∀ s, s < N → E s = true → NB (nI b) ≤ NB (nI s) ∧ (s < b → NB (nI b) < NB (nI s))
theorem fst_u {E : Nat → Bool} {N b c : Nat} (hb : FST E N b) (hc : FST E N c) : b = c := by
  have h1 := hb.2.2 c hc.1 hc.2.1
  have h2 := hc.2.2 b hb.1 hb.2.1
  by_cases q1 : b < c
  · have := h2.2 q1; omega
  · by_cases q2 : c < b
    · have := h1.2 q2; omega
    · omega
theorem fmo_fst {E : Nat → Bool} : ∀ N, (FMO E N = none ∧ ∀ s, s < N → ¬ E s = true) ∨ ∃ b, FMO E N = some b ∧ FST E N b
  | 0 => Or.inl ⟨rfl, fun s hs => absurd hs (Nat.not_lt_zero s)⟩
  | N + 1 => by
    show ((if E N = true ∧ FMB N (FMO E N) = true then some N else FMO E N) = none ∧ _) ∨ ∃ b, (if E N = true ∧ FMB N (FMO E N) = true then some N else FMO E N) = some b ∧ FST E (N + 1) b
    rcases fmo_fst (E := E) N with ⟨h1, h2⟩ | ⟨b, h1, h2⟩
    · rw [h1]
      by_cases c : E N = true
      · right
        refine ⟨N, if_pos ⟨c, rfl⟩, Nat.lt_succ_self N, c, fun s hs hE => ?_⟩
        by_cases q : s = N
        · subst q; exact ⟨Nat.le_refl _, fun z => absurd z (Nat.lt_irrefl _)⟩
        · exact absurd hE (h2 s (by omega))
      · left
        refine ⟨if_neg (fun z => c z.1), fun s hs => ?_⟩
        by_cases q : s = N
        · subst q; exact c
        · exact h2 s (by omega)
    · right
      rw [h1]
      by_cases c : E N = true ∧ NB (nI N) < NB (nI b)
      · refine ⟨N, if_pos ⟨c.1, decide_eq_true c.2⟩, Nat.lt_succ_self N, c.1, fun s hs hE => ?_⟩
        by_cases q : s = N
        · subst q; exact ⟨Nat.le_refl _, fun z => absurd z (Nat.lt_irrefl _)⟩
        · have h3 := (h2.2.2 s (by omega) hE).1
          exact ⟨by omega, fun _ => by omega⟩
      · refine ⟨b, if_neg (fun z => c ⟨z.1, of_decide_eq_true z.2⟩), by have := h2.1; omega, h2.2.1, fun s hs hE => ?_⟩
        by_cases q : s = N
        · subst q
          have h3 := h2.1
          refine ⟨?_, fun z => by omega⟩
          exact Nat.not_lt.mp (fun z => c ⟨hE, z⟩)
        · exact h2.2.2 s (by omega) hE
theorem nI_and {s a : Nat} (hs : s < 256) (ha : a < 256) : nI (s &&& a) = nI s &&& nI a := w_ext ⟨s &&& a, Nat.lt_of_le_of_lt Nat.and_le_left hs, rfl⟩ (w8_and ⟨s, hs, rfl⟩) (fun q hq => by rw [bt_andw, bt_n hq, bt_n hq, bt_n hq, Nat.testBit_and])
theorem nrg_and {Y : Nat → Int32} {s a : Nat} (hs : s < 256) (ha : a < 256) (hy : ∀ p, ¬ bt (nI a) p = true → Y p = 0) : NRG Y (nI (s &&& a)) = NRG Y (nI s) := by
  have e : YS Y (nI (s &&& a)) = YS Y (nI s) := by
    funext p
    unfold YS
    rw [nI_and hs ha, bt_andw]
    by_cases c : bt (nI s) p = true
    · by_cases d : bt (nI a) p = true
      · rw [c, d]; rfl
      · rw [hy p d, ite_self, ite_self]
    · rw [bf c]; rfl
  unfold NRG
  rw [e]
theorem fst_all {Y : Nat → Int32} {a b : Nat} (ha : a < 256) (hy : ∀ p, ¬ bt (nI a) p = true → Y p = 0) (H : FST (RGE Y (nI a)) (a + 1) b) : FST (fun s => NRG Y (nI s)) 256 b := by
  refine ⟨by have := H.1; omega, (rge_t.mp H.2.1).2, fun s hs hE => ?_⟩
  have h1 : RGE Y (nI a) (s &&& a) = true := rge_t.mpr ⟨sbw_t.mpr (fun q hq h => by rw [nI_and hs ha, bt_andw, Bool.and_eq_true] at h; exact h.2), by rw [nrg_and hs ha hy]; exact hE⟩
  have h2 := H.2.2 (s &&& a) (Nat.lt_succ_of_le Nat.and_le_right) h1
  have h3 : NB (nI (s &&& a)) ≤ NB (nI s) := nb_sub (fun q hq h => by rw [nI_and hs ha, bt_andw, Bool.and_eq_true] at h; exact h.1)
  have h4 : s &&& a ≤ s := Nat.and_le_left
  exact ⟨Nat.le_trans h2.1 h3, fun z => Nat.lt_of_lt_of_le (h2.2 (Nat.lt_of_le_of_lt h4 z)) h3⟩
theorem rge_a {Y : Nat → Int32} {a : Nat} (hy : ∀ p, ¬ bt (nI a) p = true → Y p = 0) : RGE Y (nI a) a = true := rge_t.mpr ⟨sbw_t.mpr (fun _ _ h => h), nrg_t.mpr (fun p hp h => by
  obtain ⟨q, hq, h1, _⟩ := clo_1 8 (Nat.le_refl _) p p hp hp h
  obtain ⟨h2, h3⟩ := ys_bt hq h1
  rw [hy p h2, bt_0 hq] at h3; exact absurd h3 Bool.false_ne_true)⟩
theorem fmo_rg {Y : Nat → Int32} {a : Nat} (ha : a < 256) (hy : ∀ p, ¬ bt (nI a) p = true → Y p = 0) : FMO (fun s => NRG Y (nI s)) 256 = some (FCO (RGE Y (nI a)) a (a + 1)) := by
  have h1 := fmp_end (E := RGE Y (nI a)) (a := a) (fun n hn h => nb_in ha hn (sbw_t.mp (rge_t.mp h).1)) (rge_a hy)
  rcases fmo_fst (E := RGE Y (nI a)) (a + 1) with ⟨h2, _⟩ | ⟨b, h2, h3⟩
  · rw [h1] at h2; cases h2
  · have h4 := fst_all ha hy h3
    rw [h1] at h2
    have e : FCO (RGE Y (nI a)) a (a + 1) = b := Option.some.inj h2
    rw [e]
    rcases fmo_fst (E := fun s => NRG Y (nI s)) 256 with ⟨_, h6⟩ | ⟨c, h5, h6⟩
    · exact absurd h4.2.1 (h6 b h4.1)
    · rw [h5, fst_u h4 h6]
def RLF (Y : Nat → Int32) (inn : Int32) : Nat := FCO (RGE Y inn) (Int32.toNatClampNeg inn) (Int32.toNatClampNeg inn + 1)
theorem rlf_eq {Y : Nat → Int32} {inn : Int32} {a : Nat} (ha : a < 256) (h : nI a = inn) : FCO (RGE Y (nI a)) a (a + 1) = RLF Y inn := by
  subst h
  unfold RLF
  rw [nI_clamp (by omega)]
theorem rlf_lt {Y : Nat → Int32} {inn : Int32} (h : isw8 inn) : RLF Y inn < 256 := by
  obtain ⟨a, ha, e⟩ := h
  rw [← rlf_eq (Y := Y) ha e.symm]
  exact Nat.lt_of_le_of_lt (fco_lt (a + 1) (Nat.le_refl _)) ha
theorem fmo_rlf {Y : Nat → Int32} {inn : Int32} (h : isw8 inn) (hy : ∀ p, ¬ bt inn p = true → Y p = 0) : FMO (fun s => NRG Y (nI s)) 256 = some (RLF Y inn) := by
  obtain ⟨a, ha, e⟩ := h
  rw [← rlf_eq (Y := Y) ha e.symm]
  exact fmo_rg ha (by rw [← e]; exact hy)
def ARL (Y : Nat → Int32) (inn p1 : Int32) : Int32 := if p1 = 0 then nI (NB (nI (RLF Y inn))) else nI (RLF Y inn)

