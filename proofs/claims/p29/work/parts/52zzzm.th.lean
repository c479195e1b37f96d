/-! on whom to claim -/
def FMB (n : Nat) : Option Nat → Bool
  | none => true
  | some b => decide (NB (nI n) < NB (nI b))
def FMO (E : Nat → Bool) : Nat → Option Nat
  | 0 => none
  | n + 1 => if E n = true ∧ FMB n (FMO E n) = true then some n else FMO E n
def FCO (E : Nat → Bool) (a : Nat) : Nat → Nat
  | 0 => a
  | n + 1 => if NB (nI n) < NB (nI (FCO E a n)) ∧ E n = true then n else FCO E a n
def OPT : Option Nat → Int32
  | none => -1
  | some b => nI b
theorem fmo_lt {E : Nat → Bool} : ∀ n b, FMO E n = some b → b < n
  | 0, b, h => by cases h
  | n + 1, b, h => by
    unfold FMO at h
    split at h
    · cases h; omega
    · have := fmo_lt n b h; omega
theorem nb_a_tab : ∀ n : Fin 9, ∀ s : Fin 256, s.val < 2 ^ n.val - 1 → NB (nI s.val) < NB (nI (2 ^ n.val - 1)) := by decide +kernel
theorem nb_a {n s : Nat} (hn : n ≤ 8) (hs : s < 2 ^ n - 1) : NB (nI s) < NB (nI (2 ^ n - 1)) := by
  have h := ev_lt hn
  exact nb_a_tab ⟨n, by omega⟩ ⟨s, by omega⟩ hs
theorem fmo_step {E : Nat → Bool} {a n : Nat} (hl : NB (nI n) < NB (nI a)) (h : (FMO E n = none ∧ FCO E a n = a) ∨ FMO E n = some (FCO E a n)) : (FMO E (n + 1) = none ∧ FCO E a (n + 1) = a) ∨ FMO E (n + 1) = some (FCO E a (n + 1)) := by
  show (( if E n = true ∧ FMB n (FMO E n) = true then some n else FMO E n) = none ∧ (if NB (nI n) < NB (nI (FCO E a n)) ∧ E n = true then n else FCO E a n) = a) ∨ (if E n = true ∧ FMB n (FMO E n) = true then some n else FMO E n) = some (if NB (nI n) < NB (nI (FCO E a n)) ∧ E n = true then n else FCO E a n)
  rcases h with ⟨h1, h2⟩ | h1
  · rw [h1, h2]
    by_cases c : E n = true
    · right
      rw [if_pos ⟨c, rfl⟩, if_pos ⟨hl, c⟩]
    · left
      rw [if_neg (fun z => c z.1), if_neg (fun z => c z.2)]; exact ⟨rfl, rfl⟩
  · right
    rw [h1]
    by_cases c : E n = true ∧ NB (nI n) < NB (nI (FCO E a n))
    · rw [if_pos ⟨c.1, decide_eq_true c.2⟩, if_pos ⟨c.2, c.1⟩]
    · rw [if_neg (fun z => c ⟨z.1, of_decide_eq_true z.2⟩), if_neg (fun z => c ⟨z.2, z.1⟩)]
theorem fmo_all {E : Nat → Bool} {np : Nat} (hn : np ≤ 8) : ∀ n, n ≤ 2 ^ np - 1 → (FMO E n = none ∧ FCO E (2 ^ np - 1) n = 2 ^ np - 1) ∨ FMO E n = some (FCO E (2 ^ np - 1) n)
  | 0, _ => Or.inl ⟨rfl, rfl⟩
  | n + 1, h => fmo_step (nb_a hn (by omega)) (fmo_all hn n (by omega))
theorem fmo_end {E : Nat → Bool} {np : Nat} (hn : np ≤ 8) (hE : E (2 ^ np - 1) = true) : FMO E (2 ^ np) = some (FCO E (2 ^ np - 1) (2 ^ np)) := by
  have h2 := Nat.two_pow_pos np
  have h := fmo_all (E := E) hn (2 ^ np - 1) (Nat.le_refl _)
  have e : 2 ^ np = 2 ^ np - 1 + 1 := by omega
  generalize 2 ^ np - 1 = a at h hE e ⊢
  rw [e]
  show (if E a = true ∧ FMB a (FMO E a) = true then some a else FMO E a) = some (if NB (nI a) < NB (nI (FCO E a a)) ∧ E a = true then a else FCO E a a)
  rcases h with ⟨h1, h3⟩ | h1
  · rw [h1, h3, if_pos ⟨hE, rfl⟩, if_neg (fun z => Nat.lt_irrefl _ z.1)]
  · rw [h1]
    by_cases c : NB (nI a) < NB (nI (FCO E a a))
    · rw [if_pos ⟨hE, decide_eq_true c⟩, if_pos ⟨c, hE⟩]
    · rw [if_neg (fun z => c (of_decide_eq_true z.2)), if_neg (fun z => c z.1)]
theorem fco_lt {E : Nat → Bool} {a : Nat} : ∀ n, n ≤ a + 1 → FCO E a n ≤ a
  | 0, _ => Nat.le_refl _
  | n + 1, h => by
    have ih := fco_lt (E := E) (a := a) n (by omega)
    show (if NB (nI n) < NB (nI (FCO E a n)) ∧ E n = true then n else FCO E a n) ≤ a
    split
    · omega
    · exact ih
theorem fmo_y {E : Nat → Bool} {h3 : Int32} {i : Nat} (hi : i ≤ 256) (e : h3 = OPT (FMO E i)) (hE : E i = true) (c : h3 = -1 ∨ NB (nI i) < NB h3) : nI i = OPT (FMO E (i + 1)) := by
  have h : E i = true ∧ FMB i (FMO E i) = true := by
    refine ⟨hE, ?_⟩
    cases hb : FMO E i with
    | none => rfl
    | some b =>
      rw [hb] at e
      have hlt := fmo_lt i b hb
      have e2 : h3 = nI b := e
      rcases c with q | q
      · exact absurd (e2.symm.trans q) (ni_m1 (by omega))
      · rw [e2] at q; exact decide_eq_true q
  show nI i = OPT (if E i = true ∧ FMB i (FMO E i) = true then some i else FMO E i)
  rw [if_pos h]; rfl
theorem fmo_1 {E : Nat → Bool} {h3 : Int32} {i : Nat} (e : h3 = OPT (FMO E i)) (hE : ¬ E i = true) : h3 = OPT (FMO E (i + 1)) := by
  show h3 = OPT (if E i = true ∧ FMB i (FMO E i) = true then some i else FMO E i)
  rw [if_neg (fun z => hE z.1)]; exact e
theorem fmo_2 {E : Nat → Bool} {h3 : Int32} {i : Nat} (e : h3 = OPT (FMO E i)) (h1 : ¬ h3 = -1) (h2 : ¬ NB (nI i) < NB h3) : h3 = OPT (FMO E (i + 1)) := by
  show h3 = OPT (if E i = true ∧ FMB i (FMO E i) = true then some i else FMO E i)
  cases hb : FMO E i with
  | none => rw [hb] at e; exact absurd e h1
  | some b =>
    rw [hb] at e
    have e2 : h3 = nI b := e
    rw [if_neg (fun z => h2 (by rw [e2]; exact of_decide_eq_true z.2))]; exact e
theorem fco_y {E : Nat → Bool} {a i h : Nat} (e : h = FCO E a i) (c : NB (nI i) < NB (nI h)) (hE : E i = true) : i = FCO E a (i + 1) := by
  show i = if NB (nI i) < NB (nI (FCO E a i)) ∧ E i = true then i else FCO E a i
  rw [← e, if_pos ⟨c, hE⟩]
theorem fco_n {E : Nat → Bool} {a i h : Nat} (e : h = FCO E a i) (c : ¬ (NB (nI i) < NB (nI h) ∧ E i = true)) : h = FCO E a (i + 1) := by
  show h = if NB (nI i) < NB (nI (FCO E a i)) ∧ E i = true then i else FCO E a i
  rw [← e, if_neg c]
/-- whether these pay enough -/
def ENO (pf : Nat → Nat) (tt s : Nat) : Bool := decide (tt ≤ sm (BGP (nI s) pf) 8)
theorem sm_tail {F : Nat → Nat} {n : Nat} : ∀ m, n ≤ m → (∀ p, n ≤ p → p < m → F p = 0) → sm F m = sm F n
  | 0, h, _ => by
    obtain rfl : n = 0 := by omega
    rfl
  | m + 1, h, H => by
    by_cases c : n = m + 1
    · rw [c]
    · have ih := sm_tail (F := F) m (by omega) (fun p h1 h2 => H p h1 (by omega))
      show sm F m + F m = sm F n
      rw [H m (by omega) (by omega), ih]; rfl
theorem sm_le2 {F G : Nat → Nat} : ∀ {n : Nat}, (∀ k, k < n → F k ≤ G k) → sm F n ≤ sm G n
  | 0, _ => Nat.le_refl _
  | n + 1, h => by
    have ih := sm_le2 (F := F) (G := G) (n := n) (fun k hk => h k (by omega))
    have h2 := h n (by omega)
    show sm F n + F n ≤ sm G n + G n
    omega
section
variable {l np p : Nat} {li wo de su : Nat → Nat} {it ki to : Nat → Int32} {ru th : Int32} {ag lim lam : Nat → Nat}
theorem lone_out (hn : np ≤ 8) (hp : p < 8) (h : np ≤ p) : LONE li wo de su it (nI (2 ^ np - 1)) (LFN li wo de su it ki to ru (nI (2 ^ np - 1)) ag lim lam l) (lim l) (lam l) p = 0 := (lone_n (by rw [bt_all hn hp]; exact fun z => absurd (of_decide_eq_true z) (by omega))).symm
theorem shn_out (hli : ∀ p, p < 8 → li p ≤ 1000000) (hn : np ≤ 8) (hp : p < 8) (h : np ≤ p) : SHN li wo de su it ki to ru (nI (2 ^ np - 1)) ag lim lam l p = 0 := by
  have h1 := shn_lone (wo := wo) (de := de) (su := su) (it := it) (ki := ki) (to := to) (ru := ru) (th := nI (2 ^ np - 1)) (ag := ag) (lim := lim) (lam := lam) (l := l) hli hp
  rw [lone_out hn hp h] at h1
  omega
theorem pft_out (hli : ∀ p, p < 8 → li p ≤ 1000000) (hn : np ≤ 8) (hp : p < 8) (h : np ≤ p) : PFT ki (LONE li wo de su it (nI (2 ^ np - 1)) (LFN li wo de su it ki to ru (nI (2 ^ np - 1)) ag lim lam l) (lim l) (lam l)) (SHN li wo de su it ki to ru (nI (2 ^ np - 1)) ag lim lam l) p = 0 := by
  unfold PFT
  rw [lone_out hn hp h, shn_out hli hn hp h, ite_self]
theorem eno_all (hli : ∀ p, p < 8 → li p ≤ 1000000) (hn : np ≤ 8) : ENO (PFT ki (LONE li wo de su it (nI (2 ^ np - 1)) (LFN li wo de su it ki to ru (nI (2 ^ np - 1)) ag lim lam l) (lim l) (lam l)) (SHN li wo de su it ki to ru (nI (2 ^ np - 1)) ag lim lam l)) (TTN li wo de su it ki to ru (nI (2 ^ np - 1)) ag lim lam l) (2 ^ np - 1) = true := by
  refine decide_eq_true ?_
  have h1 : sm (SHN li wo de su it ki to ru (nI (2 ^ np - 1)) ag lim lam l) 8 = TTN li wo de su it ki to ru (nI (2 ^ np - 1)) ag lim lam l := shl_sum hli _
  rw [← h1]
  refine sm_le2 (fun k hk => ?_)
  unfold BGP
  by_cases c : k < np
  · rw [if_pos (by rw [bt_all hn hk]; exact decide_eq_true c)]
    unfold PFT
    by_cases q : ki k = 0
    · rw [if_pos q]; exact shn_lone hli hk
    · rw [if_neg q]; exact Nat.le_refl _
  · rw [shn_out hli hn hk (by omega)]; exact Nat.zero_le _
theorem ttn_31 (hli : ∀ p, p < 8 → li p ≤ 1000000) : TTN li wo de su it ki to ru (nI (2 ^ np - 1)) ag lim lam l < 2 ^ 31 := by
  have h1 : sm (SHN li wo de su it ki to ru (nI (2 ^ np - 1)) ag lim lam l) 8 = TTN li wo de su it ki to ru (nI (2 ^ np - 1)) ag lim lam l := shl_sum hli _
  rw [← h1]
  exact Nat.lt_of_le_of_lt (sm_bound (f := SHN li wo de su it ki to ru (nI (2 ^ np - 1)) ag lim lam l) (c := 1000000) (n := 8) (fun k hk => Nat.le_trans (shn_lone hli hk) (lone_b (hli k hk)))) (by decide)
end
theorem eno_sum {pf : Nat → Nat} {s n : Nat} {h5 : Int64} (hn : n ≤ 8) (e5 : h5 = lN (sm (BGP (nI s) pf) n)) (ho : ∀ p, n ≤ p → p < 8 → pf p = 0) : h5 = lN (sm (BGP (nI s) pf) 8) := by
  rw [e5, sm_tail (F := BGP (nI s) pf) 8 hn (fun p h1 h2 => by unfold BGP; rw [ho p h1 h2, ite_self])]
theorem eno_iff {pf : Nat → Nat} {z tt s n : Nat} {h5 : Int64} (hz : z = tt) (htt : tt < 2 ^ 31) (hn : n ≤ 8) (e5 : h5 = lN (sm (BGP (nI s) pf) n)) (hb : ∀ k, k < 8 → pf k ≤ 1000000) (ho : ∀ p, n ≤ p → p < 8 → pf p = 0) : Int32.toInt64 (nI z) ≤ h5 ↔ ENO pf tt s = true := by
  have hS : sm (BGP (nI s) pf) 8 < 2 ^ 31 := Nat.lt_of_le_of_lt (sm_bound (f := BGP (nI s) pf) (c := 1000000) (n := 8) (fun k hk => by
    unfold BGP
    by_cases q : bt (nI s) k = true
    · rw [if_pos q]; exact hb k hk
    · rw [if_neg q]; exact Nat.zero_le _)) (by decide)
  subst hz
  rw [eno_sum hn e5 ho, lcv2 htt hS]
  unfold ENO
  exact ⟨fun h => decide_eq_true h, fun h => of_decide_eq_true h⟩
def AFW (np : Nat) (pf : Nat → Nat) (tt : Nat) (p1 : Int32) : Int32 := if p1 = 0 then nI (NB (nI (FCO (ENO pf tt) (2 ^ np - 1) (2 ^ np)))) else nI (FCO (ENO pf tt) (2 ^ np - 1) (2 ^ np))

