/-! claims made on insurers: the row, who pays first -/
def DG (x : Int64) : Int32 := Int64.toInt32 (x - x / 9 * 9) - 1
def RSQ (row : Int64) : Nat → Int64
  | 0 => row
  | i + 1 => RSQ row i / 9
def MET (row : Int64) : Nat → Int32
  | 0 => 0
  | i + 1 => MET row i ||| ((1 : Int32) <<< (DG (RSQ row i) &&& 31))
def DN (row : Int64) (i : Nat) : Nat := Int32.toNatClampNeg (DG (RSQ row i))
def OKD (np : Nat) (row : Int64) (i : Nat) : Prop := (0 ≤ DG (RSQ row i) ∧ DG (RSQ row i) ≤ nI np - 1) ∧ ¬ bt (MET row i) (DN row i) = true
def RDN (row : Int64) (np n : Nat) : Prop := n ≤ 8 ∧ (∀ i, i < n → 0 < RSQ row i ∧ OKD np row i) ∧ RSQ row n = 0
theorem dn_of {np : Nat} {row : Int64} {i : Nat} (hnp : np ≤ 8) (h : 0 ≤ DG (RSQ row i) ∧ DG (RSQ row i) ≤ nI np - 1) : DG (RSQ row i) = nI (DN row i) ∧ DN row i < np := by
  obtain ⟨j, hj, e⟩ := wi_n (by omega) h
  have e2 : DN row i = j := by
    unfold DN
    rw [e]; exact nI_clamp (by omega)
  rw [e2]; exact ⟨e, hj⟩
theorem fall_s {P : Nat → Prop} {i : Nat} (H : ∀ j, j < i → P j) (h : P i) : ∀ j, j < i + 1 → P j := fun j hj => by
  by_cases c : j = i
  · subst c; exact h
  · exact H j (by omega)
theorem pos_nz {x : Int64} (h : 0 < x) : ¬ x = 0 := fun q => by rw [q] at h; exact absurd h (by decide)
theorem rdn_u {row : Int64} {np n m : Nat} (h : RDN row np n) (h2 : RDN row np m) : n = m := by
  rcases Nat.lt_trichotomy n m with q | q | q
  · exact absurd h.2.2 (pos_nz (h2.2.1 n q).1)
  · exact q
  · exact absurd h2.2.2 (pos_nz (h.2.1 m q).1)
/-- whether the row can be -/
noncomputable def RDB (row : Int64) (np : Nat) : Bool := @decide (∃ n, RDN row np n) (Classical.propDecidable _)
theorem rdb_iff {row : Int64} {np : Nat} : RDB row np = true ↔ ∃ n, RDN row np n := @decide_eq_true_iff _ (Classical.propDecidable _)
noncomputable def RNN (row : Int64) (np : Nat) : Nat := Classical.epsilon (fun n => RDN row np n)
theorem rnn_eq {row : Int64} {np n : Nat} (h : RDN row np n) : RNN row np = n := rdn_u (Classical.epsilon_spec (p := fun n => RDN row np n) ⟨n, h⟩) h
/-- the row falls at a digit -/
theorem rdn_f {row : Int64} {np i : Nat} (hok : ∀ j, j < i → 0 < RSQ row j ∧ OKD np row j) (hp : 0 < RSQ row i) (hno : ¬ OKD np row i) : ¬ ∃ n, RDN row np n := fun ⟨n, h⟩ => by
  rcases Nat.lt_trichotomy n i with q | q | q
  · exact pos_nz (hok n q).1 h.2.2
  · subst q; exact pos_nz hp h.2.2
  · exact hno (h.2.1 i q).2
/-- the row ends, but not at 0 -/
theorem rdn_e {row : Int64} {np i : Nat} (hok : ∀ j, j < i → 0 < RSQ row j ∧ OKD np row j) (he : i = 8 ∨ ¬ 0 < RSQ row i) (hz : ¬ RSQ row i = 0) : ¬ ∃ n, RDN row np n := fun ⟨n, h⟩ => by
  rcases Nat.lt_trichotomy n i with q | q | q
  · exact pos_nz (hok n q).1 h.2.2
  · subst q; exact hz h.2.2
  · rcases he with r | r
    · have := h.1; omega
    · exact r (h.2.1 i q).1
theorem rsq_nn {x : Int64} (h : ¬ x < 0) : ¬ x / 9 < 0 := by
  obtain ⟨k, hk, rfl⟩ := pk_lOf h
  have e : lN k / 9 = lN (k / 9) := pk_lDiv (b := 9) hk (by decide) (by decide)
  rw [e]
  intro q
  have h2 := Int64.lt_iff_toInt_lt.mp q
  rw [pk_lT (by omega), show (0 : Int64).toInt = 0 from rfl] at h2
  omega
theorem rsq_n {row : Int64} (h : ¬ row < 0) : ∀ n, ¬ RSQ row n < 0
  | 0 => h
  | n + 1 => rsq_nn (rsq_n h n)
theorem nb_or {a v w : Int32} {p : Nat} (hp : p < 8) (hb : ¬ bt a p = true) (ev : v = 1 <<< (nI p &&& 31)) (ew : w = a ||| v) : NB w = NB a + 1 := by
  have h := sm_upd (fun k => if bt a k = true then 1 else 0) (b := p) (x := 1) (n := 8) hp
  have h2 : NB w = sm (fun k => if k = p then 1 else (if bt a k = true then 1 else 0)) 8 := by
    unfold NB
    refine sm_cong (fun k hk => ?_)
    rw [bt_or hp hk ev ew]
    by_cases c : k = p
    · rw [if_pos c]; simp [c]
    · rw [if_neg c]; simp [c]
  have h3 : (fun k => if bt a k = true then 1 else 0) p = 0 := if_neg hb
  have h4 : NB a = sm (fun k => if bt a k = true then 1 else 0) 8 := rfl
  rw [h2, h4]
  simp only [h3] at h
  omega
theorem met_nb {row : Int64} {np : Nat} (hnp : np ≤ 8) : ∀ n, (∀ j, j < n → OKD np row j) → NB (MET row n) = n
  | 0, _ => by
    show NB 0 = 0
    decide +kernel
  | n + 1, h => by
    have ih := met_nb hnp n (fun j hj => h j (by omega))
    have h1 := h n (by omega)
    obtain ⟨e, hd⟩ := dn_of hnp h1.1
    have h2 : MET row (n + 1) = MET row n ||| ((1 : Int32) <<< (nI (DN row n) &&& 31)) := by
      show MET row n ||| ((1 : Int32) <<< (DG (RSQ row n) &&& 31)) = _
      rw [e]
    rw [nb_or (by omega) h1.2 rfl h2, ih]
theorem met_8 {row : Int64} {np n : Nat} (hnp : np ≤ 8) (h : ∀ j, j < n → OKD np row j) : n ≤ 8 := by
  have h1 := met_nb hnp n h
  have h2 := nb_8 (MET row n)
  omega
/-- what one pays, if nothing was paid -/
def PFT (ki : Nat → Int32) (lo sh : Nat → Nat) (p : Nat) : Nat := if ki p = 0 then lo p else sh p
def PTT (pf : Nat → Nat) (tt : Nat) (dn : Nat → Nat) : Nat → Nat
  | 0 => 0
  | i + 1 => PTT pf tt dn i + min (pf (dn i)) (tt - PTT pf tt dn i)
def PFF (pf : Nat → Nat) (tt : Nat) (dn : Nat → Nat) : Nat → Nat → Nat
  | 0 => fun _ => 0
  | i + 1 => fun k => if k = dn i then min (pf (dn i)) (tt - PTT pf tt dn i) else PFF pf tt dn i k
theorem ptt_le {pf : Nat → Nat} {tt : Nat} {dn : Nat → Nat} : ∀ i, PTT pf tt dn i ≤ tt
  | 0 => Nat.zero_le _
  | i + 1 => by
    have ih := ptt_le (pf := pf) (tt := tt) (dn := dn) i
    show PTT pf tt dn i + min (pf (dn i)) (tt - PTT pf tt dn i) ≤ tt
    omega
theorem pff_up {A : Nat → Int32} {pf : Nat → Nat} {tt : Nat} {dn : Nat → Nat} {i : Nat} (hd : dn i < 8) (H : ∀ k, k < 8 → A k = nI (PFF pf tt dn i k)) : ∀ k, k < 8 → upd A (Int32.toNatClampNeg (nI (dn i))) (nI (min (pf (dn i)) (tt - PTT pf tt dn i))) k = nI (PFF pf tt dn (i + 1) k) := fun k hk => by
  rw [nI_clamp (by omega)]
  show _ = nI (if k = dn i then min (pf (dn i)) (tt - PTT pf tt dn i) else PFF pf tt dn i k)
  by_cases c : k = dn i
  · rw [if_pos c, c, pk_us]
  · rw [if_neg c, pk_un c]; exact H k hk
theorem pft_b {ki : Nat → Int32} {lo sh : Nat → Nat} {p c : Nat} (h1 : lo p ≤ c) (h2 : sh p ≤ lo p) : PFT ki lo sh p ≤ c := by
  unfold PFT
  by_cases q : ki p = 0
  · rw [if_pos q]; exact h1
  · rw [if_neg q]; omega
noncomputable def ACL (np : Nat) (pf : Nat → Nat) (tt : Nat) (row : Int64) (p2 : Int32) : Int32 := if p2 = -1 then nI (PTT pf tt (DN row) (RNN row np)) else nI (PFF pf tt (DN row) (RNN row np) (Int32.toNatClampNeg p2))
noncomputable def A_cl (np nl : Nat) (li wo de su : Nat → Nat) (it ki to : Nat → Int32) (ru : Int32) (ag lim lam : Nat → Nat) (p0 : Int32) (row : Int64) (p2 : Int32) : Int32 := if (0 ≤ p0 ∧ p0 ≤ nI nl - 1) ∧ (p2 = -1 ∨ (0 ≤ p2 ∧ p2 ≤ nI np - 1)) ∧ RDB row np = true then ACL np (PFT ki (LONE li wo de su it (nI (2 ^ np - 1)) (LFN li wo de su it ki to ru (nI (2 ^ np - 1)) ag lim lam (Int32.toNatClampNeg p0)) (lim (Int32.toNatClampNeg p0)) (lam (Int32.toNatClampNeg p0))) (SHN li wo de su it ki to ru (nI (2 ^ np - 1)) ag lim lam (Int32.toNatClampNeg p0))) (TTN li wo de su it ki to ru (nI (2 ^ np - 1)) ag lim lam (Int32.toNatClampNeg p0)) row p2 else -1
section
variable {np nl lj pj : Nat} {li wo de su : Nat → Nat} {it ki to : Nat → Int32} {ru : Int32} {ag lim lam : Nat → Nat} {p0 p2 v : Int32} {row : Int64} {pf : Nat → Nat} {tt : Nat}
theorem a_cl_y (h : (0 ≤ p0 ∧ p0 ≤ nI nl - 1) ∧ (p2 = -1 ∨ (0 ≤ p2 ∧ p2 ≤ nI np - 1)) ∧ RDB row np = true) (e0 : p0 = nI lj) (hj : lj < 2 ^ 31) (hv : v = ACL np (PFT ki (LONE li wo de su it (nI (2 ^ np - 1)) (LFN li wo de su it ki to ru (nI (2 ^ np - 1)) ag lim lam lj) (lim lj) (lam lj)) (SHN li wo de su it ki to ru (nI (2 ^ np - 1)) ag lim lam lj)) (TTN li wo de su it ki to ru (nI (2 ^ np - 1)) ag lim lam lj) row p2) : v = A_cl np nl li wo de su it ki to ru ag lim lam p0 row p2 := by
  unfold A_cl
  rw [if_pos h, e0, nI_clamp hj, hv]
theorem a_cl_n (h : ¬ ((0 ≤ p0 ∧ p0 ≤ nI nl - 1) ∧ (p2 = -1 ∨ (0 ≤ p2 ∧ p2 ≤ nI np - 1)) ∧ RDB row np = true)) : -1 = A_cl np nl li wo de su it ki to ru ag lim lam p0 row p2 := by
  unfold A_cl
  rw [if_neg h]
theorem acl_1 (h : p2 = -1) (hv : v = nI (PTT pf tt (DN row) (RNN row np))) : v = ACL np pf tt row p2 := by
  unfold ACL; rw [if_pos h, hv]
theorem acl_2 (h : ¬ p2 = -1) (e2 : p2 = nI pj) (hp : pj < 8) (hv : v = nI (PFF pf tt (DN row) (RNN row np) pj)) : v = ACL np pf tt row p2 := by
  unfold ACL; rw [if_neg h, e2, nI_clamp (by omega), hv]
end
/-- the reference's reading, being done -/
def CLI (np : Nat) (row : Int64) (pf : Nat → Nat) (tt : Nat) (A : Nat → Int32) (met : Int32) (rest : Int64) (pa n : Nat) : Prop := rest = RSQ row n ∧ met = MET row n ∧ (∀ j, j < n → 0 < RSQ row j ∧ OKD np row j) ∧ (∀ k, k < 8 → A k = nI (PFF pf tt (DN row) n k)) ∧ pa = PTT pf tt (DN row) n
theorem cli_0 {np : Nat} {row : Int64} {pf : Nat → Nat} {tt : Nat} {A : Nat → Int32} (h : ∀ k, k < 8 → A k = 0) : ∃ n, CLI np row pf tt A 0 row 0 n := ⟨0, rfl, rfl, fun j hj => absurd hj (Nat.not_lt_zero j), h, rfl⟩
theorem cli_s {np : Nat} {row : Int64} {pf : Nat → Nat} {tt : Nat} {A : Nat → Int32} {met met' s : Int32} {rest rest' : Int64} {pa n : Nat} (hnp : np ≤ 8) (H : CLI np row pf tt A met rest pa n) (hp : 0 < rest) (hok : OKD np row n) (er : rest' = rest / 9) (es : s = 1 <<< (nI (DN row n) &&& 31)) (em : met' = met ||| s) : ∃ n2, CLI np row pf tt (upd A (Int32.toNatClampNeg (nI (DN row n))) (nI (min (pf (DN row n)) (tt - PTT pf tt (DN row) n)))) met' rest' (pa + min (pf (DN row n)) (tt - PTT pf tt (DN row) n)) n2 := by
  obtain ⟨h1, h2, h3, h4, h5⟩ := H
  obtain ⟨e, hd⟩ := dn_of hnp hok.1
  refine ⟨n + 1, by rw [er, h1]; rfl, ?_, fun j hj => ?_, pff_up (by omega) h4, by rw [h5]; rfl⟩
  · rw [em, es, h2]
    show _ = MET row n ||| ((1 : Int32) <<< (DG (RSQ row n) &&& 31))
    rw [e]
  · by_cases c : j = n
    · subst c; rw [h1] at hp; exact ⟨hp, hok⟩
    · exact h3 j (by omega)
theorem row_n {row : Int64} {np : Nat} (h : row < 0) : ¬ ∃ n, RDN row np n := fun ⟨n, h2⟩ => by
  rcases Nat.eq_zero_or_pos n with q | q
  · subst q
    have e : row = 0 := h2.2.2
    rw [e] at h; exact absurd h (by decide)
  · have h3 : 0 < row := (h2.2.1 0 q).1
    exact Int64.not_lt.mpr (Int64.le_of_lt h) h3
theorem a_cl_z {np nl : Nat} {li wo de su : Nat → Nat} {it ki to : Nat → Int32} {ru : Int32} {ag lim lam : Nat → Nat} {p0 p2 v : Int32} {row : Int64} (h : (0 ≤ p0 ∧ p0 ≤ nI nl - 1) ∧ (p2 = -1 ∨ (0 ≤ p2 ∧ p2 ≤ nI np - 1)) ∧ RDB row np = true) (hv : v = ACL np (PFT ki (LONE li wo de su it (nI (2 ^ np - 1)) (LFN li wo de su it ki to ru (nI (2 ^ np - 1)) ag lim lam (Int32.toNatClampNeg p0)) (lim (Int32.toNatClampNeg p0)) (lam (Int32.toNatClampNeg p0))) (SHN li wo de su it ki to ru (nI (2 ^ np - 1)) ag lim lam (Int32.toNatClampNeg p0))) (TTN li wo de su it ki to ru (nI (2 ^ np - 1)) ag lim lam (Int32.toNatClampNeg p0)) row p2) : v = A_cl np nl li wo de su it ki to ru ag lim lam p0 row p2 := by
  unfold A_cl
  rw [if_pos h, hv]

