/-- what the book's rows hold: limits, values, deductibles, aggregates in their bounds -/
def BKI (B0 B1 B2 B3 : Nat → Int32) (np : Nat) : Prop := ∃ li0 wo0 de0 ag0 : Nat → Nat, nv B0 li0 ∧ (∀ k, k < 8 → li0 k ≤ 1000000) ∧ (∀ k, k < np → 1 ≤ li0 k) ∧ nv B3 wo0 ∧ (∀ k, k < 8 → wo0 k ≤ 9000000) ∧ nv B2 de0 ∧ (∀ k, k < 8 → de0 k ≤ 99999) ∧ nv B1 ag0 ∧ (∀ k, k < 8 → ag0 k ≤ 9000000)
/-- what holds at the law's loop, of both objects -/
def LInv (pn np nl wn lv pm mv tt : Nat) (B0 B1 B2 B3 B6 B8 B10 B11 T6 DR0 G10 G16 G19 G20 G25 G27 : Nat → Int32) : Prop := (np ≤ 8) ∧ (nl ≤ 10) ∧ (wn < 256) ∧ (lv ≤ 8) ∧ (pn < 256) ∧ (pm ≤ 9) ∧ (mv ≤ 8) ∧ (tt ≤ 1000000) ∧ (∀ k, k < 10 → ∃ j : Nat, j < 8 ∧ B10 k = nI j) ∧ (∀ k, k < 8 → ∃ j : Nat, j < 8 ∧ T6 k = nI j) ∧ (BKI B0 B1 B2 B3 np) ∧ (∀ k, k < 64 → ∃ j : Nat, j ≤ 1000001 ∧ G10 k = nI j) ∧ (∀ k, k < 10 → ∃ j : Nat, j < 1000001 ∧ B11 k = nI j) ∧ (LE G19) ∧ (LO G20) ∧ (LW G25) ∧ (SH G27 tt) ∧ (∀ k, k < 64 → G10 k = B8 k + 1) ∧ (∀ k, k < 32 → G16 k = DR0 k + 1) ∧ (∀ k, k < 8 → isw8 (B6 k))
abbrev LWS (cI cJ : ClassId) (x x0 x1 x2 x3 x4 x5 s1 s2 s5 s6 s7 s8 s9 s10 s11 b0 b1 b2 b3 b4 b5 b6 b7 b8 b9 b10 b11 w0 w1 w2 w3 w4 w8 d0 d1 d2 y0 y1 t0 t1 t2 t3 t6 t8 dr0 dr1 g g2 g3 g4 g5 g6 g7 g8 g9 g10 g12 g13 g15 g16 g17 g19 g20 g21 g22 g23 g24 g25 g26 g27 g28 g33 g34 g35 g36 g37 g38 g39 g41 g42 g44 g45 o : Nat) (pn np nl wn lv pm mv tt : Nat) (si4 si12 si13 bi14 wi6 ti4 ti7 gi0 gi18 gi29 gi30 gi40 gi43 : Int32) (X5 S5 S6 S7 S8 S9 S10 S11 B0 B1 B2 B3 B4 B5 B6 B7 B8 B9 B10 B11 W0 W1 W2 W3 W4 W8 D0 D1 Y0 Y1 T0 T1 T2 T3 T6 T8 DR0 DR1 G10 G16 G19 G20 G21 G22 G23 G24 G25 G26 G27 G28 G33 G34 G35 G36 G38 G39 G41 G42 G44 G45 : Nat → Int32) (D2 G37 OO : Nat → Int64) : va_W := [(oX7 x x0 x1 x2 x3 x4 x5), (aIc cI x5 8 X5), (oX4 x1 x0 s1 s2 (nI pn) si4 s5 s6 s7 s8 s9 s10 s11 si12 si13), (aIc cI s5 8 S5), (aIc cI s6 8 S6), (aIc cI s7 8 S7), (aIc cI s8 8 S8), (aIc cI s9 8 S9), (aIc cI s10 8 S10), (aIc cI s11 8 S11), (oX0 x0 b0 b1 b2 b3 b4 b5 b6 b7 b8 b9 b10 b11 (nI np) (nI nl) bi14), (aIc cI b0 8 B0), (aIc cI b1 8 B1), (aIc cI b2 8 B2), (aIc cI b3 8 B3), (aIc cI b4 8 B4), (aIc cI b5 8 B5), (aIc cI b6 8 B6), (aIc cI b7 8 B7), (aIc cI b8 64 B8), (aIc cI b9 8 B9), (aIc cI b10 10 B10), (aIc cI b11 10 B11), (oX6 s1 w0 w1 w2 w3 w4 (nI wn) wi6 (nI lv) w8), (aIc cI w0 8 W0), (aIc cI w1 8 W1), (aIc cI w2 8 W2), (aIc cI w3 8 W3), (aIc cI w4 8 W4), (aIc cI w8 8 W8), (oX2 s2 d0 d1 d2), (aIc cI d0 8 D0), (aIc cI d1 8 D1), (aJc cJ d2 8 D2), (oX5 x2 y0 y1), (aIc cI y0 8 Y0), (aIc cI y1 8 Y1), (oX1 x3 t0 t1 t2 t3 ti4 (nI pm) t6 ti7 t8), (aIc cI t0 8 T0), (aIc cI t1 9 T1), (aIc cI t2 9 T2), (aIc cI t3 9 T3), (aIc cI t6 8 T6), (aIc cI t8 9 T8), (oX3 x4 dr0 dr1), (aIc cI dr0 32 DR0), (aIc cI dr1 32 DR1), (oX8 g gi0 (nI np) g2 g3 g4 g5 g6 g7 g8 g9 g10 (nI nl) g12 g13 bi14 g15 g16 g17 gi18 g19 g20 g21 g22 g23 g24 g25 g26 g27 g28 gi29 gi30 (nI mv) (nI tt) g33 g34 g35 g36 g37 g38 g39 gi40 g41 g42 gi43 g44 g45), (aIc cI g2 8 B0), (aIc cI g3 8 B1), (aIc cI g4 8 B2), (aIc cI g5 8 B3), (aIc cI g6 8 B4), (aIc cI g7 8 B5), (aIc cI g8 8 B6), (aIc cI g9 8 B7), (aIc cI g10 64 G10), (aIc cI g12 10 B10), (aIc cI g13 10 B11), (aIc cI g15 8 B9), (aIc cI g16 32 G16), (aIc cI g17 32 DR1), (aIc cI g19 8 G19), (aIc cI g20 8 G20), (aIc cI g21 8 G21), (aIc cI g22 8 G22), (aIc cI g23 8 G23), (aIc cI g24 8 G24), (aIc cI g25 8 G25), (aIc cI g26 8 G26), (aIc cI g27 8 G27), (aIc cI g28 8 G28), (aIc cI g33 8 G33), (aIc cI g34 8 G34), (aIc cI g35 8 G35), (aIc cI g36 8 G36), (aJc cJ g37 8 G37), (aIc cI g38 8 G38), (aIc cI g39 8 G39), (aIc cI g41 9 G41), (aIc cI g42 192 G42), (aIc cI g44 8 G44), (aIc cI g45 8 G45), (aJc cJ o 1 OO)]
theorem rg_n {x : Int32} {lo hi : Nat} {l h : Int32} (hl : l = nI lo) (hh : h = nI hi) (hlo : lo < 2 ^ 31) (hhi : hi < 2 ^ 31) (hx : l ≤ x ∧ x ≤ h) : ∃ n : Nat, lo ≤ n ∧ n ≤ hi ∧ x = nI n := by
  subst hl hh
  have h1 := Int32.le_iff_toInt_le.mp hx.1
  have h2 := Int32.le_iff_toInt_le.mp hx.2
  rw [nI_toInt hlo] at h1
  rw [nI_toInt hhi] at h2
  obtain ⟨n, hn, rfl⟩ := nI_of (x := x) (fun q => by have := i_lt0.mp q; omega)
  rw [nI_toInt hn] at h1 h2
  exact ⟨n, by omega, by omega, rfl⟩
theorem bki_up {c : Nat → Nat} {M : Nat} (h : ∀ k, k < 8 → c k ≤ M) {p x : Nat} (hx : x ≤ M) : ∀ k, k < 8 → (fun k => if k = p then x else c k) k ≤ M := by
  intro k hk
  by_cases e : k = p
  · simp only [e, if_pos]; exact hx
  · simp only [e, if_neg, if_false]; exact h k hk
theorem bki_pol {B0 B1 B2 B3 : Nat → Int32} {np : Nat} {a1 a2 a3 a4 a5 : Int32} (H : BKI B0 B1 B2 B3 np) (h : ((1 ≤ a1 ∧ a1 ≤ 1000000) ∧ (1 ≤ a2 ∧ a2 ≤ 9000000) ∧ (0 ≤ a3 ∧ a3 ≤ 99999) ∧ (0 ≤ a4 ∧ a4 ≤ 9000000) ∧ 1 ≤ a5 ∧ a5 ≤ 255) ∧ np < 8) : BKI (upd B0 (Int32.toNatClampNeg (nI np)) a1) (upd B1 (Int32.toNatClampNeg (nI np)) a2) (upd B2 (Int32.toNatClampNeg (nI np)) a3) (upd B3 (Int32.toNatClampNeg (nI np)) a4) (np + 1) := by
  obtain ⟨⟨r1, r2, r3, r4, -⟩, hn⟩ := h
  obtain ⟨li0, wo0, de0, ag0, hliv, hlib, hl1, hwov, hwob, hdev, hdeb, hagv, hagb⟩ := H
  obtain ⟨n1, l1, u1, rfl⟩ := rg_n (lo := 1) (hi := 1000000) rfl rfl (by decide) (by decide) r1
  obtain ⟨n2, l2, u2, rfl⟩ := rg_n (lo := 1) (hi := 9000000) rfl rfl (by decide) (by decide) r2
  obtain ⟨n3, l3, u3, rfl⟩ := rg_n (lo := 0) (hi := 99999) rfl rfl (by decide) (by decide) r3
  obtain ⟨n4, l4, u4, rfl⟩ := rg_n (lo := 0) (hi := 9000000) rfl rfl (by decide) (by decide) r4
  refine ⟨_, _, _, _, nv_up hliv hn n1, bki_up hlib u1, fun k hk => ?_, nv_up hwov hn n4, bki_up hwob u4, nv_up hdev hn n3, bki_up hdeb u3, nv_up hagv hn n2, bki_up hagb u2⟩
  by_cases e : k = np
  · rw [if_pos e]; exact l1
  · rw [if_neg e]; exact hl1 k (by omega)
theorem bki_lim {B0 B1 B2 B3 : Nat → Int32} {np : Nat} {a1 a2 : Int32} (hnp : np ≤ 8) (H : BKI B0 B1 B2 B3 np) (h1 : 0 ≤ a1 ∧ a1 ≤ nI np - 1) (h2 : 1 ≤ a2 ∧ a2 ≤ 1000000) : BKI (upd B0 (Int32.toNatClampNeg a1) a2) B1 B2 B3 np := by
  obtain ⟨li0, wo0, de0, ag0, hliv, hlib, hl1, hwov, hwob, hdev, hdeb, hagv, hagb⟩ := H
  obtain ⟨p, hp, rfl⟩ := wi_n (by omega) h1
  obtain ⟨n1, l1, u1, rfl⟩ := rg_n (lo := 1) (hi := 1000000) rfl rfl (by decide) (by decide) h2
  refine ⟨_, _, _, _, nv_up hliv (by omega) n1, bki_up hlib u1, fun k hk => ?_, hwov, hwob, hdev, hdeb, hagv, hagb⟩
  by_cases e : k = p
  · rw [if_pos e]; exact l1
  · rw [if_neg e]; exact hl1 k hk
theorem li_upI {f : Nat → Int32} {m b lo hi : Nat} {ix x l h : Int32} (H : ∀ k, k < m → ∃ j : Nat, j < b ∧ f k = nI j) (hl : l = nI lo) (hh : h = nI hi) (hlo : lo < 2 ^ 31) (hhi : hi < 2 ^ 31) (hx : l ≤ x ∧ x ≤ h) (hb : hi < b) : ∀ k, k < m → ∃ j : Nat, j < b ∧ upd f (Int32.toNatClampNeg ix) x k = nI j := by
  obtain ⟨n, -, h2, rfl⟩ := rg_n hl hh hlo hhi hx
  exact li_up (j := n) H rfl (by omega)
theorem m1_1 {x : Int32} (h : (-1) ≤ x ∧ x ≤ 1000000) : ∃ n : Nat, n ≤ 1000001 ∧ x + 1 = nI n := by
  have h1 := Int32.le_iff_toInt_le.mp h.1
  have h2 := Int32.le_iff_toInt_le.mp h.2
  rw [show Int32.toInt (-1) = -1 from rfl] at h1
  rw [show Int32.toInt 1000000 = 1000000 from rfl] at h2
  have h3 : (x + 1).toInt = x.toInt + 1 := by
    rw [Int32.toInt_add, show Int32.toInt 1 = 1 from rfl]
    exact Int.bmod_eq_of_le (by omega) (by omega)
  obtain ⟨n, hn, e⟩ := nI_of (x := x + 1) (fun q => by have := i_lt0.mp q; omega)
  rw [e, nI_toInt hn] at h3
  exact ⟨n, by omega, e⟩
theorem hsu_up {f : Nat → Int32} {ix x : Int32} (H : ∀ k, k < 64 → ∃ j : Nat, j ≤ 1000001 ∧ f k = nI j) (h : (-1) ≤ x ∧ x ≤ 1000000) : ∀ k, k < 64 → ∃ j : Nat, j ≤ 1000001 ∧ upd f (Int32.toNatClampNeg ix) (x + 1) k = nI j := by
  obtain ⟨n, hn, e⟩ := m1_1 h
  intro k hk
  by_cases q : k = Int32.toNatClampNeg ix
  · subst q; rw [pk_us]; exact ⟨n, hn, e⟩
  · rw [pk_un q]; exact H k hk
theorem rel_up {m : Nat} {f g : Nat → Int32} {a b x : Int32} (H : ∀ k, k < m → f k = g k + 1) : ∀ k, k < m → upd f (Int32.toNatClampNeg ((8 * a) + b)) (x + 1) k = upd g (Int32.toNatClampNeg ((a * 8) + b)) x k + 1 := by
  intro k hk
  rw [Int32.mul_comm 8 a]
  by_cases q : k = Int32.toNatClampNeg ((a * 8) + b)
  · subst q; rw [pk_us, pk_us]
  · rw [pk_un q, pk_un q]; exact H k hk
theorem add1_inj {x y : Int32} : x + 1 = y + 1 ↔ x = y := ⟨fun h => by
  have h2 := congrArg (fun z => z - 1) h
  simpa using h2, fun h => by rw [h]⟩
theorem in_lt {x : Int32} {n : Nat} (h : vp_in x n) : Int32.toNatClampNeg x < n := Nat.not_le.mp fun q => h (Or.inr q)
theorem su_iff {B8 G10 : Nat → Int32} {np : Nat} {a b x : Int32} (hnp : np ≤ 8) (H : ∀ k, k < 64 → G10 k = B8 k + 1) : ((0 ≤ a ∧ a ≤ nI np - 1) ∧ (0 ≤ b ∧ b ≤ 7) ∧ ((-1) ≤ x ∧ x ≤ 1000000) ∧ ¬ B8 (Int32.toNatClampNeg ((a * 8) + b)) = x) ↔ ((0 ≤ a ∧ a ≤ nI np - 1) ∧ (0 ≤ b ∧ b ≤ 7) ∧ ((-1) ≤ x ∧ x ≤ 1000000) ∧ ¬ G10 (Int32.toNatClampNeg ((8 * a) + b)) = (x + 1)) := by
  have key : (0 ≤ a ∧ a ≤ nI np - 1) → (0 ≤ b ∧ b ≤ 7) → (B8 (Int32.toNatClampNeg ((a * 8) + b)) = x ↔ G10 (Int32.toNatClampNeg ((8 * a) + b)) = (x + 1)) := fun h1 h2 => by
    rw [H _ (in_lt (vi_s hnp h1 h2)), Int32.mul_comm 8 a]
    exact add1_inj.symm
  exact ⟨fun h => ⟨h.1, h.2.1, h.2.2.1, fun q => h.2.2.2 ((key h.1 h.2.1).mpr q)⟩, fun h => ⟨h.1, h.2.1, h.2.2.1, fun q => h.2.2.2 ((key h.1 h.2.1).mp q)⟩⟩
theorem fd_iff {DR0 G16 : Nat → Int32} {a b : Int32} (H : ∀ k, k < 32 → G16 k = DR0 k + 1) (h : (0 ≤ a ∧ a ≤ 3) ∧ 0 ≤ b ∧ b ≤ 7) : DR0 (Int32.toNatClampNeg ((a * 8) + b)) = (-1) ↔ G16 (Int32.toNatClampNeg ((8 * a) + b)) = 0 := by
  rw [H _ (in_lt (vi_32m h)), Int32.mul_comm 8 a, ← add1_inj (x := DR0 (Int32.toNatClampNeg (a * 8 + b))) (y := -1)]
  exact Iff.rfl
theorem pickn {f : Nat → Int32} {m : Nat} {P : Nat → Prop} (h : ∀ k, k < m → ∃ j : Nat, P j ∧ f k = nI j) : ∃ c : Nat → Nat, ∀ k, k < m → f k = nI (c k) ∧ P (c k) := by
  refine ⟨fun k => if hk : k < m then Classical.choose (h k hk) else 0, fun k hk => ?_⟩
  show f k = nI (if hk : k < m then Classical.choose (h k hk) else 0) ∧ P (if hk : k < m then Classical.choose (h k hk) else 0)
  rw [dif_pos hk]
  exact ⟨(Classical.choose_spec (h k hk)).2, (Classical.choose_spec (h k hk)).1⟩
theorem every_nI (x : Int32) : ∃ n : Nat, x = nI n := ⟨x.toBitVec.toNat, Int32.toBitVec.inj (show x.toBitVec = BitVec.ofNat 32 x.toBitVec.toNat from by simp)⟩
theorem sub_of {f g : Nat → Int32} {su : Nat → Nat} (h : ∀ k, k < 64 → g k = nI (su k) ∧ su k ≤ 1000001) (hr : ∀ k, k < 64 → g k = f k + 1) : SUB f su := fun k hk => by
  obtain ⟨e, hb⟩ := h k hk
  refine ⟨hb, ?_⟩
  have e2 : f k + 1 = nI (su k) := (hr k hk).symm.trans e
  by_cases c : su k = 0
  · rw [if_pos c]
    rw [c] at e2
    exact add1_inj.mp (e2.trans rfl)
  · rw [if_neg c]
    refine add1_inj.mp (e2.trans ?_)
    rw [nI_1]
    exact congrArg nI (by omega)
theorem to_up {f : Nat → Int32} {ix x : Int32} (H : ∀ k, k < 8 → isw8 (f k)) (h : 0 ≤ x ∧ x ≤ 255) : ∀ k, k < 8 → isw8 (upd f (Int32.toNatClampNeg ix) x k) := fun k hk => by
  by_cases c : k = Int32.toNatClampNeg ix
  · subst c
    rw [pk_us]
    obtain ⟨j, hj, e⟩ := wi_k (k := 0) (c := 255) (by decide) (by decide) h
    exact ⟨j, by omega, e⟩
  · rw [pk_un c]; exact H k hk

