theorem i_lt0 {x : Int32} : x < 0 ↔ x.toInt < 0 := by
  rw [Int32.lt_iff_toInt_lt]; exact Iff.rfl
theorem i_gt0 {x : Int32} : 0 < x ↔ 0 < x.toInt := by
  rw [Int32.lt_iff_toInt_lt]; exact Iff.rfl
theorem i_neg {x v : Int32} (e : v = -x) (h1 : -1000000 ≤ x.toInt) (h2 : x.toInt ≤ 1000000) : v.toInt = -x.toInt := by
  rw [e, Int32.toInt_neg]
  exact Int.bmod_eq_of_le (by omega) (by omega)
theorem i_add {x y v : Int32} (e : v = x + y) (h1 : -1000000 ≤ x.toInt) (h2 : x.toInt ≤ 1000000) (h3 : -1000000 ≤ y.toInt) (h4 : y.toInt ≤ 1000000) : v.toInt = x.toInt + y.toInt := by
  rw [e, Int32.toInt_add]
  exact Int.bmod_eq_of_le (by omega) (by omega)
theorem i_sub {a b : Nat} {v : Int32} (e : v = nI a - nI b) (ha : a ≤ 1000000) (hb : b ≤ 1000000) : v.toInt = (a : Int) - b := by
  rw [e]; exact pk_sub_toInt (by omega) (by omega)
theorem ng_nI {x v : Int32} (e : v = -x) (h1 : x.toInt < 0) (h2 : -1000000 ≤ x.toInt) : ∃ n : Nat, (n : Int) = -x.toInt ∧ n ≤ 1000000 ∧ v = nI n := by
  have hv := i_neg e h2 (by omega)
  obtain ⟨n, hn, rfl⟩ := nI_of (x := v) (fun q => by have := i_lt0.mp q; omega)
  rw [nI_toInt hn] at hv
  exact ⟨n, hv, by omega, rfl⟩
theorem ps_nI {x : Int32} (h1 : 0 < x.toInt) (h2 : x.toInt ≤ 1000000) : ∃ n : Nat, (n : Int) = x.toInt ∧ n ≤ 1000000 ∧ x = nI n := by
  obtain ⟨n, hn, rfl⟩ := nI_of (x := x) (fun q => by have := i_lt0.mp q; omega)
  rw [nI_toInt hn] at h2 ⊢
  exact ⟨n, rfl, by omega, rfl⟩
def smz (f : Nat → Int32) : Nat → Int
  | 0 => 0
  | n + 1 => smz f n + (f n).toInt
theorem smz_cong {f g : Nat → Int32} : ∀ {n : Nat}, (∀ k, k < n → f k = g k) → smz f n = smz g n
  | 0, _ => rfl
  | n + 1, h => by
    show smz f n + (f n).toInt = smz g n + (g n).toInt
    rw [smz_cong (fun k hk => h k (by omega)), h n (by omega)]
theorem smz_upd (f : Nat → Int32) {b : Nat} {x : Int32} : ∀ {n : Nat}, b < n → smz (upd f b x) n + (f b).toInt = smz f n + x.toInt
  | 0, h => absurd h (Nat.not_lt_zero b)
  | n + 1, h => by
    show smz (upd f b x) n + (upd f b x n).toInt + (f b).toInt = smz f n + (f n).toInt + x.toInt
    by_cases e : n = b
    · subst e
      rw [pk_us, smz_cong (g := f) (fun k hk => pk_un (by omega))]
      omega
    · have := smz_upd f (b := b) (x := x) (n := n) (by omega)
      rw [pk_un e]
      omega
theorem smz_out (f : Nat → Int32) {b n : Nat} {x : Int32} (h : n ≤ b) : smz (upd f b x) n = smz f n := smz_cong (fun k hk => pk_un (by omega))
theorem smz_neg {f : Nat → Int32} {p : Nat} : ∀ {n : Nat}, (∀ k, k < n → (f k).toInt ≤ 0) → (p < n → smz f n ≤ (f p).toInt) ∧ smz f n ≤ 0
  | 0, _ => ⟨fun h => absurd h (Nat.not_lt_zero p), Int.le_refl _⟩
  | n + 1, h => by
    have ih := smz_neg (f := f) (p := p) (n := n) (fun k hk => h k (by omega))
    have hn := h n (by omega)
    have e : smz f (n + 1) = smz f n + (f n).toInt := rfl
    refine ⟨fun hp => ?_, by omega⟩
    rcases Nat.lt_or_ge p n with q | q
    · have := ih.1 q
      omega
    · obtain rfl : p = n := (by omega)
      omega
/-- how many aren't 0 -/
def nz (f : Nat → Int32) (n : Nat) : Nat := sm (fun k => if (f k).toInt = 0 then 0 else 1) n
theorem nz_upd (f : Nat → Int32) {b n : Nat} {x : Int32} (h : b < n) : nz (upd f b x) n + (if (f b).toInt = 0 then 0 else 1) = nz f n + (if x.toInt = 0 then 0 else 1) := by
  have h1 := sm_upd (fun k => if (f k).toInt = 0 then 0 else 1) (b := b) (x := if x.toInt = 0 then 0 else 1) (n := n) h
  have e : nz (upd f b x) n = sm (fun k => if k = b then (if x.toInt = 0 then 0 else 1) else if (f k).toInt = 0 then 0 else 1) n := sm_cong (fun k hk => by
    by_cases q : k = b
    · subst q; rw [pk_us, if_pos rfl]
    · rw [pk_un q, if_neg q])
  rw [e]
  exact h1
def RB (f : Nat → Int32) (mm : Nat) : Prop := (∀ k, k < 9 → -1000000 ≤ (f k).toInt ∧ (f k).toInt ≤ 1000000) ∧ smz f 8 = (f 8).toInt ∧ (f 8).toInt ≤ 0 ∧ nz f 9 + mm ≤ 9
theorem rb_sum {f : Nat → Int32} {pd sh : Nat → Nat} : ∀ {n : Nat}, (∀ k, k < n → (f k).toInt = (pd k : Int) - sh k) → smz f n = (sm pd n : Int) - sm sh n
  | 0, _ => rfl
  | n + 1, h => by
    have ih := rb_sum (n := n) (fun k hk => h k (by omega))
    have h1 := h n (by omega)
    show smz f n + (f n).toInt = ((sm pd n + pd n : Nat) : Int) - ((sm sh n + sh n : Nat) : Int)
    omega
theorem rb_0 {f : Nat → Int32} {pd sh : Nat → Nat} {pa tt : Nat} {x : Int32} (h : ∀ k, k < 8 → (f k).toInt = (pd k : Int) - sh k) (hp : sm pd 8 = pa) (hs : sm sh 8 = tt) (hle : pa ≤ tt) (ht : tt ≤ 1000000) (hx : x.toInt = (pa : Int) - tt) : RB (upd f (Int32.toNatClampNeg 8) x) 0 := by
  have e8 : Int32.toNatClampNeg 8 = 8 := rfl
  rw [e8]
  have h0 := rb_sum h
  refine ⟨fun k hk => ?_, ?_, by rw [pk_us]; omega, ?_⟩
  · by_cases e : k = 8
    · subst e; rw [pk_us]; omega
    · rw [pk_un e]
      have h1 := h k (by omega)
      have h2 := sm_get pd (k := k) (n := 8) (by omega)
      have h3 := sm_get sh (k := k) (n := 8) (by omega)
      omega
  · rw [smz_out f (Nat.le_refl 8), pk_us]; omega
  · have := sm_bound (f := fun k => if (upd f 8 x k).toInt = 0 then 0 else 1) (c := 1) (n := 9) (fun k _ => by
      by_cases q : (upd f 8 x k).toInt = 0
      · rw [if_pos q]; exact Nat.zero_le _
      · rw [if_neg q]; exact Nat.le_refl _)
    exact this
theorem rb_pos {f : Nat → Int32} {mm p : Nat} (H : RB f mm) (hp : p < 8) (hn : (f p).toInt < 0) (h8 : ¬ (f 8).toInt < 0) : ∃ q : Nat, 0 ≤ q ∧ q < 8 ∧ 0 < (f q).toInt := by
  obtain ⟨h1, h2, h3, h4⟩ := H
  apply Classical.byContradiction
  intro hc
  have ha : ∀ k, k < 8 → (f k).toInt ≤ 0 := fun k hk => by
    rcases Int.lt_or_le 0 (f k).toInt with q | q
    · exact absurd ⟨k, Nat.zero_le _, hk, q⟩ hc
    · exact q
  have := (smz_neg (p := p) ha).1 hp
  omega
theorem rb_nx {f : Nat → Int32} {n : Nat} {v : Int32} (hn : n < 9) (ev : v = f (Int32.toNatClampNeg (nI n))) (hc : ¬ 0 < v) (h : ∃ q : Nat, n ≤ q ∧ q < 8 ∧ 0 < (f q).toInt) : ∃ q : Nat, n + 1 ≤ q ∧ q < 8 ∧ 0 < (f q).toInt := by
  rw [nI_clamp (by omega)] at ev
  obtain ⟨q, h1, h2, h3⟩ := h
  refine ⟨q, ?_, h2, h3⟩
  rcases Nat.lt_or_ge n q with z | z
  · omega
  · obtain rfl : q = n := (by omega)
    exact absurd (i_gt0.mpr (by rw [ev]; exact h3)) hc
theorem rb_s8 {f : Nat → Int32} {mm p na nb : Nat} {x y : Int32} (H : RB f mm) (hp : p < 8) (hn : (f p).toInt < 0) (h8 : (f 8).toInt < 0) (ea : (na : Int) = -(f p).toInt) (eb : (nb : Int) = -(f 8).toInt) (hx : x.toInt = (f 8).toInt + (min na nb : Nat)) (hy : y.toInt = (f p).toInt + (min na nb : Nat)) : RB (upd (upd f (Int32.toNatClampNeg 8) x) (Int32.toNatClampNeg (nI p)) y) (mm + 1) := by
  have e8 : Int32.toNatClampNeg 8 = 8 := rfl
  rw [e8, nI_clamp (by omega)]
  obtain ⟨h1, h2, h3, h4⟩ := H
  have b8 := h1 8 (by decide)
  have bp := h1 p (by omega)
  have hp8 : p ≠ 8 := (by omega)
  have s1 := smz_upd (upd f 8 x) (b := p) (x := y) (n := 8) hp
  rw [pk_un hp8, smz_out f (Nat.le_refl 8)] at s1
  have n1 := nz_upd (upd f 8 x) (b := p) (x := y) (n := 9) (by omega)
  have n2 := nz_upd f (b := 8) (x := x) (n := 9) (by decide)
  rw [pk_un hp8] at n1
  rw [if_neg (show ¬ (f p).toInt = 0 from by omega)] at n1
  rw [if_neg (show ¬ (f 8).toInt = 0 from by omega)] at n2
  refine ⟨fun k hk => ?_, ?_, ?_, ?_⟩
  · by_cases e : k = p
    · subst e; rw [pk_us]; omega
    · rw [pk_un e]
      by_cases e2 : k = 8
      · subst e2; rw [pk_us]; omega
      · rw [pk_un e2]; exact h1 k hk
  · rw [pk_un (fun z => hp8 z.symm), pk_us]; omega
  · rw [pk_un (fun z => hp8 z.symm), pk_us]; omega
  · rcases Nat.le_total na nb with q | q
    · rw [Nat.min_eq_left q] at hx hy
      rw [if_pos (show y.toInt = 0 from by omega)] at n1
      split at n2 <;> omega
    · rw [Nat.min_eq_right q] at hx hy
      rw [if_pos (show x.toInt = 0 from by omega)] at n2
      split at n1 <;> omega
theorem rb_sw {f : Nat → Int32} {mm p w na nb : Nat} {x y : Int32} (H : RB f mm) (hp : p < 8) (hn : (f p).toInt < 0) (hw : w < 8) (h8 : 0 < (f w).toInt) (ea : (na : Int) = -(f p).toInt) (eb : (nb : Int) = (f w).toInt) (hx : x.toInt = (f w).toInt - (min na nb : Nat)) (hy : y.toInt = (f p).toInt + (min na nb : Nat)) : RB (upd (upd f (Int32.toNatClampNeg (nI w)) x) (Int32.toNatClampNeg (nI p)) y) (mm + 1) := by
  rw [nI_clamp (by omega), nI_clamp (by omega)]
  obtain ⟨h1, h2, h3, h4⟩ := H
  have bw := h1 w (by omega)
  have bp := h1 p (by omega)
  have hpw : p ≠ w := fun z => by rw [z] at hn; omega
  have s1 := smz_upd (upd f w x) (b := p) (x := y) (n := 8) hp
  have s2 := smz_upd f (b := w) (x := x) (n := 8) hw
  rw [pk_un hpw] at s1
  have n1 := nz_upd (upd f w x) (b := p) (x := y) (n := 9) (by omega)
  have n2 := nz_upd f (b := w) (x := x) (n := 9) (by omega)
  rw [pk_un hpw] at n1
  rw [if_neg (show ¬ (f p).toInt = 0 from by omega)] at n1
  rw [if_neg (show ¬ (f w).toInt = 0 from by omega)] at n2
  refine ⟨fun k hk => ?_, ?_, ?_, ?_⟩
  · by_cases e : k = p
    · subst e; rw [pk_us]; omega
    · rw [pk_un e]
      by_cases e2 : k = w
      · subst e2; rw [pk_us]; omega
      · rw [pk_un e2]; exact h1 k hk
  · rw [pk_un (show 8 ≠ p from by omega), pk_un (show 8 ≠ w from by omega)]; omega
  · rw [pk_un (show 8 ≠ p from by omega), pk_un (show 8 ≠ w from by omega)]; omega
  · rcases Nat.le_total na nb with q | q
    · rw [Nat.min_eq_left q] at hx hy
      rw [if_pos (show y.toInt = 0 from by omega)] at n1
      split at n2 <;> omega
    · rw [Nat.min_eq_right q] at hx hy
      rw [if_pos (show x.toInt = 0 from by omega)] at n2
      split at n1 <;> omega
theorem fb_lt {f : Nat → Int32} {i : Nat} {v : Int32} (hi : i < 9) (ev : v = f (Int32.toNatClampNeg (nI i))) (c : v < 0) : (f i).toInt < 0 := by
  rw [nI_clamp (by omega)] at ev
  rw [← ev]; exact i_lt0.mp c
theorem rb_at {f : Nat → Int32} {i : Nat} {v : Int32} (hi : i < 9) (ev : v = f (Int32.toNatClampNeg (nI i))) : v.toInt = (f i).toInt := by
  rw [nI_clamp (by omega)] at ev
  rw [ev]
theorem bi_up {f : Nat → Int32} {pd sh : Nat → Nat} {i : Nat} {v : Int32} (hi : i < 8) (hv : v.toInt = (pd i : Int) - sh i) (h : ∀ k, k < i → (f k).toInt = (pd k : Int) - sh k) : ∀ k, k < i + 1 → (upd f (Int32.toNatClampNeg (nI i)) v k).toInt = (pd k : Int) - sh k := by
  intro k hk
  rw [nI_clamp (by omega)]
  by_cases e : k = i
  · subst e; rw [pk_us]; exact hv
  · rw [pk_un e]; exact h k (by omega)
theorem dX8_firstBelow_0 : decode cX8_firstBelow 0 = .ok (.iconst 0, 1) := by decide +kernel
theorem dX8_firstBelow_1 : decode cX8_firstBelow 1 = .ok (.istore_n 1, 1) := by decide +kernel
theorem dX8_firstBelow_2 : decode cX8_firstBelow 2 = .ok (.iload_n 1, 1) := by decide +kernel
theorem dX8_firstBelow_3 : decode cX8_firstBelow 3 = .ok (.bipush 8, 2) := by decide +kernel
theorem dX8_firstBelow_5 : decode cX8_firstBelow 5 = .ok (.if_icmp .ge 18, 3) := by decide +kernel
theorem dX8_firstBelow_8 : decode cX8_firstBelow 8 = .ok (.aload_n 0, 1) := by decide +kernel
theorem dX8_firstBelow_9 : decode cX8_firstBelow 9 = .ok (.getfield 104, 3) := by decide +kernel
theorem dX8_firstBelow_12 : decode cX8_firstBelow 12 = .ok (.iload_n 1, 1) := by decide +kernel
theorem dX8_firstBelow_13 : decode cX8_firstBelow 13 = .ok (.iaload, 1) := by decide +kernel
theorem dX8_firstBelow_14 : decode cX8_firstBelow 14 = .ok (.ifCond .lt 9, 3) := by decide +kernel
theorem dX8_firstBelow_17 : decode cX8_firstBelow 17 = .ok (.iinc 1 1, 3) := by decide +kernel
theorem dX8_firstBelow_20 : decode cX8_firstBelow 20 = .ok (.goto (-18), 3) := by decide +kernel
theorem dX8_firstBelow_23 : decode cX8_firstBelow 23 = .ok (.iload_n 1, 1) := by decide +kernel
theorem dX8_firstBelow_24 : decode cX8_firstBelow 24 = .ok (.ireturn, 1) := by decide +kernel
set_option maxHeartbeats 4000000 in
set_option maxRecDepth 100000 in
theorem m_X8_firstBelow (l : Launch) (D : va_G) (cI cJ : ClassId) (sz : Nat) (g g2 g3 g4 g5 g6 g7 g8 g9 g10 g12 g13 g15 g16 g17 g19 g20 g21 g22 g23 g24 g25 g26 g27 g28 g33 g34 g35 g36 g37 g38 g39 g41 g42 g44 g45 mn ml mv : Nat) (gi0 gi14 gi18 gi29 gi30 gi32 gi40 gi43 : Int32) (G41 : Nat → Int32) : Met l yX8_firstBelow wtX8_firstBelow { frames := 0, cells := 0, slots := 0, locals := 0 } (cPc D cI cJ [.ref g] sz [(oX8 g gi0 (nI mn) g2 g3 g4 g5 g6 g7 g8 g9 g10 (nI ml) g12 g13 gi14 g15 g16 g17 gi18 g19 g20 g21 g22 g23 g24 g25 g26 g27 g28 gi29 gi30 (nI mv) gi32 g33 g34 g35 g36 g37 g38 g39 gi40 g41 g42 gi43 g44 g45), (aIc cI g41 9 G41)]) (cQi D (fun r u => ∃ (q0 : Nat), (q0 = 8 ∨ (G41 q0).toInt < 0) ∧ (q0 ≤ 8) ∧ r = (nI q0) ∧ u = [(oX8 g gi0 (nI mn) g2 g3 g4 g5 g6 g7 g8 g9 g10 (nI ml) g12 g13 gi14 g15 g16 g17 gi18 g19 g20 g21 g22 g23 g24 g25 g26 g27 g28 gi29 gi30 (nI mv) gi32 g33 g34 g35 g36 g37 g38 g39 gi40 g41 g42 gi43 g44 g45), (aIc cI g41 9 G41)]) (va_A [(oX8 g gi0 (nI mn) g2 g3 g4 g5 g6 g7 g8 g9 g10 (nI ml) g12 g13 gi14 g15 g16 g17 gi18 g19 g20 g21 g22 g23 g24 g25 g26 g27 g28 gi29 gi30 (nI mv) gi32 g33 g34 g35 g36 g37 g38 g39 gi40 g41 g42 gi43 g44 g45), (aIc cI g41 9 G41)] sz)) 0 0 (va_A [(oX8 g gi0 (nI mn) g2 g3 g4 g5 g6 g7 g8 g9 g10 (nI ml) g12 g13 gi14 g15 g16 g17 gi18 g19 g20 g21 g22 g23 g24 g25 g26 g27 g28 gi29 gi30 (nI mv) gi32 g33 g34 g35 g36 g37 g38 g39 gi40 g41 g42 gi43 g44 g45), (aIc cI g41 9 G41)] sz) := by
  refine k_ofW (Qc := cQi D (fun r u => ∃ (q0 : Nat), (q0 = 8 ∨ (G41 q0).toInt < 0) ∧ (q0 ≤ 8) ∧ r = (nI q0) ∧ u = [(oX8 g gi0 (nI mn) g2 g3 g4 g5 g6 g7 g8 g9 g10 (nI ml) g12 g13 gi14 g15 g16 g17 gi18 g19 g20 g21 g22 g23 g24 g25 g26 g27 g28 gi29 gi30 (nI mv) gi32 g33 g34 g35 g36 g37 g38 g39 gi40 g41 g42 gi43 g44 g45), (aIc cI g41 9 G41)])) (by decide) rfl (Nat.le_of_ble_eq_true rfl) ?_
  intro p e s m below meth c A ls hx hb hr hml hts hown hlk hnm hsz hE hP hD hS hA hl
  have hown : s.vm.findClass RX8 = some m.cls := hown
  have hiX8 : ∀ w ∈ u_ws RX8 TX8 46, w ∈ wtX8_firstBelow := fun w h => List.mem_cons_of_mem _ (iuX8 w h)
  have hl : lv_has ls 2 [(0, .ref g)] := hl
  refine lv_iconst (v := 0) hx hb dX8_firstBelow_0 (by decide) ?_
  refine lv_istore_n (lv' := [(1, .int 0), (0, .ref g)]) hx hb dX8_firstBelow_1 rfl hl (by decide) rfl (fun ls hl => ?_)
  have J2 : ∀ (zz : Nat) (i2 : Nat), (i2 ≤ 8) → (8 - i2) < zz → ∀ (H : Heap) (locs : List Loc) (ls : Array Slot), va_P D vwCl [(oX8 g gi0 (nI mn) g2 g3 g4 g5 g6 g7 g8 g9 g10 (nI ml) g12 g13 gi14 g15 g16 g17 gi18 g19 g20 g21 g22 g23 g24 g25 g26 g27 g28 gi29 gi30 (nI mv) gi32 g33 g34 g35 g36 g37 g38 g39 gi40 g41 g42 gi43 g44 g45), (aIc cI g41 9 G41)] H → va_D A [(oX8 g gi0 (nI mn) g2 g3 g4 g5 g6 g7 g8 g9 g10 (nI ml) g12 g13 gi14 g15 g16 g17 gi18 g19 g20 g21 g22 g23 g24 g25 g26 g27 g28 gi29 gi30 (nI mv) gi32 g33 g34 g35 g36 g37 g38 g39 gi40 g41 g42 gi43 g44 g45), (aIc cI g41 9 G41)] → va_S A s.heap H locs → lv_has ls 2 [(1, .int (nI i2)), (0, .ref g)] → W p l e { frames := 0, cells := 0, slots := 0, locals := 0 } s m [.ref g].toArray below meth c H locs 0 0 (MQ below (cQi D (fun r u => ∃ (q0 : Nat), (q0 = 8 ∨ (G41 q0).toInt < 0) ∧ (q0 ≤ 8) ∧ r = (nI q0) ∧ u = [(oX8 g gi0 (nI mn) g2 g3 g4 g5 g6 g7 g8 g9 g10 (nI ml) g12 g13 gi14 g15 g16 g17 gi18 g19 g20 g21 g22 g23 g24 g25 g26 g27 g28 gi29 gi30 (nI mv) gi32 g33 g34 g35 g36 g37 g38 g39 gi40 g41 g42 gi43 g44 g45), (aIc cI g41 9 G41)]) A) [.ref g].toArray s 0 0 A) (F0 m 2 ls []) := by
    intro zz
    induction zz with
    | zero => intro i2 _; exact fun h => absurd h (Nat.not_lt_zero _)
    | succ zz ih2 =>
      intro i2 hc1_2 hmu2 H locs ls hP hD hS hl
      refine lv_iload_n hx hb dX8_firstBelow_2 rfl (lv_at hl 0 rfl) ?_
      refine lv_bipush (v := 8) hx hb dX8_firstBelow_3 (by decide) ?_
      refine lv_icmp_ge (tgt := 23) hx hb dX8_firstBelow_5 (by decide) (fun c1 => ?_) (fun c1 => ?_)
      · skip
        have nc1 : 8 ≤ i2 := (nI_leI (a := 8) (b := i2) (by omega) (by omega)).mp c1
        refine lv_iload_n hx hb dX8_firstBelow_23 rfl (lv_at hl 0 rfl) ?_
        refine k_iret (u := [(oX8 g gi0 (nI mn) g2 g3 g4 g5 g6 g7 g8 g9 g10 (nI ml) g12 g13 gi14 g15 g16 g17 gi18 g19 g20 g21 g22 g23 g24 g25 g26 g27 g28 gi29 gi30 (nI mv) gi32 g33 g34 g35 g36 g37 g38 g39 gi40 g41 g42 gi43 g44 g45), (aIc cI g41 9 G41)]) hx hb hr hlk hP hD hS dX8_firstBelow_24 ?_
        exact ⟨i2, (Or.inl (by omega)), (by omega), rfl, rfl⟩
      · skip
        have nc1 : ¬ 8 ≤ i2 := fun q9 => c1 ((nI_leI (a := 8) (b := i2) (by omega) (by omega)).mpr q9)
        refine lv_aload_n hx hb dX8_firstBelow_8 rfl (lv_at hl 1 rfl) ?_
        refine va_get (D := D) (ci := 8) (v := .ref g41) (C := RX8) (T := TX8) (N := 46) hx hb hts hiX8 hown hE.1 hP 0 rfl rfl 41 (by decide) (hts _ (List.mem_cons_of_mem _ wd_147)) (fun _ h9 => h9) rfl dX8_firstBelow_9 ?_
        refine lv_iload_n hx hb dX8_firstBelow_12 rfl (lv_at hl 0 rfl) ?_
        refine va_iald hx hb hE.1 hP 1 0 rfl rfl (vp_in_nI (n := i2) (by omega) (by decide)) dX8_firstBelow_13 ?_
        refine lv_topi (fun v2 ev2 => ?_)
        refine lv_if_lt (tgt := 23) hx hb dX8_firstBelow_14 (by decide) (fun c3 => ?_) (fun c3 => ?_)
        · skip
          refine lv_iload_n hx hb dX8_firstBelow_23 rfl (lv_at hl 0 rfl) ?_
          refine k_iret (u := [(oX8 g gi0 (nI mn) g2 g3 g4 g5 g6 g7 g8 g9 g10 (nI ml) g12 g13 gi14 g15 g16 g17 gi18 g19 g20 g21 g22 g23 g24 g25 g26 g27 g28 gi29 gi30 (nI mv) gi32 g33 g34 g35 g36 g37 g38 g39 gi40 g41 g42 gi43 g44 g45), (aIc cI g41 9 G41)]) hx hb hr hlk hP hD hS dX8_firstBelow_24 ?_
          exact ⟨i2, (Or.inr (fb_lt (by omega) ev2 c3)), (by omega), rfl, rfl⟩
        · skip
          refine lv_iinc (v := (nI (i2 + 1))) (lv' := [(1, .int (nI (i2 + 1))), (0, .ref g)]) hx hb dX8_firstBelow_17 hl (k := 0) rfl (nI_1 _) (by decide) rfl (fun ls hl => ?_)
          refine lv_goto (tgt := 2) hx hb dX8_firstBelow_20 (by decide) ?_
          exact ih2 (i2 + 1) (by omega) (by omega) _ _ _ hP hD hS (lv_sub hl [0, 1] rfl)
  exact J2 _ 0 (by omega) (Nat.lt_succ_self _) _ _ _ hP hD hS (lv_sub hl [0, 1] rfl)
theorem dX8_recovers_0 : decode cX8_recovers 0 = .ok (.aload_n 0, 1) := by decide +kernel
theorem dX8_recovers_1 : decode cX8_recovers 1 = .ok (.iconst 0, 1) := by decide +kernel
theorem dX8_recovers_2 : decode cX8_recovers 2 = .ok (.putfield 291, 3) := by decide +kernel
theorem dX8_recovers_5 : decode cX8_recovers 5 = .ok (.iconst 0, 1) := by decide +kernel
theorem dX8_recovers_6 : decode cX8_recovers 6 = .ok (.istore_n 1, 1) := by decide +kernel
theorem dX8_recovers_7 : decode cX8_recovers 7 = .ok (.iload_n 1, 1) := by decide +kernel
theorem dX8_recovers_8 : decode cX8_recovers 8 = .ok (.bipush 8, 2) := by decide +kernel
theorem dX8_recovers_10 : decode cX8_recovers 10 = .ok (.if_icmp .ge 28, 3) := by decide +kernel
theorem dX8_recovers_13 : decode cX8_recovers 13 = .ok (.aload_n 0, 1) := by decide +kernel
theorem dX8_recovers_14 : decode cX8_recovers 14 = .ok (.getfield 104, 3) := by decide +kernel
theorem dX8_recovers_17 : decode cX8_recovers 17 = .ok (.iload_n 1, 1) := by decide +kernel
theorem dX8_recovers_18 : decode cX8_recovers 18 = .ok (.aload_n 0, 1) := by decide +kernel
theorem dX8_recovers_19 : decode cX8_recovers 19 = .ok (.getfield 101, 3) := by decide +kernel
theorem dX8_recovers_22 : decode cX8_recovers 22 = .ok (.iload_n 1, 1) := by decide +kernel
theorem dX8_recovers_23 : decode cX8_recovers 23 = .ok (.iaload, 1) := by decide +kernel
theorem dX8_recovers_24 : decode cX8_recovers 24 = .ok (.aload_n 0, 1) := by decide +kernel
theorem dX8_recovers_25 : decode cX8_recovers 25 = .ok (.getfield 76, 3) := by decide +kernel
theorem dX8_recovers_28 : decode cX8_recovers 28 = .ok (.iload_n 1, 1) := by decide +kernel
theorem dX8_recovers_29 : decode cX8_recovers 29 = .ok (.iaload, 1) := by decide +kernel
theorem dX8_recovers_30 : decode cX8_recovers 30 = .ok (.isub, 1) := by decide +kernel
theorem dX8_recovers_31 : decode cX8_recovers 31 = .ok (.iastore, 1) := by decide +kernel
theorem dX8_recovers_32 : decode cX8_recovers 32 = .ok (.iinc 1 1, 3) := by decide +kernel
theorem dX8_recovers_35 : decode cX8_recovers 35 = .ok (.goto (-28), 3) := by decide +kernel
theorem dX8_recovers_38 : decode cX8_recovers 38 = .ok (.aload_n 0, 1) := by decide +kernel
theorem dX8_recovers_39 : decode cX8_recovers 39 = .ok (.getfield 104, 3) := by decide +kernel
theorem dX8_recovers_42 : decode cX8_recovers 42 = .ok (.bipush 8, 2) := by decide +kernel
theorem dX8_recovers_44 : decode cX8_recovers 44 = .ok (.aload_n 0, 1) := by decide +kernel
theorem dX8_recovers_45 : decode cX8_recovers 45 = .ok (.getfield 282, 3) := by decide +kernel
theorem dX8_recovers_48 : decode cX8_recovers 48 = .ok (.aload_n 0, 1) := by decide +kernel
theorem dX8_recovers_49 : decode cX8_recovers 49 = .ok (.getfield 198, 3) := by decide +kernel
theorem dX8_recovers_52 : decode cX8_recovers 52 = .ok (.isub, 1) := by decide +kernel
theorem dX8_recovers_53 : decode cX8_recovers 53 = .ok (.iastore, 1) := by decide +kernel
theorem dX8_recovers_54 : decode cX8_recovers 54 = .ok (.aload_n 0, 1) := by decide +kernel
theorem dX8_recovers_55 : decode cX8_recovers 55 = .ok (.invokevirtual 294, 3) := by decide +kernel
theorem dX8_recovers_58 : decode cX8_recovers 58 = .ok (.istore_n 1, 1) := by decide +kernel
theorem dX8_recovers_59 : decode cX8_recovers 59 = .ok (.iload_n 1, 1) := by decide +kernel
theorem dX8_recovers_60 : decode cX8_recovers 60 = .ok (.bipush 8, 2) := by decide +kernel
theorem dX8_recovers_62 : decode cX8_recovers 62 = .ok (.if_icmp .ge 158, 3) := by decide +kernel
theorem dX8_recovers_65 : decode cX8_recovers 65 = .ok (.bipush 8, 2) := by decide +kernel
theorem dX8_recovers_67 : decode cX8_recovers 67 = .ok (.istore_n 2, 1) := by decide +kernel
theorem dX8_recovers_68 : decode cX8_recovers 68 = .ok (.aload_n 0, 1) := by decide +kernel
theorem dX8_recovers_69 : decode cX8_recovers 69 = .ok (.getfield 104, 3) := by decide +kernel
theorem dX8_recovers_72 : decode cX8_recovers 72 = .ok (.bipush 8, 2) := by decide +kernel
theorem dX8_recovers_74 : decode cX8_recovers 74 = .ok (.iaload, 1) := by decide +kernel
theorem dX8_recovers_75 : decode cX8_recovers 75 = .ok (.ifCond .lt 20, 3) := by decide +kernel
theorem dX8_recovers_78 : decode cX8_recovers 78 = .ok (.iconst 0, 1) := by decide +kernel
theorem dX8_recovers_79 : decode cX8_recovers 79 = .ok (.istore_n 2, 1) := by decide +kernel
theorem dX8_recovers_80 : decode cX8_recovers 80 = .ok (.aload_n 0, 1) := by decide +kernel
theorem dX8_recovers_81 : decode cX8_recovers 81 = .ok (.getfield 104, 3) := by decide +kernel
theorem dX8_recovers_84 : decode cX8_recovers 84 = .ok (.iload_n 2, 1) := by decide +kernel
theorem dX8_recovers_85 : decode cX8_recovers 85 = .ok (.iaload, 1) := by decide +kernel
theorem dX8_recovers_86 : decode cX8_recovers 86 = .ok (.ifCond .gt 9, 3) := by decide +kernel
theorem dX8_recovers_89 : decode cX8_recovers 89 = .ok (.iinc 2 1, 3) := by decide +kernel
theorem dX8_recovers_92 : decode cX8_recovers 92 = .ok (.goto (-12), 3) := by decide +kernel
theorem dX8_recovers_95 : decode cX8_recovers 95 = .ok (.aload_n 0, 1) := by decide +kernel
theorem dX8_recovers_96 : decode cX8_recovers 96 = .ok (.getfield 104, 3) := by decide +kernel
theorem dX8_recovers_99 : decode cX8_recovers 99 = .ok (.iload_n 1, 1) := by decide +kernel
theorem dX8_recovers_100 : decode cX8_recovers 100 = .ok (.iaload, 1) := by decide +kernel
theorem dX8_recovers_101 : decode cX8_recovers 101 = .ok (.ineg, 1) := by decide +kernel
theorem dX8_recovers_102 : decode cX8_recovers 102 = .ok (.aload_n 0, 1) := by decide +kernel
theorem dX8_recovers_103 : decode cX8_recovers 103 = .ok (.getfield 104, 3) := by decide +kernel
theorem dX8_recovers_106 : decode cX8_recovers 106 = .ok (.iload_n 2, 1) := by decide +kernel
theorem dX8_recovers_107 : decode cX8_recovers 107 = .ok (.iaload, 1) := by decide +kernel
theorem dX8_recovers_108 : decode cX8_recovers 108 = .ok (.ifCond .ge 13, 3) := by decide +kernel
theorem dX8_recovers_111 : decode cX8_recovers 111 = .ok (.aload_n 0, 1) := by decide +kernel
theorem dX8_recovers_112 : decode cX8_recovers 112 = .ok (.getfield 104, 3) := by decide +kernel
theorem dX8_recovers_115 : decode cX8_recovers 115 = .ok (.iload_n 2, 1) := by decide +kernel
theorem dX8_recovers_116 : decode cX8_recovers 116 = .ok (.iaload, 1) := by decide +kernel
theorem dX8_recovers_117 : decode cX8_recovers 117 = .ok (.ineg, 1) := by decide +kernel
theorem dX8_recovers_118 : decode cX8_recovers 118 = .ok (.goto 9, 3) := by decide +kernel
theorem dX8_recovers_121 : decode cX8_recovers 121 = .ok (.aload_n 0, 1) := by decide +kernel
theorem dX8_recovers_122 : decode cX8_recovers 122 = .ok (.getfield 104, 3) := by decide +kernel
theorem dX8_recovers_125 : decode cX8_recovers 125 = .ok (.iload_n 2, 1) := by decide +kernel
theorem dX8_recovers_126 : decode cX8_recovers 126 = .ok (.iaload, 1) := by decide +kernel
theorem dX8_recovers_127 : decode cX8_recovers 127 = .ok (.invokestatic 158, 3) := by decide +kernel
theorem dX8_recovers_130 : decode cX8_recovers 130 = .ok (.istore_n 3, 1) := by decide +kernel
theorem dX8_recovers_131 : decode cX8_recovers 131 = .ok (.aload_n 0, 1) := by decide +kernel
theorem dX8_recovers_132 : decode cX8_recovers 132 = .ok (.getfield 104, 3) := by decide +kernel
theorem dX8_recovers_135 : decode cX8_recovers 135 = .ok (.iload_n 2, 1) := by decide +kernel
theorem dX8_recovers_136 : decode cX8_recovers 136 = .ok (.dup2, 1) := by decide +kernel
theorem dX8_recovers_137 : decode cX8_recovers 137 = .ok (.iaload, 1) := by decide +kernel
theorem dX8_recovers_138 : decode cX8_recovers 138 = .ok (.iload_n 2, 1) := by decide +kernel
theorem dX8_recovers_139 : decode cX8_recovers 139 = .ok (.bipush 8, 2) := by decide +kernel
theorem dX8_recovers_141 : decode cX8_recovers 141 = .ok (.if_icmp .ne 7, 3) := by decide +kernel
theorem dX8_recovers_144 : decode cX8_recovers 144 = .ok (.iload_n 3, 1) := by decide +kernel
theorem dX8_recovers_145 : decode cX8_recovers 145 = .ok (.goto 5, 3) := by decide +kernel
theorem dX8_recovers_148 : decode cX8_recovers 148 = .ok (.iload_n 3, 1) := by decide +kernel
theorem dX8_recovers_149 : decode cX8_recovers 149 = .ok (.ineg, 1) := by decide +kernel
theorem dX8_recovers_150 : decode cX8_recovers 150 = .ok (.iadd, 1) := by decide +kernel
theorem dX8_recovers_151 : decode cX8_recovers 151 = .ok (.iastore, 1) := by decide +kernel
theorem dX8_recovers_152 : decode cX8_recovers 152 = .ok (.aload_n 0, 1) := by decide +kernel
theorem dX8_recovers_153 : decode cX8_recovers 153 = .ok (.getfield 104, 3) := by decide +kernel
theorem dX8_recovers_156 : decode cX8_recovers 156 = .ok (.iload_n 1, 1) := by decide +kernel
theorem dX8_recovers_157 : decode cX8_recovers 157 = .ok (.dup2, 1) := by decide +kernel
theorem dX8_recovers_158 : decode cX8_recovers 158 = .ok (.iaload, 1) := by decide +kernel
theorem dX8_recovers_159 : decode cX8_recovers 159 = .ok (.iload_n 3, 1) := by decide +kernel
theorem dX8_recovers_160 : decode cX8_recovers 160 = .ok (.iadd, 1) := by decide +kernel
theorem dX8_recovers_161 : decode cX8_recovers 161 = .ok (.iastore, 1) := by decide +kernel
theorem dX8_recovers_162 : decode cX8_recovers 162 = .ok (.aload_n 0, 1) := by decide +kernel
theorem dX8_recovers_163 : decode cX8_recovers 163 = .ok (.getfield 107, 3) := by decide +kernel
theorem dX8_recovers_166 : decode cX8_recovers 166 = .ok (.iconst 3, 1) := by decide +kernel
theorem dX8_recovers_167 : decode cX8_recovers 167 = .ok (.aload_n 0, 1) := by decide +kernel
theorem dX8_recovers_168 : decode cX8_recovers 168 = .ok (.getfield 291, 3) := by decide +kernel
theorem dX8_recovers_171 : decode cX8_recovers 171 = .ok (.imul, 1) := by decide +kernel
theorem dX8_recovers_172 : decode cX8_recovers 172 = .ok (.iload_n 1, 1) := by decide +kernel
theorem dX8_recovers_173 : decode cX8_recovers 173 = .ok (.iastore, 1) := by decide +kernel
theorem dX8_recovers_174 : decode cX8_recovers 174 = .ok (.aload_n 0, 1) := by decide +kernel
theorem dX8_recovers_175 : decode cX8_recovers 175 = .ok (.getfield 107, 3) := by decide +kernel
theorem dX8_recovers_178 : decode cX8_recovers 178 = .ok (.iconst 3, 1) := by decide +kernel
theorem dX8_recovers_179 : decode cX8_recovers 179 = .ok (.aload_n 0, 1) := by decide +kernel
theorem dX8_recovers_180 : decode cX8_recovers 180 = .ok (.getfield 291, 3) := by decide +kernel
theorem dX8_recovers_183 : decode cX8_recovers 183 = .ok (.imul, 1) := by decide +kernel
theorem dX8_recovers_184 : decode cX8_recovers 184 = .ok (.iconst 1, 1) := by decide +kernel
theorem dX8_recovers_185 : decode cX8_recovers 185 = .ok (.iadd, 1) := by decide +kernel
theorem dX8_recovers_186 : decode cX8_recovers 186 = .ok (.iload_n 2, 1) := by decide +kernel
theorem dX8_recovers_187 : decode cX8_recovers 187 = .ok (.iastore, 1) := by decide +kernel
theorem dX8_recovers_188 : decode cX8_recovers 188 = .ok (.aload_n 0, 1) := by decide +kernel
theorem dX8_recovers_189 : decode cX8_recovers 189 = .ok (.getfield 107, 3) := by decide +kernel
theorem dX8_recovers_192 : decode cX8_recovers 192 = .ok (.iconst 3, 1) := by decide +kernel
theorem dX8_recovers_193 : decode cX8_recovers 193 = .ok (.aload_n 0, 1) := by decide +kernel
theorem dX8_recovers_194 : decode cX8_recovers 194 = .ok (.getfield 291, 3) := by decide +kernel
theorem dX8_recovers_197 : decode cX8_recovers 197 = .ok (.imul, 1) := by decide +kernel
theorem dX8_recovers_198 : decode cX8_recovers 198 = .ok (.iconst 2, 1) := by decide +kernel
theorem dX8_recovers_199 : decode cX8_recovers 199 = .ok (.iadd, 1) := by decide +kernel
theorem dX8_recovers_200 : decode cX8_recovers 200 = .ok (.iload_n 3, 1) := by decide +kernel
theorem dX8_recovers_201 : decode cX8_recovers 201 = .ok (.iastore, 1) := by decide +kernel
theorem dX8_recovers_202 : decode cX8_recovers 202 = .ok (.aload_n 0, 1) := by decide +kernel
theorem dX8_recovers_203 : decode cX8_recovers 203 = .ok (.dup, 1) := by decide +kernel
theorem dX8_recovers_204 : decode cX8_recovers 204 = .ok (.getfield 291, 3) := by decide +kernel
theorem dX8_recovers_207 : decode cX8_recovers 207 = .ok (.iconst 1, 1) := by decide +kernel
theorem dX8_recovers_208 : decode cX8_recovers 208 = .ok (.iadd, 1) := by decide +kernel
theorem dX8_recovers_209 : decode cX8_recovers 209 = .ok (.putfield 291, 3) := by decide +kernel
theorem dX8_recovers_212 : decode cX8_recovers 212 = .ok (.aload_n 0, 1) := by decide +kernel
theorem dX8_recovers_213 : decode cX8_recovers 213 = .ok (.invokevirtual 294, 3) := by decide +kernel
theorem dX8_recovers_216 : decode cX8_recovers 216 = .ok (.istore_n 1, 1) := by decide +kernel
theorem dX8_recovers_217 : decode cX8_recovers 217 = .ok (.goto (-158), 3) := by decide +kernel
theorem dX8_recovers_220 : decode cX8_recovers 220 = .ok (.return_, 1) := by decide +kernel
theorem gX8_recovers_X8_firstBelow : GoodIn wtX8_recovers (wsV RX8 294 RX8 yX8_firstBelow wtX8_firstBelow) := tb_good (tb_v0 wd_795 wd_796 wd_797 wd_5 wd_798)
theorem gX8_recovers_X8_least : GoodIn wtX8_recovers (va_wsS RX8 158 yX8_least wtX8_least) := tb_good (tb_s0 wd_430 wd_431 wd_5 wd_432)
set_option maxHeartbeats 4000000 in
set_option maxRecDepth 100000 in
theorem m_X8_recovers (l : Launch) (D : va_G) (cI cJ : ClassId) (sz : Nat) (g g2 g3 g4 g5 g6 g7 g8 g9 g10 g12 g13 g15 g16 g17 g19 g20 g21 g22 g23 g24 g25 g26 g27 g28 g33 g34 g35 g36 g37 g38 g39 g41 g42 g44 g45 mn ml mv tt pa : Nat) (gi0 gi14 gi18 gi29 gi30 gi43 : Int32) (G27 G39 G41 G42 : Nat → Int32) (hPD : ∃ pd : Nat → Nat, nv G39 pd ∧ sm pd 8 = pa ∧ pa ≤ tt) (hSH : SH G27 tt) (htt : tt ≤ 1000000) : Met l yX8_recovers wtX8_recovers { frames := 1, cells := 0, slots := 0, locals := 21 } (cPc D cI cJ [.ref g] sz [(oX8 g gi0 (nI mn) g2 g3 g4 g5 g6 g7 g8 g9 g10 (nI ml) g12 g13 gi14 g15 g16 g17 gi18 g19 g20 g21 g22 g23 g24 g25 g26 g27 g28 gi29 gi30 (nI mv) (nI tt) g33 g34 g35 g36 g37 g38 g39 (nI pa) g41 g42 gi43 g44 g45), (aIc cI g27 8 G27), (aIc cI g39 8 G39), (aIc cI g41 9 G41), (aIc cI g42 192 G42)]) (cQv D (fun u => ∃ (G41p G42p : Nat → Int32) (mmp : Nat), (mmp ≤ 9) ∧ u = [(oX8 g gi0 (nI mn) g2 g3 g4 g5 g6 g7 g8 g9 g10 (nI ml) g12 g13 gi14 g15 g16 g17 gi18 g19 g20 g21 g22 g23 g24 g25 g26 g27 g28 gi29 gi30 (nI mv) (nI tt) g33 g34 g35 g36 g37 g38 g39 (nI pa) g41 g42 (nI mmp) g44 g45), (aIc cI g27 8 G27), (aIc cI g39 8 G39), (aIc cI g41 9 G41p), (aIc cI g42 192 G42p)]) (va_A [(oX8 g gi0 (nI mn) g2 g3 g4 g5 g6 g7 g8 g9 g10 (nI ml) g12 g13 gi14 g15 g16 g17 gi18 g19 g20 g21 g22 g23 g24 g25 g26 g27 g28 gi29 gi30 (nI mv) (nI tt) g33 g34 g35 g36 g37 g38 g39 (nI pa) g41 g42 gi43 g44 g45), (aIc cI g27 8 G27), (aIc cI g39 8 G39), (aIc cI g41 9 G41), (aIc cI g42 192 G42)] sz)) 0 0 (va_A [(oX8 g gi0 (nI mn) g2 g3 g4 g5 g6 g7 g8 g9 g10 (nI ml) g12 g13 gi14 g15 g16 g17 gi18 g19 g20 g21 g22 g23 g24 g25 g26 g27 g28 gi29 gi30 (nI mv) (nI tt) g33 g34 g35 g36 g37 g38 g39 (nI pa) g41 g42 gi43 g44 g45), (aIc cI g27 8 G27), (aIc cI g39 8 G39), (aIc cI g41 9 G41), (aIc cI g42 192 G42)] sz) := by
  refine k_ofW (Qc := cQv D (fun u => ∃ (G41p G42p : Nat → Int32) (mmp : Nat), (mmp ≤ 9) ∧ u = [(oX8 g gi0 (nI mn) g2 g3 g4 g5 g6 g7 g8 g9 g10 (nI ml) g12 g13 gi14 g15 g16 g17 gi18 g19 g20 g21 g22 g23 g24 g25 g26 g27 g28 gi29 gi30 (nI mv) (nI tt) g33 g34 g35 g36 g37 g38 g39 (nI pa) g41 g42 (nI mmp) g44 g45), (aIc cI g27 8 G27), (aIc cI g39 8 G39), (aIc cI g41 9 G41p), (aIc cI g42 192 G42p)])) (by decide) rfl (Nat.le_of_ble_eq_true rfl) ?_
  intro p e s m below meth c A ls hx hb hr hml hts hown hlk hnm hsz hE hP hD hS hA hl
  have hown : s.vm.findClass RX8 = some m.cls := hown
  have hiX8 : ∀ w ∈ u_ws RX8 TX8 46, w ∈ wtX8_recovers := fun w h => List.mem_cons_of_mem _ (iuX8 w h)
  have hl : lv_has ls 4 [(0, .ref g)] := hl
  obtain ⟨pd, hpd, hpds, hpat⟩ := hPD
  obtain ⟨sh, hsh, hshs⟩ := hSH
  refine lv_aload_n hx hb dX8_recovers_0 rfl (lv_at hl 0 rfl) ?_
  refine lv_iconst (v := 0) hx hb dX8_recovers_1 (by decide) ?_
  refine va_put (D := D) (ci := 8) (v := .int 0) (ty := .int) (C := RX8) (T := TX8) (N := 46) hx hb hts hiX8 tyX8 tyX8_ok nmX8 hown hE.1 hP hD hS 0 rfl rfl 43 (by decide) (hts _ (List.mem_cons_of_mem _ wd_789)) (fun _ h9 => h9) rfl (by decide +kernel) rfl rfl (Nat.le_of_ble_eq_true rfl) dX8_recovers_2 (fun H locs hP hD hS => ?_)
  refine k_re (w := [(oX8 g gi0 (nI mn) g2 g3 g4 g5 g6 g7 g8 g9 g10 (nI ml) g12 g13 gi14 g15 g16 g17 gi18 g19 g20 g21 g22 g23 g24 g25 g26 g27 g28 gi29 gi30 (nI mv) (nI tt) g33 g34 g35 g36 g37 g38 g39 (nI pa) g41 g42 0 g44 g45), (aIc cI g27 8 G27), (aIc cI g39 8 G39), (aIc cI g41 9 G41), (aIc cI g42 192 G42)]) hP hD (fun hP hD => ?_)
  refine lv_iconst (v := 0) hx hb dX8_recovers_5 (by decide) ?_
  refine lv_istore_n (lv' := [(1, .int 0), (0, .ref g)]) hx hb dX8_recovers_6 rfl hl (by decide) rfl (fun ls hl => ?_)
  have J7 : ∀ (zz : Nat) (i7 : Nat) (a_g41_7 : Nat → Int32), (i7 ≤ 8) → (∀ k, k < i7 → (a_g41_7 k).toInt = (pd k : Int) - sh k) → (8 - i7) < zz → ∀ (H : Heap) (locs : List Loc) (ls : Array Slot), va_P D vwCl [(oX8 g gi0 (nI mn) g2 g3 g4 g5 g6 g7 g8 g9 g10 (nI ml) g12 g13 gi14 g15 g16 g17 gi18 g19 g20 g21 g22 g23 g24 g25 g26 g27 g28 gi29 gi30 (nI mv) (nI tt) g33 g34 g35 g36 g37 g38 g39 (nI pa) g41 g42 0 g44 g45), (aIc cI g27 8 G27), (aIc cI g39 8 G39), (aIc cI g41 9 a_g41_7), (aIc cI g42 192 G42)] H → va_D A [(oX8 g gi0 (nI mn) g2 g3 g4 g5 g6 g7 g8 g9 g10 (nI ml) g12 g13 gi14 g15 g16 g17 gi18 g19 g20 g21 g22 g23 g24 g25 g26 g27 g28 gi29 gi30 (nI mv) (nI tt) g33 g34 g35 g36 g37 g38 g39 (nI pa) g41 g42 0 g44 g45), (aIc cI g27 8 G27), (aIc cI g39 8 G39), (aIc cI g41 9 a_g41_7), (aIc cI g42 192 G42)] → va_S A s.heap H locs → lv_has ls 4 [(1, .int (nI i7)), (0, .ref g)] → W p l e { frames := 1, cells := 0, slots := 0, locals := 21 } s m [.ref g].toArray below meth c H locs 0 0 (MQ below (cQv D (fun u => ∃ (G41p G42p : Nat → Int32) (mmp : Nat), (mmp ≤ 9) ∧ u = [(oX8 g gi0 (nI mn) g2 g3 g4 g5 g6 g7 g8 g9 g10 (nI ml) g12 g13 gi14 g15 g16 g17 gi18 g19 g20 g21 g22 g23 g24 g25 g26 g27 g28 gi29 gi30 (nI mv) (nI tt) g33 g34 g35 g36 g37 g38 g39 (nI pa) g41 g42 (nI mmp) g44 g45), (aIc cI g27 8 G27), (aIc cI g39 8 G39), (aIc cI g41 9 G41p), (aIc cI g42 192 G42p)]) A) [.ref g].toArray s 0 0 A) (F0 m 7 ls []) := by
    intro zz
    induction zz with
    | zero => intro i7 a_g41_7 _ _; exact fun h => absurd h (Nat.not_lt_zero _)
    | succ zz ih7 =>
      intro i7 a_g41_7 hc1_7 hbi_7 hmu7 H locs ls hP hD hS hl
      refine lv_iload_n hx hb dX8_recovers_7 rfl (lv_at hl 0 rfl) ?_
      refine lv_bipush (v := 8) hx hb dX8_recovers_8 (by decide) ?_
      refine lv_icmp_ge (tgt := 38) hx hb dX8_recovers_10 (by decide) (fun c1 => ?_) (fun c1 => ?_)
      · skip
        have nc1 : 8 ≤ i7 := (nI_leI (a := 8) (b := i7) (by omega) (by omega)).mp c1
        refine lv_aload_n hx hb dX8_recovers_38 rfl (lv_at hl 1 rfl) ?_
        refine va_get (D := D) (ci := 8) (v := .ref g41) (C := RX8) (T := TX8) (N := 46) hx hb hts hiX8 hown hE.1 hP 0 rfl rfl 41 (by decide) (hts _ (List.mem_cons_of_mem _ wd_147)) (fun _ h9 => h9) rfl dX8_recovers_39 ?_
        refine lv_bipush (v := 8) hx hb dX8_recovers_42 (by decide) ?_
        refine lv_aload_n hx hb dX8_recovers_44 rfl (lv_at hl 1 rfl) ?_
        refine va_get (D := D) (ci := 8) (v := .int (nI pa)) (C := RX8) (T := TX8) (N := 46) hx hb hts hiX8 hown hE.1 hP 0 rfl rfl 40 (by decide) (hts _ (List.mem_cons_of_mem _ wd_751)) (fun _ h9 => h9) rfl dX8_recovers_45 ?_
        refine lv_aload_n hx hb dX8_recovers_48 rfl (lv_at hl 1 rfl) ?_
        refine va_get (D := D) (ci := 8) (v := .int (nI tt)) (C := RX8) (T := TX8) (N := 46) hx hb hts hiX8 hown hE.1 hP 0 rfl rfl 32 (by decide) (hts _ (List.mem_cons_of_mem _ wd_412)) (fun _ h9 => h9) rfl dX8_recovers_49 ?_
        refine lv_isub hx hb dX8_recovers_52 ?_
        refine lv_topi (fun v2 ev2 => ?_)
        have hb8 : Int32.toInt v2 = (pa : Int) - tt := i_sub ev2 (by omega) (by omega)
        refine va_iast hx hb hE.1 hP hD hS 3 0 rfl rfl (by unfold vp_in; decide) dX8_recovers_53 (fun H locs hP hD hS => ?_)
        refine k_re (w := [(oX8 g gi0 (nI mn) g2 g3 g4 g5 g6 g7 g8 g9 g10 (nI ml) g12 g13 gi14 g15 g16 g17 gi18 g19 g20 g21 g22 g23 g24 g25 g26 g27 g28 gi29 gi30 (nI mv) (nI tt) g33 g34 g35 g36 g37 g38 g39 (nI pa) g41 g42 0 g44 g45), (aIc cI g27 8 G27), (aIc cI g39 8 G39), (aIc cI g41 9 (upd a_g41_7 (Int32.toNatClampNeg 8) v2)), (aIc cI g42 192 G42)]) hP hD (fun hP hD => ?_)
        refine lv_aload_n hx hb dX8_recovers_54 rfl (lv_at hl 1 rfl) ?_
        refine k_iS (va_runV (As := []) (rest := []) ⟨hx, hb, hml, hown, hts⟩ (m_X8_firstBelow l D cI cJ H.size g g2 g3 g4 g5 g6 g7 g8 g9 g10 g12 g13 g15 g16 g17 g19 g20 g21 g22 g23 g24 g25 g26 g27 g28 g33 g34 g35 g36 g37 g38 g39 g41 g42 g44 g45 mn ml mv gi0 gi14 gi18 gi29 gi30 (nI tt) (nI pa) 0 (upd a_g41_7 (Int32.toNatClampNeg 8) v2)) (cwV 0 hts gX8_recovers_X8_firstBelow rfl rfl rfl (by decide +kernel) ⟨Nat.le_of_ble_eq_true rfl, Nat.le_of_ble_eq_true rfl⟩) (k_preV hE hP hD [0, 3] (by decide +kernel) rfl 0 rfl rfl) rfl rfl hl.1 rfl (lv_room (Nat.le_of_ble_eq_true rfl)) dX8_recovers_55 ⟨Nat.le_of_ble_eq_true rfl, Nat.le_of_ble_eq_true rfl⟩) hP hD hS hA [0, 3] rfl (fun _ _ ⟨_, _, _, _, h9⟩ => h9) (fun r3 H locs hw4 hP hD hS => ?_)
        obtain ⟨z5, hz6, hz7, rfl, -⟩ := hw4
        refine lv_istore_n (lv' := [(1, .int (nI z5)), (0, .ref g)]) hx hb dX8_recovers_58 rfl hl (by decide) rfl (fun ls hl => ?_)
        have J59 : ∀ (zz : Nat) (h1_59 : Nat) (a_g41_59 a_g42_59 : Nat → Int32) (f8_43_59 : Nat), (h1_59 ≤ 8) → (h1_59 = 8 ∨ (a_g41_59 h1_59).toInt < 0) → (RB a_g41_59 f8_43_59) → 9 - f8_43_59 < zz → ∀ (H : Heap) (locs : List Loc) (ls : Array Slot), va_P D vwCl [(oX8 g gi0 (nI mn) g2 g3 g4 g5 g6 g7 g8 g9 g10 (nI ml) g12 g13 gi14 g15 g16 g17 gi18 g19 g20 g21 g22 g23 g24 g25 g26 g27 g28 gi29 gi30 (nI mv) (nI tt) g33 g34 g35 g36 g37 g38 g39 (nI pa) g41 g42 (nI f8_43_59) g44 g45), (aIc cI g27 8 G27), (aIc cI g39 8 G39), (aIc cI g41 9 a_g41_59), (aIc cI g42 192 a_g42_59)] H → va_D A [(oX8 g gi0 (nI mn) g2 g3 g4 g5 g6 g7 g8 g9 g10 (nI ml) g12 g13 gi14 g15 g16 g17 gi18 g19 g20 g21 g22 g23 g24 g25 g26 g27 g28 gi29 gi30 (nI mv) (nI tt) g33 g34 g35 g36 g37 g38 g39 (nI pa) g41 g42 (nI f8_43_59) g44 g45), (aIc cI g27 8 G27), (aIc cI g39 8 G39), (aIc cI g41 9 a_g41_59), (aIc cI g42 192 a_g42_59)] → va_S A s.heap H locs → lv_has ls 4 [(1, .int (nI h1_59)), (0, .ref g)] → W p l e { frames := 1, cells := 0, slots := 0, locals := 21 } s m [.ref g].toArray below meth c H locs 0 0 (MQ below (cQv D (fun u => ∃ (G41p G42p : Nat → Int32) (mmp : Nat), (mmp ≤ 9) ∧ u = [(oX8 g gi0 (nI mn) g2 g3 g4 g5 g6 g7 g8 g9 g10 (nI ml) g12 g13 gi14 g15 g16 g17 gi18 g19 g20 g21 g22 g23 g24 g25 g26 g27 g28 gi29 gi30 (nI mv) (nI tt) g33 g34 g35 g36 g37 g38 g39 (nI pa) g41 g42 (nI mmp) g44 g45), (aIc cI g27 8 G27), (aIc cI g39 8 G39), (aIc cI g41 9 G41p), (aIc cI g42 192 G42p)]) A) [.ref g].toArray s 0 0 A) (F0 m 59 ls []) := by
          intro zz
          induction zz with
          | zero => intro h1_59 a_g41_59 a_g42_59 f8_43_59 _ _ _; exact fun h => absurd h (Nat.not_lt_zero _)
          | succ zz ih59 =>
            intro h1_59 a_g41_59 a_g42_59 f8_43_59 hp8_59 hneg_59 hRB_59 hmu59 H locs ls hP hD hS hl
            refine lv_iload_n hx hb dX8_recovers_59 rfl (lv_at hl 0 rfl) ?_
            refine lv_bipush (v := 8) hx hb dX8_recovers_60 (by decide) ?_
            refine lv_icmp_ge (tgt := 220) hx hb dX8_recovers_62 (by decide) (fun c8 => ?_) (fun c8 => ?_)
            · skip
              have nc8 : 8 ≤ h1_59 := (nI_leI (a := 8) (b := h1_59) (by omega) (by omega)).mp c8
              refine k_vret (u := [(oX8 g gi0 (nI mn) g2 g3 g4 g5 g6 g7 g8 g9 g10 (nI ml) g12 g13 gi14 g15 g16 g17 gi18 g19 g20 g21 g22 g23 g24 g25 g26 g27 g28 gi29 gi30 (nI mv) (nI tt) g33 g34 g35 g36 g37 g38 g39 (nI pa) g41 g42 (nI f8_43_59) g44 g45), (aIc cI g27 8 G27), (aIc cI g39 8 G39), (aIc cI g41 9 a_g41_59), (aIc cI g42 192 a_g42_59)]) hx hb hr hlk hP hD hS dX8_recovers_220 ?_
              exact ⟨a_g41_59, a_g42_59, f8_43_59, (by have h9 := hRB_59.2.2.2; omega), rfl⟩
            · skip
              have nc8 : ¬ 8 ≤ h1_59 := fun q9 => c8 ((nI_leI (a := 8) (b := h1_59) (by omega) (by omega)).mpr q9)
              have hmm9 := hRB_59.2.2.2
              have hpn : (a_g41_59 h1_59).toInt < 0 := hneg_59.resolve_left (by omega)
              have hpbd := hRB_59.1 h1_59 (by omega)
              have h8bd := hRB_59.1 8 (by decide)
              refine lv_bipush (v := 8) hx hb dX8_recovers_65 (by decide) ?_
              refine lv_istore_n (lv' := [(2, .int 8), (1, .int (nI h1_59)), (0, .ref g)]) hx hb dX8_recovers_67 rfl hl (by decide) rfl (fun ls hl => ?_)
              refine lv_aload_n hx hb dX8_recovers_68 rfl (lv_at hl 2 rfl) ?_
              refine va_get (D := D) (ci := 8) (v := .ref g41) (C := RX8) (T := TX8) (N := 46) hx hb hts hiX8 hown hE.1 hP 0 rfl rfl 41 (by decide) (hts _ (List.mem_cons_of_mem _ wd_147)) (fun _ h9 => h9) rfl dX8_recovers_69 ?_
              refine lv_bipush (v := 8) hx hb dX8_recovers_72 (by decide) ?_
              refine va_iald hx hb hE.1 hP 3 0 rfl rfl (by unfold vp_in; decide) dX8_recovers_74 ?_
              refine lv_topi (fun v9 ev9 => ?_)
              refine lv_if_lt (tgt := 95) hx hb dX8_recovers_75 (by decide) (fun c10 => ?_) (fun c10 => ?_)
              · skip
                have hw8 : (a_g41_59 8).toInt < 0 := by have h9 := i_lt0.mp c10; rw [ev9] at h9; exact h9
                refine lv_aload_n hx hb dX8_recovers_95 rfl (lv_at hl 2 rfl) ?_
                refine va_get (D := D) (ci := 8) (v := .ref g41) (C := RX8) (T := TX8) (N := 46) hx hb hts hiX8 hown hE.1 hP 0 rfl rfl 41 (by decide) (hts _ (List.mem_cons_of_mem _ wd_147)) (fun _ h9 => h9) rfl dX8_recovers_96 ?_
                refine lv_iload_n hx hb dX8_recovers_99 rfl (lv_at hl 1 rfl) ?_
                refine va_iald hx hb hE.1 hP 3 0 rfl rfl (vp_in_nI (n := h1_59) (by omega) (by decide)) dX8_recovers_100 ?_
                refine lv_topi (fun v11 ev11 => ?_)
                have hvp : Int32.toInt v11 = (a_g41_59 h1_59).toInt := rb_at (by omega) ev11
                refine lv_ineg hx hb dX8_recovers_101 ?_
                refine lv_topi (fun v12 ev12 => ?_)
                obtain ⟨na, hna, hnb, rfl⟩ := ng_nI ev12 (by omega) (by omega)
                rw [hvp] at hna
                refine lv_aload_n hx hb dX8_recovers_102 rfl (lv_at hl 2 rfl) ?_
                refine va_get (D := D) (ci := 8) (v := .ref g41) (C := RX8) (T := TX8) (N := 46) hx hb hts hiX8 hown hE.1 hP 0 rfl rfl 41 (by decide) (hts _ (List.mem_cons_of_mem _ wd_147)) (fun _ h9 => h9) rfl dX8_recovers_103 ?_
                refine lv_iload_n hx hb dX8_recovers_106 rfl (lv_at hl 0 rfl) ?_
                refine va_iald hx hb hE.1 hP 3 0 rfl rfl (by unfold vp_in; decide) dX8_recovers_107 ?_
                refine lv_topi (fun v13 ev13 => ?_)
                have hvw : Int32.toInt v13 = (a_g41_59 8).toInt := by rw [ev13]; rfl
                refine lv_if_ge (tgt := 121) hx hb dX8_recovers_108 (by decide) (fun c14 => absurd (Int32.le_iff_toInt_le.mp c14) (by rw [hvw, show Int32.toInt 0 = 0 from rfl]; omega)) (fun c14a => ?_)
                refine lv_aload_n hx hb dX8_recovers_111 rfl (lv_at hl 2 rfl) ?_
                refine va_get (D := D) (ci := 8) (v := .ref g41) (C := RX8) (T := TX8) (N := 46) hx hb hts hiX8 hown hE.1 hP 0 rfl rfl 41 (by decide) (hts _ (List.mem_cons_of_mem _ wd_147)) (fun _ h9 => h9) rfl dX8_recovers_112 ?_
                refine lv_iload_n hx hb dX8_recovers_115 rfl (lv_at hl 0 rfl) ?_
                refine va_iald hx hb hE.1 hP 3 0 rfl rfl (by unfold vp_in; decide) dX8_recovers_116 ?_
                refine lv_topi (fun v15 ev15 => ?_)
                have hvw2 : Int32.toInt v15 = (a_g41_59 8).toInt := by rw [ev15]; rfl
                refine lv_ineg hx hb dX8_recovers_117 ?_
                refine lv_topi (fun v16 ev16 => ?_)
                obtain ⟨nb, hnb1, hnb2, rfl⟩ := ng_nI ev16 (by omega) (by omega)
                rw [hvw2] at hnb1
                refine lv_goto (tgt := 127) hx hb dX8_recovers_118 (by decide) ?_
                refine k_iS (va_runS (As := [.int (nI na), .int (nI nb)]) (rest := []) ⟨hx, hb, hml, hown, hts⟩ (m_X8_least l D cI cJ H.size na nb (by omega) (by omega)) (va_cwS 2 hts gX8_recovers_X8_least rfl rfl rfl (by decide +kernel) ⟨Nat.le_of_ble_eq_true rfl, Nat.le_of_ble_eq_true rfl⟩) (k_pre hE hP hD [] (by decide +kernel) rfl) rfl rfl hl.1 rfl (lv_room (Nat.le_of_ble_eq_true rfl)) dX8_recovers_127 ⟨Nat.le_of_ble_eq_true rfl, Nat.le_of_ble_eq_true rfl⟩) hP hD hS hA [] rfl (fun _ _ ⟨_, h9⟩ => h9) (fun r17 H locs hw18 hP hD hS => ?_)
                obtain ⟨rfl, -⟩ := hw18
                refine lv_istore_n (lv' := [(3, .int (nI (min na nb))), (2, .int 8), (1, .int (nI h1_59)), (0, .ref g)]) hx hb dX8_recovers_130 rfl hl (by decide) rfl (fun ls hl => ?_)
                refine lv_aload_n hx hb dX8_recovers_131 rfl (lv_at hl 3 rfl) ?_
                refine va_get (D := D) (ci := 8) (v := .ref g41) (C := RX8) (T := TX8) (N := 46) hx hb hts hiX8 hown hE.1 hP 0 rfl rfl 41 (by decide) (hts _ (List.mem_cons_of_mem _ wd_147)) (fun _ h9 => h9) rfl dX8_recovers_132 ?_
                refine lv_iload_n hx hb dX8_recovers_135 rfl (lv_at hl 1 rfl) ?_
                refine lv_dup2_11 hx hb dX8_recovers_136 rfl rfl ?_
                refine va_iald hx hb hE.1 hP 3 0 rfl rfl (by unfold vp_in; decide) dX8_recovers_137 ?_
                refine lv_topi (fun v19 ev19 => ?_)
                have hvx : Int32.toInt v19 = (a_g41_59 8).toInt := by rw [ev19]; rfl
                have hmn9 := Nat.min_le_left na nb
                have hmn8 := Nat.min_le_right na nb
                have hmi : (nI (min na nb)).toInt = (min na nb : Nat) := nI_toInt (by omega)
                refine lv_iload_n hx hb dX8_recovers_138 rfl (lv_at hl 1 rfl) ?_
                refine lv_bipush (v := 8) hx hb dX8_recovers_139 (by decide) ?_
                refine lv_icmp_ne (tgt := 148) hx hb dX8_recovers_141 (by decide) (fun c20 => absurd rfl c20) (fun _ => ?_)
                refine lv_iload_n hx hb dX8_recovers_144 rfl (lv_at hl 0 rfl) ?_
                refine lv_goto (tgt := 150) hx hb dX8_recovers_145 (by decide) ?_
                refine lv_iadd hx hb dX8_recovers_150 ?_
                refine lv_topi (fun v21 ev21 => ?_)
                have hx9 : Int32.toInt v21 = (a_g41_59 8).toInt + (min na nb : Nat) := by have h9 := i_add ev21 (by omega) (by omega) (by omega) (by omega); omega
                refine va_iast hx hb hE.1 hP hD hS 3 0 rfl rfl (by unfold vp_in; decide) dX8_recovers_151 (fun H locs hP hD hS => ?_)
                refine k_re (w := [(oX8 g gi0 (nI mn) g2 g3 g4 g5 g6 g7 g8 g9 g10 (nI ml) g12 g13 gi14 g15 g16 g17 gi18 g19 g20 g21 g22 g23 g24 g25 g26 g27 g28 gi29 gi30 (nI mv) (nI tt) g33 g34 g35 g36 g37 g38 g39 (nI pa) g41 g42 (nI f8_43_59) g44 g45), (aIc cI g27 8 G27), (aIc cI g39 8 G39), (aIc cI g41 9 (upd a_g41_59 (Int32.toNatClampNeg 8) v21)), (aIc cI g42 192 a_g42_59)]) hP hD (fun hP hD => ?_)
                refine lv_aload_n hx hb dX8_recovers_152 rfl (lv_at hl 3 rfl) ?_
                refine va_get (D := D) (ci := 8) (v := .ref g41) (C := RX8) (T := TX8) (N := 46) hx hb hts hiX8 hown hE.1 hP 0 rfl rfl 41 (by decide) (hts _ (List.mem_cons_of_mem _ wd_147)) (fun _ h9 => h9) rfl dX8_recovers_153 ?_
                refine lv_iload_n hx hb dX8_recovers_156 rfl (lv_at hl 2 rfl) ?_
                refine lv_dup2_11 hx hb dX8_recovers_157 rfl rfl ?_
                refine va_iald hx hb hE.1 hP 3 0 rfl rfl (vp_in_nI (n := h1_59) (by omega) (by decide)) dX8_recovers_158 ?_
                refine lv_topi (fun v22 ev22 => ?_)
                have hvy : Int32.toInt v22 = (a_g41_59 h1_59).toInt := by rw [ev22, nI_clamp (by omega), show Int32.toNatClampNeg 8 = 8 from rfl, pk_un (show h1_59 ≠ 8 from by omega)]
                refine lv_iload_n hx hb dX8_recovers_159 rfl (lv_at hl 0 rfl) ?_
                refine lv_iadd hx hb dX8_recovers_160 ?_
                refine lv_topi (fun v23 ev23 => ?_)
                have hy9 : Int32.toInt v23 = (a_g41_59 h1_59).toInt + (min na nb : Nat) := by have h9 := i_add ev23 (by omega) (by omega) (by omega) (by omega); omega
                refine va_iast hx hb hE.1 hP hD hS 3 0 rfl rfl (vp_in_nI (n := h1_59) (by omega) (by decide)) dX8_recovers_161 (fun H locs hP hD hS => ?_)
                refine k_re (w := [(oX8 g gi0 (nI mn) g2 g3 g4 g5 g6 g7 g8 g9 g10 (nI ml) g12 g13 gi14 g15 g16 g17 gi18 g19 g20 g21 g22 g23 g24 g25 g26 g27 g28 gi29 gi30 (nI mv) (nI tt) g33 g34 g35 g36 g37 g38 g39 (nI pa) g41 g42 (nI f8_43_59) g44 g45), (aIc cI g27 8 G27), (aIc cI g39 8 G39), (aIc cI g41 9 (upd (upd a_g41_59 (Int32.toNatClampNeg 8) v21) (Int32.toNatClampNeg (nI h1_59)) v23)), (aIc cI g42 192 a_g42_59)]) hP hD (fun hP hD => ?_)
                refine lv_aload_n hx hb dX8_recovers_162 rfl (lv_at hl 3 rfl) ?_
                refine va_get (D := D) (ci := 8) (v := .ref g42) (C := RX8) (T := TX8) (N := 46) hx hb hts hiX8 hown hE.1 hP 0 rfl rfl 42 (by decide) (hts _ (List.mem_cons_of_mem _ wd_148)) (fun _ h9 => h9) rfl dX8_recovers_163 ?_
                refine lv_iconst (v := 3) hx hb dX8_recovers_166 (by decide) ?_
                refine lv_aload_n hx hb dX8_recovers_167 rfl (lv_at hl 3 rfl) ?_
                refine va_get (D := D) (ci := 8) (v := .int (nI f8_43_59)) (C := RX8) (T := TX8) (N := 46) hx hb hts hiX8 hown hE.1 hP 0 rfl rfl 43 (by decide) (hts _ (List.mem_cons_of_mem _ wd_789)) (fun _ h9 => h9) rfl dX8_recovers_168 ?_
                refine lv_imul hx hb dX8_recovers_171 ?_
                refine lv_topi (fun v24 ev24 => ?_)
                obtain rfl : v24 = (nI (3 * f8_43_59)) := by rw [ev24]; exact pk_mul 3 f8_43_59
                refine lv_iload_n hx hb dX8_recovers_172 rfl (lv_at hl 2 rfl) ?_
                refine va_iast hx hb hE.1 hP hD hS 4 0 rfl rfl (vp_in_nI (n := 3 * f8_43_59) (by omega) (by decide)) dX8_recovers_173 (fun H locs hP hD hS => ?_)
                refine k_re (w := [(oX8 g gi0 (nI mn) g2 g3 g4 g5 g6 g7 g8 g9 g10 (nI ml) g12 g13 gi14 g15 g16 g17 gi18 g19 g20 g21 g22 g23 g24 g25 g26 g27 g28 gi29 gi30 (nI mv) (nI tt) g33 g34 g35 g36 g37 g38 g39 (nI pa) g41 g42 (nI f8_43_59) g44 g45), (aIc cI g27 8 G27), (aIc cI g39 8 G39), (aIc cI g41 9 (upd (upd a_g41_59 (Int32.toNatClampNeg 8) v21) (Int32.toNatClampNeg (nI h1_59)) v23)), (aIc cI g42 192 (upd a_g42_59 (Int32.toNatClampNeg (nI (3 * f8_43_59))) (nI h1_59)))]) hP hD (fun hP hD => ?_)
                refine lv_aload_n hx hb dX8_recovers_174 rfl (lv_at hl 3 rfl) ?_
                refine va_get (D := D) (ci := 8) (v := .ref g42) (C := RX8) (T := TX8) (N := 46) hx hb hts hiX8 hown hE.1 hP 0 rfl rfl 42 (by decide) (hts _ (List.mem_cons_of_mem _ wd_148)) (fun _ h9 => h9) rfl dX8_recovers_175 ?_
                refine lv_iconst (v := 3) hx hb dX8_recovers_178 (by decide) ?_
                refine lv_aload_n hx hb dX8_recovers_179 rfl (lv_at hl 3 rfl) ?_
                refine va_get (D := D) (ci := 8) (v := .int (nI f8_43_59)) (C := RX8) (T := TX8) (N := 46) hx hb hts hiX8 hown hE.1 hP 0 rfl rfl 43 (by decide) (hts _ (List.mem_cons_of_mem _ wd_789)) (fun _ h9 => h9) rfl dX8_recovers_180 ?_
                refine lv_imul hx hb dX8_recovers_183 ?_
                refine lv_topi (fun v25 ev25 => ?_)
                obtain rfl : v25 = (nI (3 * f8_43_59)) := by rw [ev25]; exact pk_mul 3 f8_43_59
                refine lv_iconst (v := 1) hx hb dX8_recovers_184 (by decide) ?_
                refine lv_iadd hx hb dX8_recovers_185 ?_
                refine lv_topi (fun v26 ev26 => ?_)
                obtain rfl : v26 = (nI (3 * f8_43_59 + 1)) := by rw [ev26]; exact nI_add (3 * f8_43_59) 1
                refine lv_iload_n hx hb dX8_recovers_186 rfl (lv_at hl 1 rfl) ?_
                refine va_iast hx hb hE.1 hP hD hS 4 0 rfl rfl (vp_in_nI (n := 3 * f8_43_59 + 1) (by omega) (by decide)) dX8_recovers_187 (fun H locs hP hD hS => ?_)
                refine k_re (w := [(oX8 g gi0 (nI mn) g2 g3 g4 g5 g6 g7 g8 g9 g10 (nI ml) g12 g13 gi14 g15 g16 g17 gi18 g19 g20 g21 g22 g23 g24 g25 g26 g27 g28 gi29 gi30 (nI mv) (nI tt) g33 g34 g35 g36 g37 g38 g39 (nI pa) g41 g42 (nI f8_43_59) g44 g45), (aIc cI g27 8 G27), (aIc cI g39 8 G39), (aIc cI g41 9 (upd (upd a_g41_59 (Int32.toNatClampNeg 8) v21) (Int32.toNatClampNeg (nI h1_59)) v23)), (aIc cI g42 192 (upd (upd a_g42_59 (Int32.toNatClampNeg (nI (3 * f8_43_59))) (nI h1_59)) (Int32.toNatClampNeg (nI (3 * f8_43_59 + 1))) 8))]) hP hD (fun hP hD => ?_)
                refine lv_aload_n hx hb dX8_recovers_188 rfl (lv_at hl 3 rfl) ?_
                refine va_get (D := D) (ci := 8) (v := .ref g42) (C := RX8) (T := TX8) (N := 46) hx hb hts hiX8 hown hE.1 hP 0 rfl rfl 42 (by decide) (hts _ (List.mem_cons_of_mem _ wd_148)) (fun _ h9 => h9) rfl dX8_recovers_189 ?_
                refine lv_iconst (v := 3) hx hb dX8_recovers_192 (by decide) ?_
                refine lv_aload_n hx hb dX8_recovers_193 rfl (lv_at hl 3 rfl) ?_
                refine va_get (D := D) (ci := 8) (v := .int (nI f8_43_59)) (C := RX8) (T := TX8) (N := 46) hx hb hts hiX8 hown hE.1 hP 0 rfl rfl 43 (by decide) (hts _ (List.mem_cons_of_mem _ wd_789)) (fun _ h9 => h9) rfl dX8_recovers_194 ?_
                refine lv_imul hx hb dX8_recovers_197 ?_
                refine lv_topi (fun v27 ev27 => ?_)
                obtain rfl : v27 = (nI (3 * f8_43_59)) := by rw [ev27]; exact pk_mul 3 f8_43_59
                refine lv_iconst (v := 2) hx hb dX8_recovers_198 (by decide) ?_
                refine lv_iadd hx hb dX8_recovers_199 ?_
                refine lv_topi (fun v28 ev28 => ?_)
                obtain rfl : v28 = (nI (3 * f8_43_59 + 2)) := by rw [ev28]; exact nI_add (3 * f8_43_59) 2
                refine lv_iload_n hx hb dX8_recovers_200 rfl (lv_at hl 0 rfl) ?_
                refine va_iast hx hb hE.1 hP hD hS 4 0 rfl rfl (vp_in_nI (n := 3 * f8_43_59 + 2) (by omega) (by decide)) dX8_recovers_201 (fun H locs hP hD hS => ?_)
                refine k_re (w := [(oX8 g gi0 (nI mn) g2 g3 g4 g5 g6 g7 g8 g9 g10 (nI ml) g12 g13 gi14 g15 g16 g17 gi18 g19 g20 g21 g22 g23 g24 g25 g26 g27 g28 gi29 gi30 (nI mv) (nI tt) g33 g34 g35 g36 g37 g38 g39 (nI pa) g41 g42 (nI f8_43_59) g44 g45), (aIc cI g27 8 G27), (aIc cI g39 8 G39), (aIc cI g41 9 (upd (upd a_g41_59 (Int32.toNatClampNeg 8) v21) (Int32.toNatClampNeg (nI h1_59)) v23)), (aIc cI g42 192 (upd (upd (upd a_g42_59 (Int32.toNatClampNeg (nI (3 * f8_43_59))) (nI h1_59)) (Int32.toNatClampNeg (nI (3 * f8_43_59 + 1))) 8) (Int32.toNatClampNeg (nI (3 * f8_43_59 + 2))) (nI (min na nb))))]) hP hD (fun hP hD => ?_)
                refine lv_aload_n hx hb dX8_recovers_202 rfl (lv_at hl 3 rfl) ?_
                refine lv_dup hx hb dX8_recovers_203 rfl ?_
                refine va_get (D := D) (ci := 8) (v := .int (nI f8_43_59)) (C := RX8) (T := TX8) (N := 46) hx hb hts hiX8 hown hE.1 hP 0 rfl rfl 43 (by decide) (hts _ (List.mem_cons_of_mem _ wd_789)) (fun _ h9 => h9) rfl dX8_recovers_204 ?_
                refine lv_iconst (v := 1) hx hb dX8_recovers_207 (by decide) ?_
                refine lv_iadd hx hb dX8_recovers_208 ?_
                refine lv_topi (fun v29 ev29 => ?_)
                obtain rfl : v29 = (nI (f8_43_59 + 1)) := by rw [ev29]; exact nI_add f8_43_59 1
                refine va_put (D := D) (ci := 8) (v := .int (nI (f8_43_59 + 1))) (ty := .int) (C := RX8) (T := TX8) (N := 46) hx hb hts hiX8 tyX8 tyX8_ok nmX8 hown hE.1 hP hD hS 0 rfl rfl 43 (by decide) (hts _ (List.mem_cons_of_mem _ wd_789)) (fun _ h9 => h9) rfl (by decide +kernel) rfl rfl (Nat.le_of_ble_eq_true rfl) dX8_recovers_209 (fun H locs hP hD hS => ?_)
                refine k_re (w := [(oX8 g gi0 (nI mn) g2 g3 g4 g5 g6 g7 g8 g9 g10 (nI ml) g12 g13 gi14 g15 g16 g17 gi18 g19 g20 g21 g22 g23 g24 g25 g26 g27 g28 gi29 gi30 (nI mv) (nI tt) g33 g34 g35 g36 g37 g38 g39 (nI pa) g41 g42 (nI (f8_43_59 + 1)) g44 g45), (aIc cI g27 8 G27), (aIc cI g39 8 G39), (aIc cI g41 9 (upd (upd a_g41_59 (Int32.toNatClampNeg 8) v21) (Int32.toNatClampNeg (nI h1_59)) v23)), (aIc cI g42 192 (upd (upd (upd a_g42_59 (Int32.toNatClampNeg (nI (3 * f8_43_59))) (nI h1_59)) (Int32.toNatClampNeg (nI (3 * f8_43_59 + 1))) 8) (Int32.toNatClampNeg (nI (3 * f8_43_59 + 2))) (nI (min na nb))))]) hP hD (fun hP hD => ?_)
                refine lv_aload_n hx hb dX8_recovers_212 rfl (lv_at hl 3 rfl) ?_
                refine k_iS (va_runV (As := []) (rest := []) ⟨hx, hb, hml, hown, hts⟩ (m_X8_firstBelow l D cI cJ H.size g g2 g3 g4 g5 g6 g7 g8 g9 g10 g12 g13 g15 g16 g17 g19 g20 g21 g22 g23 g24 g25 g26 g27 g28 g33 g34 g35 g36 g37 g38 g39 g41 g42 g44 g45 mn ml mv gi0 gi14 gi18 gi29 gi30 (nI tt) (nI pa) (nI (f8_43_59 + 1)) (upd (upd a_g41_59 (Int32.toNatClampNeg 8) v21) (Int32.toNatClampNeg (nI h1_59)) v23)) (cwV 0 hts gX8_recovers_X8_firstBelow rfl rfl rfl (by decide +kernel) ⟨Nat.le_of_ble_eq_true rfl, Nat.le_of_ble_eq_true rfl⟩) (k_preV hE hP hD [0, 3] (by decide +kernel) rfl 0 rfl rfl) rfl rfl hl.1 rfl (lv_room (Nat.le_of_ble_eq_true rfl)) dX8_recovers_213 ⟨Nat.le_of_ble_eq_true rfl, Nat.le_of_ble_eq_true rfl⟩) hP hD hS hA [0, 3] rfl (fun _ _ ⟨_, _, _, _, h9⟩ => h9) (fun r30 H locs hw31 hP hD hS => ?_)
                obtain ⟨z32, hz33, hz34, rfl, -⟩ := hw31
                refine lv_istore_n (lv' := [(1, .int (nI z32)), (3, .int (nI (min na nb))), (2, .int 8), (0, .ref g)]) hx hb dX8_recovers_216 rfl hl (by decide) rfl (fun ls hl => ?_)
                refine lv_goto (tgt := 59) hx hb dX8_recovers_217 (by decide) ?_
                have hRn := rb_s8 hRB_59 (by omega) hpn hw8 hna hnb1 hx9 hy9
                have hRm := hRn.2.2.2
                exact ih59 z32 (upd (upd a_g41_59 (Int32.toNatClampNeg 8) v21) (Int32.toNatClampNeg (nI h1_59)) v23) (upd (upd (upd a_g42_59 (Int32.toNatClampNeg (nI (3 * f8_43_59))) (nI h1_59)) (Int32.toNatClampNeg (nI (3 * f8_43_59 + 1))) 8) (Int32.toNatClampNeg (nI (3 * f8_43_59 + 2))) (nI (min na nb))) (f8_43_59 + 1) hz34 hz33 hRn (by omega) _ _ _ hP hD hS (lv_sub hl [0, 3] rfl)
              · skip
                refine lv_iconst (v := 0) hx hb dX8_recovers_78 (by decide) ?_
                refine lv_istore_n (lv' := [(2, .int 0), (1, .int (nI h1_59)), (0, .ref g)]) hx hb dX8_recovers_79 rfl hl (by decide) rfl (fun ls hl => ?_)
                have J80 : ∀ (zz : Nat) (h2_80 : Nat), (∃ q : Nat, h2_80 ≤ q ∧ q < 8 ∧ 0 < (a_g41_59 q).toInt) → (h2_80 ≤ 8) → 8 - h2_80 < zz → ∀ (H : Heap) (locs : List Loc) (ls : Array Slot), va_P D vwCl [(oX8 g gi0 (nI mn) g2 g3 g4 g5 g6 g7 g8 g9 g10 (nI ml) g12 g13 gi14 g15 g16 g17 gi18 g19 g20 g21 g22 g23 g24 g25 g26 g27 g28 gi29 gi30 (nI mv) (nI tt) g33 g34 g35 g36 g37 g38 g39 (nI pa) g41 g42 (nI f8_43_59) g44 g45), (aIc cI g27 8 G27), (aIc cI g39 8 G39), (aIc cI g41 9 a_g41_59), (aIc cI g42 192 a_g42_59)] H → va_D A [(oX8 g gi0 (nI mn) g2 g3 g4 g5 g6 g7 g8 g9 g10 (nI ml) g12 g13 gi14 g15 g16 g17 gi18 g19 g20 g21 g22 g23 g24 g25 g26 g27 g28 gi29 gi30 (nI mv) (nI tt) g33 g34 g35 g36 g37 g38 g39 (nI pa) g41 g42 (nI f8_43_59) g44 g45), (aIc cI g27 8 G27), (aIc cI g39 8 G39), (aIc cI g41 9 a_g41_59), (aIc cI g42 192 a_g42_59)] → va_S A s.heap H locs → lv_has ls 4 [(2, .int (nI h2_80)), (1, .int (nI h1_59)), (0, .ref g)] → W p l e { frames := 1, cells := 0, slots := 0, locals := 21 } s m [.ref g].toArray below meth c H locs 0 0 (MQ below (cQv D (fun u => ∃ (G41p G42p : Nat → Int32) (mmp : Nat), (mmp ≤ 9) ∧ u = [(oX8 g gi0 (nI mn) g2 g3 g4 g5 g6 g7 g8 g9 g10 (nI ml) g12 g13 gi14 g15 g16 g17 gi18 g19 g20 g21 g22 g23 g24 g25 g26 g27 g28 gi29 gi30 (nI mv) (nI tt) g33 g34 g35 g36 g37 g38 g39 (nI pa) g41 g42 (nI mmp) g44 g45), (aIc cI g27 8 G27), (aIc cI g39 8 G39), (aIc cI g41 9 G41p), (aIc cI g42 192 G42p)]) A) [.ref g].toArray s 0 0 A) (F0 m 80 ls []) := by
                  intro zz
                  induction zz with
                  | zero => intro h2_80 _ _; exact fun h => absurd h (Nat.not_lt_zero _)
                  | succ zz ih80 =>
                    intro h2_80 hex_80 h2b_80 hmu80 H locs ls hP hD hS hl
                    refine lv_aload_n hx hb dX8_recovers_80 rfl (lv_at hl 2 rfl) ?_
                    obtain ⟨qw, hq1, hq2, hq3⟩ := hex_80
                    refine va_get (D := D) (ci := 8) (v := .ref g41) (C := RX8) (T := TX8) (N := 46) hx hb hts hiX8 hown hE.1 hP 0 rfl rfl 41 (by decide) (hts _ (List.mem_cons_of_mem _ wd_147)) (fun _ h9 => h9) rfl dX8_recovers_81 ?_
                    refine lv_iload_n hx hb dX8_recovers_84 rfl (lv_at hl 0 rfl) ?_
                    refine va_iald hx hb hE.1 hP 3 0 rfl rfl (vp_in_nI (n := h2_80) (by omega) (by decide)) dX8_recovers_85 ?_
                    refine lv_topi (fun v35 ev35 => ?_)
                    refine lv_if_gt (tgt := 95) hx hb dX8_recovers_86 (by decide) (fun c36 => ?_) (fun c36 => ?_)
                    · skip
                      have hww : 0 < (a_g41_59 h2_80).toInt := by have h9 := i_gt0.mp c36; rw [rb_at (by omega) ev35] at h9; exact h9
                      have hwbd := hRB_59.1 h2_80 (by omega)
                      refine lv_aload_n hx hb dX8_recovers_95 rfl (lv_at hl 2 rfl) ?_
                      refine va_get (D := D) (ci := 8) (v := .ref g41) (C := RX8) (T := TX8) (N := 46) hx hb hts hiX8 hown hE.1 hP 0 rfl rfl 41 (by decide) (hts _ (List.mem_cons_of_mem _ wd_147)) (fun _ h9 => h9) rfl dX8_recovers_96 ?_
                      refine lv_iload_n hx hb dX8_recovers_99 rfl (lv_at hl 1 rfl) ?_
                      refine va_iald hx hb hE.1 hP 3 0 rfl rfl (vp_in_nI (n := h1_59) (by omega) (by decide)) dX8_recovers_100 ?_
                      refine lv_topi (fun v37 ev37 => ?_)
                      have hvp : Int32.toInt v37 = (a_g41_59 h1_59).toInt := rb_at (by omega) ev37
                      refine lv_ineg hx hb dX8_recovers_101 ?_
                      refine lv_topi (fun v38 ev38 => ?_)
                      obtain ⟨na, hna, hnb, rfl⟩ := ng_nI ev38 (by omega) (by omega)
                      rw [hvp] at hna
                      refine lv_aload_n hx hb dX8_recovers_102 rfl (lv_at hl 2 rfl) ?_
                      refine va_get (D := D) (ci := 8) (v := .ref g41) (C := RX8) (T := TX8) (N := 46) hx hb hts hiX8 hown hE.1 hP 0 rfl rfl 41 (by decide) (hts _ (List.mem_cons_of_mem _ wd_147)) (fun _ h9 => h9) rfl dX8_recovers_103 ?_
                      refine lv_iload_n hx hb dX8_recovers_106 rfl (lv_at hl 0 rfl) ?_
                      refine va_iald hx hb hE.1 hP 3 0 rfl rfl (vp_in_nI (n := h2_80) (by omega) (by decide)) dX8_recovers_107 ?_
                      refine lv_topi (fun v39 ev39 => ?_)
                      have hvw : Int32.toInt v39 = (a_g41_59 h2_80).toInt := rb_at (by omega) ev39
                      refine lv_if_ge (tgt := 121) hx hb dX8_recovers_108 (by decide) (fun c40a => ?_) (fun c40 => absurd (Int32.not_le.mp c40) (fun q => by have := i_lt0.mp q; omega))
                      refine lv_aload_n hx hb dX8_recovers_121 rfl (lv_at hl 2 rfl) ?_
                      refine va_get (D := D) (ci := 8) (v := .ref g41) (C := RX8) (T := TX8) (N := 46) hx hb hts hiX8 hown hE.1 hP 0 rfl rfl 41 (by decide) (hts _ (List.mem_cons_of_mem _ wd_147)) (fun _ h9 => h9) rfl dX8_recovers_122 ?_
                      refine lv_iload_n hx hb dX8_recovers_125 rfl (lv_at hl 0 rfl) ?_
                      refine va_iald hx hb hE.1 hP 3 0 rfl rfl (vp_in_nI (n := h2_80) (by omega) (by decide)) dX8_recovers_126 ?_
                      refine lv_topi (fun v41 ev41 => ?_)
                      have hvw2 : Int32.toInt v41 = (a_g41_59 h2_80).toInt := rb_at (by omega) ev41
                      obtain ⟨nb, hnb1, hnb2, env⟩ := ps_nI (x := v41) (by omega) (by omega)
                      rw [hvw2] at hnb1
                      clear hvw2
                      subst env
                      refine k_iS (va_runS (As := [.int (nI na), .int (nI nb)]) (rest := []) ⟨hx, hb, hml, hown, hts⟩ (m_X8_least l D cI cJ H.size na nb (by omega) (by omega)) (va_cwS 2 hts gX8_recovers_X8_least rfl rfl rfl (by decide +kernel) ⟨Nat.le_of_ble_eq_true rfl, Nat.le_of_ble_eq_true rfl⟩) (k_pre hE hP hD [] (by decide +kernel) rfl) rfl rfl hl.1 rfl (lv_room (Nat.le_of_ble_eq_true rfl)) dX8_recovers_127 ⟨Nat.le_of_ble_eq_true rfl, Nat.le_of_ble_eq_true rfl⟩) hP hD hS hA [] rfl (fun _ _ ⟨_, h9⟩ => h9) (fun r42 H locs hw43 hP hD hS => ?_)
                      obtain ⟨rfl, -⟩ := hw43
                      refine lv_istore_n (lv' := [(3, .int (nI (min na nb))), (2, .int (nI h2_80)), (1, .int (nI h1_59)), (0, .ref g)]) hx hb dX8_recovers_130 rfl hl (by decide) rfl (fun ls hl => ?_)
                      refine lv_aload_n hx hb dX8_recovers_131 rfl (lv_at hl 3 rfl) ?_
                      refine va_get (D := D) (ci := 8) (v := .ref g41) (C := RX8) (T := TX8) (N := 46) hx hb hts hiX8 hown hE.1 hP 0 rfl rfl 41 (by decide) (hts _ (List.mem_cons_of_mem _ wd_147)) (fun _ h9 => h9) rfl dX8_recovers_132 ?_
                      refine lv_iload_n hx hb dX8_recovers_135 rfl (lv_at hl 1 rfl) ?_
                      refine lv_dup2_11 hx hb dX8_recovers_136 rfl rfl ?_
                      refine va_iald hx hb hE.1 hP 3 0 rfl rfl (vp_in_nI (n := h2_80) (by omega) (by decide)) dX8_recovers_137 ?_
                      refine lv_topi (fun v44 ev44 => ?_)
                      have hvx : Int32.toInt v44 = (a_g41_59 h2_80).toInt := rb_at (by omega) ev44
                      have hmn9 := Nat.min_le_left na nb
                      have hmn8 := Nat.min_le_right na nb
                      have hmi : (nI (min na nb)).toInt = (min na nb : Nat) := nI_toInt (by omega)
                      refine lv_iload_n hx hb dX8_recovers_138 rfl (lv_at hl 1 rfl) ?_
                      refine lv_bipush (v := 8) hx hb dX8_recovers_139 (by decide) ?_
                      refine lv_icmp_ne (tgt := 148) hx hb dX8_recovers_141 (by decide) (fun c45a => ?_) (fun c45 => absurd ((nI_eq (a := h2_80) (b := 8) (by omega) (by decide)).mp c45) (by omega))
                      refine lv_iload_n hx hb dX8_recovers_148 rfl (lv_at hl 0 rfl) ?_
                      refine lv_ineg hx hb dX8_recovers_149 ?_
                      refine lv_topi (fun v46 ev46 => ?_)
                      have hmneg : Int32.toInt v46 = -((min na nb : Nat) : Int) := by rw [i_neg ev46 (by omega) (by omega), hmi]
                      refine lv_iadd hx hb dX8_recovers_150 ?_
                      refine lv_topi (fun v47 ev47 => ?_)
                      have hx9 : Int32.toInt v47 = (a_g41_59 h2_80).toInt - (min na nb : Nat) := by have h9 := i_add ev47 (by omega) (by omega) (by omega) (by omega); omega
                      refine va_iast hx hb hE.1 hP hD hS 3 0 rfl rfl (vp_in_nI (n := h2_80) (by omega) (by decide)) dX8_recovers_151 (fun H locs hP hD hS => ?_)
                      refine k_re (w := [(oX8 g gi0 (nI mn) g2 g3 g4 g5 g6 g7 g8 g9 g10 (nI ml) g12 g13 gi14 g15 g16 g17 gi18 g19 g20 g21 g22 g23 g24 g25 g26 g27 g28 gi29 gi30 (nI mv) (nI tt) g33 g34 g35 g36 g37 g38 g39 (nI pa) g41 g42 (nI f8_43_59) g44 g45), (aIc cI g27 8 G27), (aIc cI g39 8 G39), (aIc cI g41 9 (upd a_g41_59 (Int32.toNatClampNeg (nI h2_80)) v47)), (aIc cI g42 192 a_g42_59)]) hP hD (fun hP hD => ?_)
                      refine lv_aload_n hx hb dX8_recovers_152 rfl (lv_at hl 3 rfl) ?_
                      refine va_get (D := D) (ci := 8) (v := .ref g41) (C := RX8) (T := TX8) (N := 46) hx hb hts hiX8 hown hE.1 hP 0 rfl rfl 41 (by decide) (hts _ (List.mem_cons_of_mem _ wd_147)) (fun _ h9 => h9) rfl dX8_recovers_153 ?_
                      refine lv_iload_n hx hb dX8_recovers_156 rfl (lv_at hl 2 rfl) ?_
                      refine lv_dup2_11 hx hb dX8_recovers_157 rfl rfl ?_
                      refine va_iald hx hb hE.1 hP 3 0 rfl rfl (vp_in_nI (n := h1_59) (by omega) (by decide)) dX8_recovers_158 ?_
                      refine lv_topi (fun v48 ev48 => ?_)
                      have hvy : Int32.toInt v48 = (a_g41_59 h1_59).toInt := by rw [ev48, nI_clamp (by omega), nI_clamp (by omega), pk_un (show h1_59 ≠ h2_80 from fun z => by rw [z] at hpn; omega)]
                      refine lv_iload_n hx hb dX8_recovers_159 rfl (lv_at hl 0 rfl) ?_
                      refine lv_iadd hx hb dX8_recovers_160 ?_
                      refine lv_topi (fun v49 ev49 => ?_)
                      have hy9 : Int32.toInt v49 = (a_g41_59 h1_59).toInt + (min na nb : Nat) := by have h9 := i_add ev49 (by omega) (by omega) (by omega) (by omega); omega
                      refine va_iast hx hb hE.1 hP hD hS 3 0 rfl rfl (vp_in_nI (n := h1_59) (by omega) (by decide)) dX8_recovers_161 (fun H locs hP hD hS => ?_)
                      refine k_re (w := [(oX8 g gi0 (nI mn) g2 g3 g4 g5 g6 g7 g8 g9 g10 (nI ml) g12 g13 gi14 g15 g16 g17 gi18 g19 g20 g21 g22 g23 g24 g25 g26 g27 g28 gi29 gi30 (nI mv) (nI tt) g33 g34 g35 g36 g37 g38 g39 (nI pa) g41 g42 (nI f8_43_59) g44 g45), (aIc cI g27 8 G27), (aIc cI g39 8 G39), (aIc cI g41 9 (upd (upd a_g41_59 (Int32.toNatClampNeg (nI h2_80)) v47) (Int32.toNatClampNeg (nI h1_59)) v49)), (aIc cI g42 192 a_g42_59)]) hP hD (fun hP hD => ?_)
                      refine lv_aload_n hx hb dX8_recovers_162 rfl (lv_at hl 3 rfl) ?_
                      refine va_get (D := D) (ci := 8) (v := .ref g42) (C := RX8) (T := TX8) (N := 46) hx hb hts hiX8 hown hE.1 hP 0 rfl rfl 42 (by decide) (hts _ (List.mem_cons_of_mem _ wd_148)) (fun _ h9 => h9) rfl dX8_recovers_163 ?_
                      refine lv_iconst (v := 3) hx hb dX8_recovers_166 (by decide) ?_
                      refine lv_aload_n hx hb dX8_recovers_167 rfl (lv_at hl 3 rfl) ?_
                      refine va_get (D := D) (ci := 8) (v := .int (nI f8_43_59)) (C := RX8) (T := TX8) (N := 46) hx hb hts hiX8 hown hE.1 hP 0 rfl rfl 43 (by decide) (hts _ (List.mem_cons_of_mem _ wd_789)) (fun _ h9 => h9) rfl dX8_recovers_168 ?_
                      refine lv_imul hx hb dX8_recovers_171 ?_
                      refine lv_topi (fun v50 ev50 => ?_)
                      obtain rfl : v50 = (nI (3 * f8_43_59)) := by rw [ev50]; exact pk_mul 3 f8_43_59
                      refine lv_iload_n hx hb dX8_recovers_172 rfl (lv_at hl 2 rfl) ?_
                      refine va_iast hx hb hE.1 hP hD hS 4 0 rfl rfl (vp_in_nI (n := 3 * f8_43_59) (by omega) (by decide)) dX8_recovers_173 (fun H locs hP hD hS => ?_)
                      refine k_re (w := [(oX8 g gi0 (nI mn) g2 g3 g4 g5 g6 g7 g8 g9 g10 (nI ml) g12 g13 gi14 g15 g16 g17 gi18 g19 g20 g21 g22 g23 g24 g25 g26 g27 g28 gi29 gi30 (nI mv) (nI tt) g33 g34 g35 g36 g37 g38 g39 (nI pa) g41 g42 (nI f8_43_59) g44 g45), (aIc cI g27 8 G27), (aIc cI g39 8 G39), (aIc cI g41 9 (upd (upd a_g41_59 (Int32.toNatClampNeg (nI h2_80)) v47) (Int32.toNatClampNeg (nI h1_59)) v49)), (aIc cI g42 192 (upd a_g42_59 (Int32.toNatClampNeg (nI (3 * f8_43_59))) (nI h1_59)))]) hP hD (fun hP hD => ?_)
                      refine lv_aload_n hx hb dX8_recovers_174 rfl (lv_at hl 3 rfl) ?_
                      refine va_get (D := D) (ci := 8) (v := .ref g42) (C := RX8) (T := TX8) (N := 46) hx hb hts hiX8 hown hE.1 hP 0 rfl rfl 42 (by decide) (hts _ (List.mem_cons_of_mem _ wd_148)) (fun _ h9 => h9) rfl dX8_recovers_175 ?_
                      refine lv_iconst (v := 3) hx hb dX8_recovers_178 (by decide) ?_
                      refine lv_aload_n hx hb dX8_recovers_179 rfl (lv_at hl 3 rfl) ?_
                      refine va_get (D := D) (ci := 8) (v := .int (nI f8_43_59)) (C := RX8) (T := TX8) (N := 46) hx hb hts hiX8 hown hE.1 hP 0 rfl rfl 43 (by decide) (hts _ (List.mem_cons_of_mem _ wd_789)) (fun _ h9 => h9) rfl dX8_recovers_180 ?_
                      refine lv_imul hx hb dX8_recovers_183 ?_
                      refine lv_topi (fun v51 ev51 => ?_)
                      obtain rfl : v51 = (nI (3 * f8_43_59)) := by rw [ev51]; exact pk_mul 3 f8_43_59
                      refine lv_iconst (v := 1) hx hb dX8_recovers_184 (by decide) ?_
                      refine lv_iadd hx hb dX8_recovers_185 ?_
                      refine lv_topi (fun v52 ev52 => ?_)
                      obtain rfl : v52 = (nI (3 * f8_43_59 + 1)) := by rw [ev52]; exact nI_add (3 * f8_43_59) 1
                      refine lv_iload_n hx hb dX8_recovers_186 rfl (lv_at hl 1 rfl) ?_
                      refine va_iast hx hb hE.1 hP hD hS 4 0 rfl rfl (vp_in_nI (n := 3 * f8_43_59 + 1) (by omega) (by decide)) dX8_recovers_187 (fun H locs hP hD hS => ?_)
                      refine k_re (w := [(oX8 g gi0 (nI mn) g2 g3 g4 g5 g6 g7 g8 g9 g10 (nI ml) g12 g13 gi14 g15 g16 g17 gi18 g19 g20 g21 g22 g23 g24 g25 g26 g27 g28 gi29 gi30 (nI mv) (nI tt) g33 g34 g35 g36 g37 g38 g39 (nI pa) g41 g42 (nI f8_43_59) g44 g45), (aIc cI g27 8 G27), (aIc cI g39 8 G39), (aIc cI g41 9 (upd (upd a_g41_59 (Int32.toNatClampNeg (nI h2_80)) v47) (Int32.toNatClampNeg (nI h1_59)) v49)), (aIc cI g42 192 (upd (upd a_g42_59 (Int32.toNatClampNeg (nI (3 * f8_43_59))) (nI h1_59)) (Int32.toNatClampNeg (nI (3 * f8_43_59 + 1))) (nI h2_80)))]) hP hD (fun hP hD => ?_)
                      refine lv_aload_n hx hb dX8_recovers_188 rfl (lv_at hl 3 rfl) ?_
                      refine va_get (D := D) (ci := 8) (v := .ref g42) (C := RX8) (T := TX8) (N := 46) hx hb hts hiX8 hown hE.1 hP 0 rfl rfl 42 (by decide) (hts _ (List.mem_cons_of_mem _ wd_148)) (fun _ h9 => h9) rfl dX8_recovers_189 ?_
                      refine lv_iconst (v := 3) hx hb dX8_recovers_192 (by decide) ?_
                      refine lv_aload_n hx hb dX8_recovers_193 rfl (lv_at hl 3 rfl) ?_
                      refine va_get (D := D) (ci := 8) (v := .int (nI f8_43_59)) (C := RX8) (T := TX8) (N := 46) hx hb hts hiX8 hown hE.1 hP 0 rfl rfl 43 (by decide) (hts _ (List.mem_cons_of_mem _ wd_789)) (fun _ h9 => h9) rfl dX8_recovers_194 ?_
                      refine lv_imul hx hb dX8_recovers_197 ?_
                      refine lv_topi (fun v53 ev53 => ?_)
                      obtain rfl : v53 = (nI (3 * f8_43_59)) := by rw [ev53]; exact pk_mul 3 f8_43_59
                      refine lv_iconst (v := 2) hx hb dX8_recovers_198 (by decide) ?_
                      refine lv_iadd hx hb dX8_recovers_199 ?_
                      refine lv_topi (fun v54 ev54 => ?_)
                      obtain rfl : v54 = (nI (3 * f8_43_59 + 2)) := by rw [ev54]; exact nI_add (3 * f8_43_59) 2
                      refine lv_iload_n hx hb dX8_recovers_200 rfl (lv_at hl 0 rfl) ?_
                      refine va_iast hx hb hE.1 hP hD hS 4 0 rfl rfl (vp_in_nI (n := 3 * f8_43_59 + 2) (by omega) (by decide)) dX8_recovers_201 (fun H locs hP hD hS => ?_)
                      refine k_re (w := [(oX8 g gi0 (nI mn) g2 g3 g4 g5 g6 g7 g8 g9 g10 (nI ml) g12 g13 gi14 g15 g16 g17 gi18 g19 g20 g21 g22 g23 g24 g25 g26 g27 g28 gi29 gi30 (nI mv) (nI tt) g33 g34 g35 g36 g37 g38 g39 (nI pa) g41 g42 (nI f8_43_59) g44 g45), (aIc cI g27 8 G27), (aIc cI g39 8 G39), (aIc cI g41 9 (upd (upd a_g41_59 (Int32.toNatClampNeg (nI h2_80)) v47) (Int32.toNatClampNeg (nI h1_59)) v49)), (aIc cI g42 192 (upd (upd (upd a_g42_59 (Int32.toNatClampNeg (nI (3 * f8_43_59))) (nI h1_59)) (Int32.toNatClampNeg (nI (3 * f8_43_59 + 1))) (nI h2_80)) (Int32.toNatClampNeg (nI (3 * f8_43_59 + 2))) (nI (min na nb))))]) hP hD (fun hP hD => ?_)
                      refine lv_aload_n hx hb dX8_recovers_202 rfl (lv_at hl 3 rfl) ?_
                      refine lv_dup hx hb dX8_recovers_203 rfl ?_
                      refine va_get (D := D) (ci := 8) (v := .int (nI f8_43_59)) (C := RX8) (T := TX8) (N := 46) hx hb hts hiX8 hown hE.1 hP 0 rfl rfl 43 (by decide) (hts _ (List.mem_cons_of_mem _ wd_789)) (fun _ h9 => h9) rfl dX8_recovers_204 ?_
                      refine lv_iconst (v := 1) hx hb dX8_recovers_207 (by decide) ?_
                      refine lv_iadd hx hb dX8_recovers_208 ?_
                      refine lv_topi (fun v55 ev55 => ?_)
                      obtain rfl : v55 = (nI (f8_43_59 + 1)) := by rw [ev55]; exact nI_add f8_43_59 1
                      refine va_put (D := D) (ci := 8) (v := .int (nI (f8_43_59 + 1))) (ty := .int) (C := RX8) (T := TX8) (N := 46) hx hb hts hiX8 tyX8 tyX8_ok nmX8 hown hE.1 hP hD hS 0 rfl rfl 43 (by decide) (hts _ (List.mem_cons_of_mem _ wd_789)) (fun _ h9 => h9) rfl (by decide +kernel) rfl rfl (Nat.le_of_ble_eq_true rfl) dX8_recovers_209 (fun H locs hP hD hS => ?_)
                      refine k_re (w := [(oX8 g gi0 (nI mn) g2 g3 g4 g5 g6 g7 g8 g9 g10 (nI ml) g12 g13 gi14 g15 g16 g17 gi18 g19 g20 g21 g22 g23 g24 g25 g26 g27 g28 gi29 gi30 (nI mv) (nI tt) g33 g34 g35 g36 g37 g38 g39 (nI pa) g41 g42 (nI (f8_43_59 + 1)) g44 g45), (aIc cI g27 8 G27), (aIc cI g39 8 G39), (aIc cI g41 9 (upd (upd a_g41_59 (Int32.toNatClampNeg (nI h2_80)) v47) (Int32.toNatClampNeg (nI h1_59)) v49)), (aIc cI g42 192 (upd (upd (upd a_g42_59 (Int32.toNatClampNeg (nI (3 * f8_43_59))) (nI h1_59)) (Int32.toNatClampNeg (nI (3 * f8_43_59 + 1))) (nI h2_80)) (Int32.toNatClampNeg (nI (3 * f8_43_59 + 2))) (nI (min na nb))))]) hP hD (fun hP hD => ?_)
                      refine lv_aload_n hx hb dX8_recovers_212 rfl (lv_at hl 3 rfl) ?_
                      refine k_iS (va_runV (As := []) (rest := []) ⟨hx, hb, hml, hown, hts⟩ (m_X8_firstBelow l D cI cJ H.size g g2 g3 g4 g5 g6 g7 g8 g9 g10 g12 g13 g15 g16 g17 g19 g20 g21 g22 g23 g24 g25 g26 g27 g28 g33 g34 g35 g36 g37 g38 g39 g41 g42 g44 g45 mn ml mv gi0 gi14 gi18 gi29 gi30 (nI tt) (nI pa) (nI (f8_43_59 + 1)) (upd (upd a_g41_59 (Int32.toNatClampNeg (nI h2_80)) v47) (Int32.toNatClampNeg (nI h1_59)) v49)) (cwV 0 hts gX8_recovers_X8_firstBelow rfl rfl rfl (by decide +kernel) ⟨Nat.le_of_ble_eq_true rfl, Nat.le_of_ble_eq_true rfl⟩) (k_preV hE hP hD [0, 3] (by decide +kernel) rfl 0 rfl rfl) rfl rfl hl.1 rfl (lv_room (Nat.le_of_ble_eq_true rfl)) dX8_recovers_213 ⟨Nat.le_of_ble_eq_true rfl, Nat.le_of_ble_eq_true rfl⟩) hP hD hS hA [0, 3] rfl (fun _ _ ⟨_, _, _, _, h9⟩ => h9) (fun r56 H locs hw57 hP hD hS => ?_)
                      obtain ⟨z58, hz59, hz60, rfl, -⟩ := hw57
                      refine lv_istore_n (lv' := [(1, .int (nI z58)), (3, .int (nI (min na nb))), (2, .int (nI h2_80)), (0, .ref g)]) hx hb dX8_recovers_216 rfl hl (by decide) rfl (fun ls hl => ?_)
                      refine lv_goto (tgt := 59) hx hb dX8_recovers_217 (by decide) ?_
                      have hRn := rb_sw hRB_59 (by omega) hpn (by omega) hww hna hnb1 hx9 hy9
                      have hRm := hRn.2.2.2
                      exact ih59 z58 (upd (upd a_g41_59 (Int32.toNatClampNeg (nI h2_80)) v47) (Int32.toNatClampNeg (nI h1_59)) v49) (upd (upd (upd a_g42_59 (Int32.toNatClampNeg (nI (3 * f8_43_59))) (nI h1_59)) (Int32.toNatClampNeg (nI (3 * f8_43_59 + 1))) (nI h2_80)) (Int32.toNatClampNeg (nI (3 * f8_43_59 + 2))) (nI (min na nb))) (f8_43_59 + 1) hz60 hz59 hRn (by omega) _ _ _ hP hD hS (lv_sub hl [0, 3] rfl)
                    · skip
                      refine lv_iinc (v := (nI (h2_80 + 1))) (lv' := [(2, .int (nI (h2_80 + 1))), (1, .int (nI h1_59)), (0, .ref g)]) hx hb dX8_recovers_89 hl (k := 0) rfl (nI_1 _) (by decide) rfl (fun ls hl => ?_)
                      refine lv_goto (tgt := 80) hx hb dX8_recovers_92 (by decide) ?_
                      exact ih80 (h2_80 + 1) (rb_nx (by omega) ev35 c36 ⟨qw, hq1, hq2, hq3⟩) (by omega) (by omega) _ _ _ hP hD hS (lv_sub hl [0, 1, 2] rfl)
                have hv8 : Int32.toInt v9 = (a_g41_59 8).toInt := by rw [ev9]; rfl
                have hn8 : ¬ (a_g41_59 8).toInt < 0 := fun q => c10 (i_lt0.mpr (by rw [hv8]; exact q))
                exact J80 _ 0 (rb_pos hRB_59 (by omega) hpn hn8) (by omega) (Nat.lt_succ_self _) _ _ _ hP hD hS (lv_sub hl [0, 1, 2] rfl)
        exact J59 _ z5 (upd a_g41_7 (Int32.toNatClampNeg 8) v2) G42 0 hz7 hz6 (rb_0 (fun k hk => hbi_7 k (by omega)) hpds hshs hpat htt hb8) (Nat.lt_succ_self _) _ _ _ hP hD hS (lv_sub hl [0, 1] rfl)
      · skip
        have nc1 : ¬ 8 ≤ i7 := fun q9 => c1 ((nI_leI (a := 8) (b := i7) (by omega) (by omega)).mpr q9)
        refine lv_aload_n hx hb dX8_recovers_13 rfl (lv_at hl 1 rfl) ?_
        refine va_get (D := D) (ci := 8) (v := .ref g41) (C := RX8) (T := TX8) (N := 46) hx hb hts hiX8 hown hE.1 hP 0 rfl rfl 41 (by decide) (hts _ (List.mem_cons_of_mem _ wd_147)) (fun _ h9 => h9) rfl dX8_recovers_14 ?_
        refine lv_iload_n hx hb dX8_recovers_17 rfl (lv_at hl 0 rfl) ?_
        refine lv_aload_n hx hb dX8_recovers_18 rfl (lv_at hl 1 rfl) ?_
        refine va_get (D := D) (ci := 8) (v := .ref g39) (C := RX8) (T := TX8) (N := 46) hx hb hts hiX8 hown hE.1 hP 0 rfl rfl 39 (by decide) (hts _ (List.mem_cons_of_mem _ wd_146)) (fun _ h9 => h9) rfl dX8_recovers_19 ?_
        refine lv_iload_n hx hb dX8_recovers_22 rfl (lv_at hl 0 rfl) ?_
        refine va_iald hx hb hE.1 hP 2 0 rfl rfl (vp_in_nI (n := i7) (by omega) (by decide)) dX8_recovers_23 ?_
        refine lv_topi (fun v61 ev61 => ?_)
        obtain rfl : v61 = nI (pd i7) := ev61.trans (nv_at hpd (by omega))
        refine lv_aload_n hx hb dX8_recovers_24 rfl (lv_at hl 1 rfl) ?_
        refine va_get (D := D) (ci := 8) (v := .ref g27) (C := RX8) (T := TX8) (N := 46) hx hb hts hiX8 hown hE.1 hP 0 rfl rfl 27 (by decide) (hts _ (List.mem_cons_of_mem _ wd_138)) (fun _ h9 => h9) rfl dX8_recovers_25 ?_
        refine lv_iload_n hx hb dX8_recovers_28 rfl (lv_at hl 0 rfl) ?_
        refine va_iald hx hb hE.1 hP 1 0 rfl rfl (vp_in_nI (n := i7) (by omega) (by decide)) dX8_recovers_29 ?_
        refine lv_topi (fun v62 ev62 => ?_)
        obtain rfl : v62 = nI (sh i7) := ev62.trans (nv_at hsh (by omega))
        refine lv_isub hx hb dX8_recovers_30 ?_
        refine lv_topi (fun v63 ev63 => ?_)
        have hbd1 := sm_get pd (k := i7) (n := 8) (by omega)
        have hbd2 := sm_get sh (k := i7) (n := 8) (by omega)
        have hbv : Int32.toInt v63 = (pd i7 : Int) - sh i7 := i_sub ev63 (by omega) (by omega)
        refine va_iast hx hb hE.1 hP hD hS 3 0 rfl rfl (vp_in_nI (n := i7) (by omega) (by decide)) dX8_recovers_31 (fun H locs hP hD hS => ?_)
        refine k_re (w := [(oX8 g gi0 (nI mn) g2 g3 g4 g5 g6 g7 g8 g9 g10 (nI ml) g12 g13 gi14 g15 g16 g17 gi18 g19 g20 g21 g22 g23 g24 g25 g26 g27 g28 gi29 gi30 (nI mv) (nI tt) g33 g34 g35 g36 g37 g38 g39 (nI pa) g41 g42 0 g44 g45), (aIc cI g27 8 G27), (aIc cI g39 8 G39), (aIc cI g41 9 (upd a_g41_7 (Int32.toNatClampNeg (nI i7)) v63)), (aIc cI g42 192 G42)]) hP hD (fun hP hD => ?_)
        refine lv_iinc (v := (nI (i7 + 1))) (lv' := [(1, .int (nI (i7 + 1))), (0, .ref g)]) hx hb dX8_recovers_32 hl (k := 0) rfl (nI_1 _) (by decide) rfl (fun ls hl => ?_)
        refine lv_goto (tgt := 7) hx hb dX8_recovers_35 (by decide) ?_
        exact ih7 (i7 + 1) (upd a_g41_7 (Int32.toNatClampNeg (nI i7)) v63) (by omega) (bi_up (by omega) hbv hbi_7) (by omega) _ _ _ hP hD hS (lv_sub hl [0, 1] rfl)
  exact J7 _ 0 G41 (by omega) (fun k hk => absurd hk (Nat.not_lt_zero k)) (Nat.lt_succ_self _) _ _ _ hP hD hS (lv_sub hl [0, 1] rfl)

