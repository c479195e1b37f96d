theorem vi_n {x : Int32} {n : Nat} (h1 : ¬ x < 0) (h2 : ¬ Int32.ofNat n ≤ x) (hn : n < 2 ^ 31) : vp_in x n := by
  rcases pk_ix x hn with h | h | ⟨j, hj, rfl⟩
  · exact absurd h h1
  · exact absurd h h2
  · exact vp_in_nI hj hn
theorem n8 {k : Int32} (h : k ≤ 7) : ¬ Int32.ofNat 8 ≤ k := fun q => absurd (Int32.le_trans q h) (by decide)
theorem no6 {x : Int32} (c0 : ¬ x = 0) (c1 : ¬ x = 1) (c2 : ¬ x = 2) (c3 : ¬ x = 3) (c4 : ¬ x = 4) (c5 : ¬ x = 5) : ¬ (0 ≤ x ∧ x ≤ 5) := fun h => by
  have h1 := Int32.le_iff_toInt_le.mp h.1
  have h2 := Int32.le_iff_toInt_le.mp h.2
  rw [show Int32.toInt 0 = 0 from rfl] at h1
  rw [show Int32.toInt 5 = 5 from rfl] at h2
  have := sw_out6 c0 c1 c2 c3 c4 c5
  omega
def fz (P : Prop) [Decidable P] : Int32 := if P then -2 else -1
theorem fz_t {P : Prop} [Decidable P] (h : P) : (-2 : Int32) = fz P := by rw [fz, if_pos h]
theorem fz_f {P : Prop} [Decidable P] (h : ¬ P) : (-1 : Int32) = fz P := by rw [fz, if_neg h]
theorem vi_32 {a b : Int32} (h : (0 ≤ a ∧ a ≤ 3) ∧ 0 ≤ b ∧ b ≤ 7) : vp_in (a * 8 + b) 32 := by
  obtain ⟨⟨h1, h2⟩, h3, h4⟩ := h
  obtain ⟨i, hi, rfl⟩ := nI_of2 (n := 3) rfl (Int32.not_lt.mpr h1) h2
  obtain ⟨j, hj, rfl⟩ := nI_of2 (n := 7) rfl (Int32.not_lt.mpr h3) h4
  have e : nI i * 8 + nI j = nI (i * 8 + j) := by rw [show (8 : Int32) = nI 8 from rfl, pk_mul, nI_add]
  rw [e]
  exact vp_in_nI (by omega) (by decide)
theorem vi_32' {a b : Int32} (h : (0 ≤ a ∧ a ≤ 3) ∧ 0 ≤ b ∧ b ≤ 7) : vp_in (8 * a + b) 32 := by
  rw [Int32.mul_comm]; exact vi_32 h
theorem fl_in {n : Nat} {v x : Int32} {f : Nat → Int32} (h : vp_in x n) : fl n v f (Int32.toNatClampNeg x) = v := by
  unfold fl
  rw [if_pos (Nat.lt_of_not_le (fun q => h (Or.inr q)))]
theorem dX7_changed_0 : decode cX7_changed 0 = .ok (.iload_n 1, 1) := by decide +kernel
theorem dX7_changed_1 : decode cX7_changed 1 = .ok (.ifCond .lt 16, 3) := by decide +kernel
theorem dX7_changed_4 : decode cX7_changed 4 = .ok (.iload_n 1, 1) := by decide +kernel
theorem dX7_changed_5 : decode cX7_changed 5 = .ok (.aload_n 0, 1) := by decide +kernel
theorem dX7_changed_6 : decode cX7_changed 6 = .ok (.arraylength, 1) := by decide +kernel
theorem dX7_changed_7 : decode cX7_changed 7 = .ok (.if_icmp .ge 10, 3) := by decide +kernel
theorem dX7_changed_10 : decode cX7_changed 10 = .ok (.aload_n 0, 1) := by decide +kernel
theorem dX7_changed_11 : decode cX7_changed 11 = .ok (.iload_n 1, 1) := by decide +kernel
theorem dX7_changed_12 : decode cX7_changed 12 = .ok (.iaload, 1) := by decide +kernel
theorem dX7_changed_13 : decode cX7_changed 13 = .ok (.iload_n 2, 1) := by decide +kernel
theorem dX7_changed_14 : decode cX7_changed 14 = .ok (.if_icmp .ne 5, 3) := by decide +kernel
theorem dX7_changed_17 : decode cX7_changed 17 = .ok (.iconst 0, 1) := by decide +kernel
theorem dX7_changed_18 : decode cX7_changed 18 = .ok (.ireturn, 1) := by decide +kernel
theorem dX7_changed_19 : decode cX7_changed 19 = .ok (.aload_n 0, 1) := by decide +kernel
theorem dX7_changed_20 : decode cX7_changed 20 = .ok (.iload_n 1, 1) := by decide +kernel
theorem dX7_changed_21 : decode cX7_changed 21 = .ok (.iload_n 2, 1) := by decide +kernel
theorem dX7_changed_22 : decode cX7_changed 22 = .ok (.iastore, 1) := by decide +kernel
theorem dX7_changed_23 : decode cX7_changed 23 = .ok (.iconst 1, 1) := by decide +kernel
theorem dX7_changed_24 : decode cX7_changed 24 = .ok (.ireturn, 1) := by decide +kernel
set_option maxHeartbeats 4000000 in
set_option maxRecDepth 100000 in
/-- changed (what lies there afterwards is not told) -/
theorem m_X7_changed (l : Launch) (D : va_G) (cI cJ : ClassId) (sz : Nat) (a n : Nat) (k v : Int32) (f : Nat → Int32) (hn : n < 2 ^ 31) : Met l yX7_changed wsX7_changed { frames := 0, cells := 0, slots := 0, locals := 0 } (cPc D cI cJ [.ref a, .int k, .int v] sz [(a, .inl (cI, n, .inl f))]) (cQi D (fun r u => r = bz (¬ k < 0 ∧ ¬ Int32.ofNat n ≤ k ∧ ¬ f (Int32.toNatClampNeg k) = v) ∧ u = []) (va_A [(a, .inl (cI, n, .inl f))] sz)) 0 0 (va_A [(a, .inl (cI, n, .inl f))] sz) := by
  refine k_ofW (Qc := cQi D (fun r u => r = bz (¬ k < 0 ∧ ¬ Int32.ofNat n ≤ k ∧ ¬ f (Int32.toNatClampNeg k) = v) ∧ u = [])) (by decide) rfl (Nat.le_of_ble_eq_true rfl) ?_
  intro p e s m below meth c A ls hx hb hr hml hts hown hlk hnm hsz hE hP hD hS hA hl
  have hown : s.vm.findClass RX7 = some m.cls := hown
  have hl : lv_has ls 3 [(0, .ref a), (1, .int k), (2, .int v)] := hl
  refine lv_iload_n hx hb dX7_changed_0 rfl (lv_at hl 1 rfl) ?_
  refine lv_if_lt (tgt := 17) hx hb dX7_changed_1 (by decide) (fun c1 => ?_) (fun c1 => ?_)
  · skip
    refine lv_iconst (v := 0) hx hb dX7_changed_17 (by decide) ?_
    refine k_zret (u := []) hx hb hr (by decide) hlk (k_sub hP [] rfl) (hD.sub [] (by decide) rfl) hS dX7_changed_18 ?_
    exact ⟨bz_f (fun q => q.1 c1), rfl⟩
  · skip
    refine lv_iload_n hx hb dX7_changed_4 rfl (lv_at hl 1 rfl) ?_
    refine lv_aload_n hx hb dX7_changed_5 rfl (lv_at hl 0 rfl) ?_
    refine va_alen hx hb hE.1 hP 0 0 rfl rfl rfl dX7_changed_6 ?_
    refine lv_icmp_ge (tgt := 17) hx hb dX7_changed_7 (by decide) (fun c2 => ?_) (fun c2 => ?_)
    · skip
      refine lv_iconst (v := 0) hx hb dX7_changed_17 (by decide) ?_
      refine k_zret (u := []) hx hb hr (by decide) hlk (k_sub hP [] rfl) (hD.sub [] (by decide) rfl) hS dX7_changed_18 ?_
      exact ⟨bz_f (fun q => q.2.1 c2), rfl⟩
    · skip
      refine lv_aload_n hx hb dX7_changed_10 rfl (lv_at hl 0 rfl) ?_
      refine lv_iload_n hx hb dX7_changed_11 rfl (lv_at hl 1 rfl) ?_
      refine va_iald hx hb hE.1 hP 0 0 rfl rfl (vi_n c1 c2 hn) dX7_changed_12 ?_
      refine lv_iload_n hx hb dX7_changed_13 rfl (lv_at hl 2 rfl) ?_
      refine lv_icmp_ne (tgt := 19) hx hb dX7_changed_14 (by decide) (fun c3 => ?_) (fun c3 => ?_)
      · skip
        refine lv_aload_n hx hb dX7_changed_19 rfl (lv_at hl 0 rfl) ?_
        refine lv_iload_n hx hb dX7_changed_20 rfl (lv_at hl 1 rfl) ?_
        refine lv_iload_n hx hb dX7_changed_21 rfl (lv_at hl 2 rfl) ?_
        refine va_iast hx hb hE.1 hP hD hS 0 0 rfl rfl (vi_n c1 c2 hn) dX7_changed_22 (fun H locs hP hD hS => ?_)
        have hP : va_P D vwCl [(a, .inl (cI, n, .inl (upd f (Int32.toNatClampNeg k) v)))] H := hP
        have hD : va_D A [(a, .inl (cI, n, .inl (upd f (Int32.toNatClampNeg k) v)))] := hD
        refine lv_iconst (v := 1) hx hb dX7_changed_23 (by decide) ?_
        refine k_zret (u := []) hx hb hr (by decide) hlk (k_sub hP [] rfl) (hD.sub [] (by decide) rfl) hS dX7_changed_24 ?_
        exact ⟨bz_t ⟨c1, c2, c3⟩, rfl⟩
      · skip
        refine lv_iconst (v := 0) hx hb dX7_changed_17 (by decide) ?_
        refine k_zret (u := []) hx hb hr (by decide) hlk (k_sub hP [] rfl) (hD.sub [] (by decide) rfl) hS dX7_changed_18 ?_
        exact ⟨bz_f (fun q => q.2.2 c3), rfl⟩
theorem dX7_value_0 : decode cX7_value 0 = .ok (.iload_n 1, 1) := by decide +kernel
theorem dX7_value_1 : decode cX7_value 1 = .ok (.ifCond .eq 41, 3) := by decide +kernel
theorem dX7_value_4 : decode cX7_value 4 = .ok (.iload_n 2, 1) := by decide +kernel
theorem dX7_value_5 : decode cX7_value 5 = .ok (.invokestatic 91, 3) := by decide +kernel
theorem dX7_value_8 : decode cX7_value 8 = .ok (.ifCond .eq 32, 3) := by decide +kernel
theorem dX7_value_11 : decode cX7_value 11 = .ok (.iload_n 3, 1) := by decide +kernel
theorem dX7_value_12 : decode cX7_value 12 = .ok (.iconst 0, 1) := by decide +kernel
theorem dX7_value_13 : decode cX7_value 13 = .ok (.ldc 51, 2) := by decide +kernel
theorem dX7_value_15 : decode cX7_value 15 = .ok (.invokestatic 47, 3) := by decide +kernel
theorem dX7_value_18 : decode cX7_value 18 = .ok (.ifCond .eq 22, 3) := by decide +kernel
theorem dX7_value_21 : decode cX7_value 21 = .ok (.aload_n 0, 1) := by decide +kernel
theorem dX7_value_22 : decode cX7_value 22 = .ok (.getfield 20, 3) := by decide +kernel
theorem dX7_value_25 : decode cX7_value 25 = .ok (.getfield 97, 3) := by decide +kernel
theorem dX7_value_28 : decode cX7_value 28 = .ok (.iload_n 2, 1) := by decide +kernel
theorem dX7_value_29 : decode cX7_value 29 = .ok (.iload_n 3, 1) := by decide +kernel
theorem dX7_value_30 : decode cX7_value 30 = .ok (.invokestatic 87, 3) := by decide +kernel
theorem dX7_value_33 : decode cX7_value 33 = .ok (.ifCond .eq 7, 3) := by decide +kernel
theorem dX7_value_36 : decode cX7_value 36 = .ok (.iconst 1, 1) := by decide +kernel
theorem dX7_value_37 : decode cX7_value 37 = .ok (.goto 4, 3) := by decide +kernel
theorem dX7_value_40 : decode cX7_value 40 = .ok (.iconst 0, 1) := by decide +kernel
theorem dX7_value_41 : decode cX7_value 41 = .ok (.ireturn, 1) := by decide +kernel
theorem dX7_value_42 : decode cX7_value 42 = .ok (.aload_n 0, 1) := by decide +kernel
theorem dX7_value_43 : decode cX7_value 43 = .ok (.iload_n 2, 1) := by decide +kernel
theorem dX7_value_44 : decode cX7_value 44 = .ok (.invokevirtual 74, 3) := by decide +kernel
theorem dX7_value_47 : decode cX7_value 47 = .ok (.ifCond .eq 32, 3) := by decide +kernel
theorem dX7_value_79 : decode cX7_value 79 = .ok (.iconst 0, 1) := by decide +kernel
theorem dX7_value_80 : decode cX7_value 80 = .ok (.ireturn, 1) := by decide +kernel
set_option maxRecDepth 20000 in
theorem ggX7_value_X7_changed : GoodIn wsX7_value wsX7_changed := goodIn_r _ [15] (by decide +kernel) (by decide +kernel)
set_option maxRecDepth 20000 in
theorem gX7_value_X7_changed : GoodIn wsX7_value (va_wsS RX7 87 yX7_changed wsX7_changed) := goodIn_app (goodIn_of _ (by decide +kernel)) ggX7_value_X7_changed
set_option maxRecDepth 20000 in
theorem ggX7_value_X7_isItem : GoodIn wsX7_value wsX7_isItem := goodIn_r _ [9, 10, 11, 8, 12] (by decide +kernel) (by decide +kernel)
set_option maxRecDepth 20000 in
theorem gX7_value_X7_isItem : GoodIn wsX7_value (va_wsS RX7 91 yX7_isItem wsX7_isItem) := goodIn_app (goodIn_of _ (by decide +kernel)) ggX7_value_X7_isItem
set_option maxRecDepth 20000 in
theorem ggX7_value_X7_isPolicy : GoodIn wsX7_value wsX7_isPolicy := goodIn_r _ [19, 2, 20, 10, 11, 8, 12, 21, 22, 23, 24, 25, 26, 27, 28, 29, 30, 31, 32, 33, 34, 35, 36, 37, 38, 39, 40, 41] (by decide +kernel) (by decide +kernel)
set_option maxRecDepth 20000 in
theorem gX7_value_X7_isPolicy : GoodIn wsX7_value (wsV RX7 74 RX7 yX7_isPolicy wsX7_isPolicy) := goodIn_app (goodIn_of _ (by decide +kernel)) ggX7_value_X7_isPolicy
set_option maxRecDepth 20000 in
theorem ggX7_value_X7_within : GoodIn wsX7_value wsX7_within := goodIn_r _ [12] (by decide +kernel) (by decide +kernel)
set_option maxRecDepth 20000 in
theorem gX7_value_X7_within : GoodIn wsX7_value (va_wsS RX7 47 yX7_within wsX7_within) := goodIn_app (goodIn_of _ (by decide +kernel)) ggX7_value_X7_within
set_option maxHeartbeats 4000000 in
set_option maxRecDepth 100000 in
theorem f_X7_value (l : Launch) (D : va_G) (cI cJ : ClassId) (sz : Nat) (x x0 x1 x2 x3 x4 x5 b0 b1 b2 b3 b4 b5 b6 b7 b8 b9 b10 b11 : Nat) (p0 p1 p2 : Int32) : Met l yX7_value wsX7_value { frames := 2, cells := 0, slots := 0, locals := 43 } (cPc D cI cJ [.ref x, .int p0, .int p1, .int p2] sz [(x, .inr (7, [.ref x0, .ref x1, .ref x2, .ref x3, .ref x4, .ref x5])), (x0, .inr (0, [.ref b0, .ref b1, .ref b2, .ref b3, .ref b4, .ref b5, .ref b6, .ref b7, .ref b8, .ref b9, .ref b10, .ref b11, .int 0, .int 0, .int 0])), (b9, .inl (cI, 8, .inl (fun _ => 0)))]) (cQi D (fun r u => r = (if p0 = 0 then 0 else bz ((0 ≤ p1 ∧ p1 ≤ 7) ∧ (0 ≤ p2 ∧ p2 ≤ 9000000) ∧ ¬ p2 = 0)) ∧ u = []) (va_A [(x, .inr (7, [.ref x0, .ref x1, .ref x2, .ref x3, .ref x4, .ref x5])), (x0, .inr (0, [.ref b0, .ref b1, .ref b2, .ref b3, .ref b4, .ref b5, .ref b6, .ref b7, .ref b8, .ref b9, .ref b10, .ref b11, .int 0, .int 0, .int 0])), (b9, .inl (cI, 8, .inl (fun _ => 0)))] sz)) 0 0 (va_A [(x, .inr (7, [.ref x0, .ref x1, .ref x2, .ref x3, .ref x4, .ref x5])), (x0, .inr (0, [.ref b0, .ref b1, .ref b2, .ref b3, .ref b4, .ref b5, .ref b6, .ref b7, .ref b8, .ref b9, .ref b10, .ref b11, .int 0, .int 0, .int 0])), (b9, .inl (cI, 8, .inl (fun _ => 0)))] sz) := by
  refine k_ofW (Qc := cQi D (fun r u => r = (if p0 = 0 then 0 else bz ((0 ≤ p1 ∧ p1 ≤ 7) ∧ (0 ≤ p2 ∧ p2 ≤ 9000000) ∧ ¬ p2 = 0)) ∧ u = [])) (by decide) rfl (Nat.le_of_ble_eq_true rfl) ?_
  intro p e s m below meth c A ls hx hb hr hml hts hown hlk hnm hsz hE hP hD hS hA hl
  have hown : s.vm.findClass RX7 = some m.cls := hown
  have hiX7 : ∀ w ∈ u_ws RX7 TX7 6, w ∈ wsX7_value := fun w h => List.mem_cons_of_mem _ (List.mem_append_left _ (List.mem_append_right _ h))
  have hiX0 : ∀ w ∈ u_ws RX0 TX0 15, w ∈ wsX7_value := fun w h => List.mem_cons_of_mem _ (List.mem_append_right _ h)
  have hl : lv_has ls 4 [(0, .ref x), (1, .int p0), (2, .int p1), (3, .int p2)] := hl
  refine lv_iload_n hx hb dX7_value_0 rfl (lv_at hl 1 rfl) ?_
  refine lv_if_eq (tgt := 42) hx hb dX7_value_1 (by decide) (fun c1 => ?_) (fun c1 => ?_)
  · skip
    refine lv_aload_n hx hb dX7_value_42 rfl (lv_at hl 0 rfl) ?_
    refine lv_iload_n hx hb dX7_value_43 rfl (lv_at hl 2 rfl) ?_
    refine k_i (va_runV (As := [.int p1]) (rest := []) ⟨hx, hb, hml, hown, hts⟩ (m_X7_isPolicy l D cI cJ (s.heap).size x x0 x1 x2 x3 x4 x5 b0 b1 b2 b3 b4 b5 b6 b7 b8 b9 b10 b11 0 0 0 p1) (cwV 1 hts gX7_value_X7_isPolicy rfl rfl rfl (by decide +kernel) ⟨Nat.le_of_ble_eq_true rfl, Nat.le_of_ble_eq_true rfl⟩) (k_preV hE hP hD [0, 1] (by decide) rfl 0 rfl rfl) rfl rfl hl.1 rfl (lv_room (Nat.le_of_ble_eq_true rfl)) dX7_value_44 ⟨Nat.le_of_ble_eq_true rfl, Nat.le_of_ble_eq_true rfl⟩) hP hD hS hA [0, 1] [2] rfl (wr := [(b9, .inl (cI, 8, .inl (fun _ => 0)))]) rfl (by decide) (by decide) (fun r2 u H locs hw3 hP hD hS => ?_)
    obtain ⟨hw3, rfl⟩ := hw3
    obtain rfl : r2 = 0 := by rw [hw3]; exact bz_z (nofit _)
    have hP : va_P D vwCl [(b9, .inl (cI, 8, .inl (fun _ => 0))), (x, .inr (7, [.ref x0, .ref x1, .ref x2, .ref x3, .ref x4, .ref x5])), (x0, .inr (0, [.ref b0, .ref b1, .ref b2, .ref b3, .ref b4, .ref b5, .ref b6, .ref b7, .ref b8, .ref b9, .ref b10, .ref b11, .int 0, .int 0, .int 0]))] H := hP
    have hD : va_D A [(b9, .inl (cI, 8, .inl (fun _ => 0))), (x, .inr (7, [.ref x0, .ref x1, .ref x2, .ref x3, .ref x4, .ref x5])), (x0, .inr (0, [.ref b0, .ref b1, .ref b2, .ref b3, .ref b4, .ref b5, .ref b6, .ref b7, .ref b8, .ref b9, .ref b10, .ref b11, .int 0, .int 0, .int 0]))] := hD
    refine lv_if_eq (tgt := 79) hx hb dX7_value_47 (by decide) (fun _ => ?_) (fun c4 => absurd (by decide) c4)
    refine lv_iconst (v := 0) hx hb dX7_value_79 (by decide) ?_
    refine k_zret (u := []) hx hb hr (by decide) hlk (k_sub hP [] rfl) (hD.sub [] (by decide) rfl) hS dX7_value_80 ?_
    exact ⟨by rw [if_pos c1], rfl⟩
  · skip
    refine lv_iload_n hx hb dX7_value_4 rfl (lv_at hl 2 rfl) ?_
    refine k_i (va_runS (As := [.int p1]) (rest := []) ⟨hx, hb, hml, hown, hts⟩ (m_X7_isItem l D cI cJ (s.heap).size p1) (va_cwS 1 hts gX7_value_X7_isItem rfl rfl rfl (by decide +kernel) ⟨Nat.le_of_ble_eq_true rfl, Nat.le_of_ble_eq_true rfl⟩) (k_pre hE hP hD [] (by decide) rfl) rfl rfl hl.1 rfl (lv_room (Nat.le_of_ble_eq_true rfl)) dX7_value_5 ⟨Nat.le_of_ble_eq_true rfl, Nat.le_of_ble_eq_true rfl⟩) hP hD hS hA [] [0, 1, 2] rfl (wr := [(x, .inr (7, [.ref x0, .ref x1, .ref x2, .ref x3, .ref x4, .ref x5])), (x0, .inr (0, [.ref b0, .ref b1, .ref b2, .ref b3, .ref b4, .ref b5, .ref b6, .ref b7, .ref b8, .ref b9, .ref b10, .ref b11, .int 0, .int 0, .int 0])), (b9, .inl (cI, 8, .inl (fun _ => 0)))]) rfl (by decide) (by decide) (fun r5 u H locs hw6 hP hD hS => ?_)
    obtain ⟨hw6, rfl⟩ := hw6
    have hP : va_P D vwCl [(x, .inr (7, [.ref x0, .ref x1, .ref x2, .ref x3, .ref x4, .ref x5])), (x0, .inr (0, [.ref b0, .ref b1, .ref b2, .ref b3, .ref b4, .ref b5, .ref b6, .ref b7, .ref b8, .ref b9, .ref b10, .ref b11, .int 0, .int 0, .int 0])), (b9, .inl (cI, 8, .inl (fun _ => 0)))] H := hP
    have hD : va_D A [(x, .inr (7, [.ref x0, .ref x1, .ref x2, .ref x3, .ref x4, .ref x5])), (x0, .inr (0, [.ref b0, .ref b1, .ref b2, .ref b3, .ref b4, .ref b5, .ref b6, .ref b7, .ref b8, .ref b9, .ref b10, .ref b11, .int 0, .int 0, .int 0])), (b9, .inl (cI, 8, .inl (fun _ => 0)))] := hD
    refine lv_if_eq (tgt := 40) hx hb dX7_value_8 (by decide) (fun c7 => ?_) (fun c7 => ?_)
    · skip
      have hc7 : ¬ (0 ≤ p1 ∧ p1 ≤ 7) := bz_0 hw6 c7
      refine lv_iconst (v := 0) hx hb dX7_value_40 (by decide) ?_
      refine k_zret (u := []) hx hb hr (by decide) hlk (k_sub hP [] rfl) (hD.sub [] (by decide) rfl) hS dX7_value_41 ?_
      exact ⟨by rw [if_neg c1]; exact bz_f (fun q => hc7 q.1), rfl⟩
    · skip
      have hc7 : 0 ≤ p1 ∧ p1 ≤ 7 := bz_1 hw6 c7
      refine lv_iload_n hx hb dX7_value_11 rfl (lv_at hl 3 rfl) ?_
      refine lv_iconst (v := 0) hx hb dX7_value_12 (by decide) ?_
      refine lv_ldc (v := 9000000) hx hb hown (hts _ (List.mem_of_getElem? (i := 1) rfl)) dX7_value_13 ?_
      refine k_i (va_runS (As := [.int p2, .int 0, .int 9000000]) (rest := []) ⟨hx, hb, hml, hown, hts⟩ (m_X7_within l D cI cJ H.size p2 0 9000000) (va_cwS 3 hts gX7_value_X7_within rfl rfl rfl (by decide +kernel) ⟨Nat.le_of_ble_eq_true rfl, Nat.le_of_ble_eq_true rfl⟩) (k_pre hE hP hD [] (by decide) rfl) rfl rfl hl.1 rfl (lv_room (Nat.le_of_ble_eq_true rfl)) dX7_value_15 ⟨Nat.le_of_ble_eq_true rfl, Nat.le_of_ble_eq_true rfl⟩) hP hD hS hA [] [0, 1, 2] rfl (wr := [(x, .inr (7, [.ref x0, .ref x1, .ref x2, .ref x3, .ref x4, .ref x5])), (x0, .inr (0, [.ref b0, .ref b1, .ref b2, .ref b3, .ref b4, .ref b5, .ref b6, .ref b7, .ref b8, .ref b9, .ref b10, .ref b11, .int 0, .int 0, .int 0])), (b9, .inl (cI, 8, .inl (fun _ => 0)))]) rfl (by decide) (by decide) (fun r8 u H locs hw9 hP hD hS => ?_)
      obtain ⟨hw9, rfl⟩ := hw9
      have hP : va_P D vwCl [(x, .inr (7, [.ref x0, .ref x1, .ref x2, .ref x3, .ref x4, .ref x5])), (x0, .inr (0, [.ref b0, .ref b1, .ref b2, .ref b3, .ref b4, .ref b5, .ref b6, .ref b7, .ref b8, .ref b9, .ref b10, .ref b11, .int 0, .int 0, .int 0])), (b9, .inl (cI, 8, .inl (fun _ => 0)))] H := hP
      have hD : va_D A [(x, .inr (7, [.ref x0, .ref x1, .ref x2, .ref x3, .ref x4, .ref x5])), (x0, .inr (0, [.ref b0, .ref b1, .ref b2, .ref b3, .ref b4, .ref b5, .ref b6, .ref b7, .ref b8, .ref b9, .ref b10, .ref b11, .int 0, .int 0, .int 0])), (b9, .inl (cI, 8, .inl (fun _ => 0)))] := hD
      refine lv_if_eq (tgt := 40) hx hb dX7_value_18 (by decide) (fun c10 => ?_) (fun c10 => ?_)
      · skip
        have hc10 : ¬ (0 ≤ p2 ∧ p2 ≤ 9000000) := bz_0 hw9 c10
        refine lv_iconst (v := 0) hx hb dX7_value_40 (by decide) ?_
        refine k_zret (u := []) hx hb hr (by decide) hlk (k_sub hP [] rfl) (hD.sub [] (by decide) rfl) hS dX7_value_41 ?_
        exact ⟨by rw [if_neg c1]; exact bz_f (fun q => hc10 q.2.1), rfl⟩
      · skip
        have hc10 : 0 ≤ p2 ∧ p2 ≤ 9000000 := bz_1 hw9 c10
        refine lv_aload_n hx hb dX7_value_21 rfl (lv_at hl 0 rfl) ?_
        refine va_get (D := D) (ci := 7) (v := .ref x0) (C := RX7) (T := TX7) (N := 6) hx hb hts hiX7 hown hE.1 hP 0 rfl rfl 0 (by decide) (hts _ (List.mem_of_getElem? (i := 2) rfl)) (fun _ h9 => h9) rfl dX7_value_22 ?_
        refine va_get (D := D) (ci := 0) (v := .ref b9) (C := RX0) (T := TX0) (N := 15) hx hb hts hiX0 hown hE.1 hP 1 rfl rfl 9 (by decide) (hts _ (List.mem_of_getElem? (i := 3) rfl)) (fun _ h9 => h9) rfl dX7_value_25 ?_
        refine lv_iload_n hx hb dX7_value_28 rfl (lv_at hl 2 rfl) ?_
        refine lv_iload_n hx hb dX7_value_29 rfl (lv_at hl 3 rfl) ?_
        refine k_i (va_runS (As := [.ref b9, .int p1, .int p2]) (rest := []) ⟨hx, hb, hml, hown, hts⟩ (m_X7_changed l D cI cJ H.size b9 8 p1 p2 (fun _ => 0) (by decide)) (va_cwS 3 hts gX7_value_X7_changed rfl rfl rfl (by decide +kernel) ⟨Nat.le_of_ble_eq_true rfl, Nat.le_of_ble_eq_true rfl⟩) (k_pre hE hP hD [2] (by decide) rfl) rfl rfl hl.1 rfl (lv_room (Nat.le_of_ble_eq_true rfl)) dX7_value_30 ⟨Nat.le_of_ble_eq_true rfl, Nat.le_of_ble_eq_true rfl⟩) hP hD hS hA [2] [0, 1] rfl (wr := [(x, .inr (7, [.ref x0, .ref x1, .ref x2, .ref x3, .ref x4, .ref x5])), (x0, .inr (0, [.ref b0, .ref b1, .ref b2, .ref b3, .ref b4, .ref b5, .ref b6, .ref b7, .ref b8, .ref b9, .ref b10, .ref b11, .int 0, .int 0, .int 0]))]) rfl (by decide) (by decide) (fun r11 u H locs hw12 hP hD hS => ?_)
        obtain ⟨hw12, rfl⟩ := hw12
        have hw13 : r11 = bz (¬ p2 = 0) := by rw [hw12]; exact bz_c (⟨fun h q => h.2.2 q.symm, fun h => ⟨Int32.not_lt.mpr hc7.1, n8 hc7.2, fun q => h q.symm⟩⟩)
        have hP : va_P D vwCl [(x, .inr (7, [.ref x0, .ref x1, .ref x2, .ref x3, .ref x4, .ref x5])), (x0, .inr (0, [.ref b0, .ref b1, .ref b2, .ref b3, .ref b4, .ref b5, .ref b6, .ref b7, .ref b8, .ref b9, .ref b10, .ref b11, .int 0, .int 0, .int 0]))] H := hP
        have hD : va_D A [(x, .inr (7, [.ref x0, .ref x1, .ref x2, .ref x3, .ref x4, .ref x5])), (x0, .inr (0, [.ref b0, .ref b1, .ref b2, .ref b3, .ref b4, .ref b5, .ref b6, .ref b7, .ref b8, .ref b9, .ref b10, .ref b11, .int 0, .int 0, .int 0]))] := hD
        refine lv_if_eq (tgt := 40) hx hb dX7_value_33 (by decide) (fun c14 => ?_) (fun c14 => ?_)
        · skip
          have hc14 : ¬ (¬ p2 = 0) := bz_0 hw13 c14
          refine lv_iconst (v := 0) hx hb dX7_value_40 (by decide) ?_
          refine k_zret (u := []) hx hb hr (by decide) hlk (k_sub hP [] rfl) (hD.sub [] (by decide) rfl) hS dX7_value_41 ?_
          exact ⟨by rw [if_neg c1]; exact bz_f (fun q => hc14 q.2.2), rfl⟩
        · skip
          have hc14 : ¬ p2 = 0 := bz_1 hw13 c14
          refine lv_iconst (v := 1) hx hb dX7_value_36 (by decide) ?_
          refine lv_goto (tgt := 41) hx hb dX7_value_37 (by decide) ?_
          refine k_zret (u := []) hx hb hr (by decide) hlk (k_sub hP [] rfl) (hD.sub [] (by decide) rfl) hS dX7_value_41 ?_
          exact ⟨by rw [if_neg c1]; exact bz_t ⟨hc7, hc10, hc14⟩, rfl⟩
theorem dX7_file_0 : decode cX7_file 0 = .ok (.iload_n 1, 1) := by decide +kernel
theorem dX7_file_1 : decode cX7_file 1 = .ok (.iload_n 2, 1) := by decide +kernel
theorem dX7_file_2 : decode cX7_file 2 = .ok (.invokestatic 325, 3) := by decide +kernel
theorem dX7_file_5 : decode cX7_file 5 = .ok (.ifCond .eq 11, 3) := by decide +kernel
theorem dX7_file_8 : decode cX7_file 8 = .ok (.aload_n 0, 1) := by decide +kernel
theorem dX7_file_9 : decode cX7_file 9 = .ok (.iload_n 3, 1) := by decide +kernel
theorem dX7_file_10 : decode cX7_file 10 = .ok (.invokevirtual 74, 3) := by decide +kernel
theorem dX7_file_13 : decode cX7_file 13 = .ok (.ifCond .ne 5, 3) := by decide +kernel
theorem dX7_file_16 : decode cX7_file 16 = .ok (.iconst (-1), 1) := by decide +kernel
theorem dX7_file_17 : decode cX7_file 17 = .ok (.ireturn, 1) := by decide +kernel
set_option maxRecDepth 20000 in
theorem ggX7_file_X7_isPlace : GoodIn wsX7_file wsX7_isPlace := goodIn_r _ [8, 9, 10, 7, 11] (by decide +kernel) (by decide +kernel)
set_option maxRecDepth 20000 in
theorem gX7_file_X7_isPlace : GoodIn wsX7_file (va_wsS RX7 325 yX7_isPlace wsX7_isPlace) := goodIn_app (goodIn_of _ (by decide +kernel)) ggX7_file_X7_isPlace
set_option maxRecDepth 20000 in
theorem ggX7_file_X7_isPolicy : GoodIn wsX7_file wsX7_isPolicy := goodIn_r _ [15, 1, 16, 9, 10, 7, 11, 24, 25, 26, 27, 28, 29, 30, 31, 32, 33, 34, 35, 36, 37, 38, 39, 40, 41, 42, 43, 44] (by decide +kernel) (by decide +kernel)
set_option maxRecDepth 20000 in
theorem gX7_file_X7_isPolicy : GoodIn wsX7_file (wsV RX7 74 RX7 yX7_isPolicy wsX7_isPolicy) := goodIn_app (goodIn_of _ (by decide +kernel)) ggX7_file_X7_isPolicy
set_option maxHeartbeats 4000000 in
set_option maxRecDepth 100000 in
theorem f_X7_file (l : Launch) (D : va_G) (cI cJ : ClassId) (sz : Nat) (x x0 x1 x2 x3 x4 x5 b0 b1 b2 b3 b4 b5 b6 b7 b8 b9 b10 b11 : Nat) (p0 p1 p2 : Int32) : Met l yX7_file wsX7_file { frames := 2, cells := 0, slots := 0, locals := 43 } (cPc D cI cJ [.ref x, .int p0, .int p1, .int p2] sz [(x, .inr (7, [.ref x0, .ref x1, .ref x2, .ref x3, .ref x4, .ref x5])), (x0, .inr (0, [.ref b0, .ref b1, .ref b2, .ref b3, .ref b4, .ref b5, .ref b6, .ref b7, .ref b8, .ref b9, .ref b10, .ref b11, .int 0, .int 0, .int 0]))]) (cQi D (fun r u => r = -1 ∧ u = []) (va_A [(x, .inr (7, [.ref x0, .ref x1, .ref x2, .ref x3, .ref x4, .ref x5])), (x0, .inr (0, [.ref b0, .ref b1, .ref b2, .ref b3, .ref b4, .ref b5, .ref b6, .ref b7, .ref b8, .ref b9, .ref b10, .ref b11, .int 0, .int 0, .int 0]))] sz)) 0 0 (va_A [(x, .inr (7, [.ref x0, .ref x1, .ref x2, .ref x3, .ref x4, .ref x5])), (x0, .inr (0, [.ref b0, .ref b1, .ref b2, .ref b3, .ref b4, .ref b5, .ref b6, .ref b7, .ref b8, .ref b9, .ref b10, .ref b11, .int 0, .int 0, .int 0]))] sz) := by
  refine k_ofW (Qc := cQi D (fun r u => r = -1 ∧ u = [])) (by decide) rfl (Nat.le_of_ble_eq_true rfl) ?_
  intro p e s m below meth c A ls hx hb hr hml hts hown hlk hnm hsz hE hP hD hS hA hl
  have hown : s.vm.findClass RX7 = some m.cls := hown
  have hl : lv_has ls 4 [(0, .ref x), (1, .int p0), (2, .int p1), (3, .int p2)] := hl
  refine lv_iload_n hx hb dX7_file_0 rfl (lv_at hl 1 rfl) ?_
  refine lv_iload_n hx hb dX7_file_1 rfl (lv_at hl 2 rfl) ?_
  refine k_i (va_runS (As := [.int p0, .int p1]) (rest := []) ⟨hx, hb, hml, hown, hts⟩ (m_X7_isPlace l D cI cJ (s.heap).size p0 p1) (va_cwS 2 hts gX7_file_X7_isPlace rfl rfl rfl (by decide +kernel) ⟨Nat.le_of_ble_eq_true rfl, Nat.le_of_ble_eq_true rfl⟩) (k_pre hE hP hD [] (by decide) rfl) rfl rfl hl.1 rfl (lv_room (Nat.le_of_ble_eq_true rfl)) dX7_file_2 ⟨Nat.le_of_ble_eq_true rfl, Nat.le_of_ble_eq_true rfl⟩) hP hD hS hA [] [0, 1] rfl (wr := [(x, .inr (7, [.ref x0, .ref x1, .ref x2, .ref x3, .ref x4, .ref x5])), (x0, .inr (0, [.ref b0, .ref b1, .ref b2, .ref b3, .ref b4, .ref b5, .ref b6, .ref b7, .ref b8, .ref b9, .ref b10, .ref b11, .int 0, .int 0, .int 0]))]) rfl (by decide) (by decide) (fun r1 u H locs hw2 hP hD hS => ?_)
  obtain ⟨hw2, rfl⟩ := hw2
  have hP : va_P D vwCl [(x, .inr (7, [.ref x0, .ref x1, .ref x2, .ref x3, .ref x4, .ref x5])), (x0, .inr (0, [.ref b0, .ref b1, .ref b2, .ref b3, .ref b4, .ref b5, .ref b6, .ref b7, .ref b8, .ref b9, .ref b10, .ref b11, .int 0, .int 0, .int 0]))] H := hP
  have hD : va_D A [(x, .inr (7, [.ref x0, .ref x1, .ref x2, .ref x3, .ref x4, .ref x5])), (x0, .inr (0, [.ref b0, .ref b1, .ref b2, .ref b3, .ref b4, .ref b5, .ref b6, .ref b7, .ref b8, .ref b9, .ref b10, .ref b11, .int 0, .int 0, .int 0]))] := hD
  refine lv_if_eq (tgt := 16) hx hb dX7_file_5 (by decide) (fun c3 => ?_) (fun c3 => ?_)
  · skip
    have hc3 : ¬ ((0 ≤ p0 ∧ p0 ≤ 3) ∧ 0 ≤ p1 ∧ p1 ≤ 7) := bz_0 hw2 c3
    refine lv_iconst (v := (-1)) hx hb dX7_file_16 (by decide) ?_
    refine k_iret (u := []) hx hb hr hlk (k_sub hP [] rfl) (hD.sub [] (by decide) rfl) hS dX7_file_17 ?_
    exact ⟨rfl, rfl⟩
  · skip
    have hc3 : (0 ≤ p0 ∧ p0 ≤ 3) ∧ 0 ≤ p1 ∧ p1 ≤ 7 := bz_1 hw2 c3
    refine lv_aload_n hx hb dX7_file_8 rfl (lv_at hl 0 rfl) ?_
    refine lv_iload_n hx hb dX7_file_9 rfl (lv_at hl 3 rfl) ?_
    refine k_i (va_runV (As := [.int p2]) (rest := []) ⟨hx, hb, hml, hown, hts⟩ (m_X7_isPolicy l D cI cJ H.size x x0 x1 x2 x3 x4 x5 b0 b1 b2 b3 b4 b5 b6 b7 b8 b9 b10 b11 0 0 0 p2) (cwV 1 hts gX7_file_X7_isPolicy rfl rfl rfl (by decide +kernel) ⟨Nat.le_of_ble_eq_true rfl, Nat.le_of_ble_eq_true rfl⟩) (k_preV hE hP hD [0, 1] (by decide) rfl 0 rfl rfl) rfl rfl hl.1 rfl (lv_room (Nat.le_of_ble_eq_true rfl)) dX7_file_10 ⟨Nat.le_of_ble_eq_true rfl, Nat.le_of_ble_eq_true rfl⟩) hP hD hS hA [0, 1] [] rfl (wr := []) rfl (by decide) (by decide) (fun r4 u H locs hw5 hP hD hS => ?_)
    obtain ⟨hw5, rfl⟩ := hw5
    obtain rfl : r4 = 0 := by rw [hw5]; exact bz_z (nofit _)
    have hP : va_P D vwCl [(x, .inr (7, [.ref x0, .ref x1, .ref x2, .ref x3, .ref x4, .ref x5])), (x0, .inr (0, [.ref b0, .ref b1, .ref b2, .ref b3, .ref b4, .ref b5, .ref b6, .ref b7, .ref b8, .ref b9, .ref b10, .ref b11, .int 0, .int 0, .int 0]))] H := hP
    have hD : va_D A [(x, .inr (7, [.ref x0, .ref x1, .ref x2, .ref x3, .ref x4, .ref x5])), (x0, .inr (0, [.ref b0, .ref b1, .ref b2, .ref b3, .ref b4, .ref b5, .ref b6, .ref b7, .ref b8, .ref b9, .ref b10, .ref b11, .int 0, .int 0, .int 0]))] := hD
    refine lv_if_ne (tgt := 18) hx hb dX7_file_13 (by decide) (fun c6 => absurd c6 (by decide)) (fun _ => ?_)
    refine lv_iconst (v := (-1)) hx hb dX7_file_16 (by decide) ?_
    refine k_iret (u := []) hx hb hr hlk (k_sub hP [] rfl) (hD.sub [] (by decide) rfl) hS dX7_file_17 ?_
    exact ⟨rfl, rfl⟩
theorem dX7_isPolicyOrNone_0 : decode cX7_isPolicyOrNone 0 = .ok (.iload_n 1, 1) := by decide +kernel
theorem dX7_isPolicyOrNone_1 : decode cX7_isPolicyOrNone 1 = .ok (.iconst (-1), 1) := by decide +kernel
theorem dX7_isPolicyOrNone_2 : decode cX7_isPolicyOrNone 2 = .ok (.if_icmp .eq 11, 3) := by decide +kernel
theorem dX7_isPolicyOrNone_5 : decode cX7_isPolicyOrNone 5 = .ok (.aload_n 0, 1) := by decide +kernel
theorem dX7_isPolicyOrNone_6 : decode cX7_isPolicyOrNone 6 = .ok (.iload_n 1, 1) := by decide +kernel
theorem dX7_isPolicyOrNone_7 : decode cX7_isPolicyOrNone 7 = .ok (.invokevirtual 74, 3) := by decide +kernel
theorem dX7_isPolicyOrNone_10 : decode cX7_isPolicyOrNone 10 = .ok (.ifCond .eq 7, 3) := by decide +kernel
theorem dX7_isPolicyOrNone_13 : decode cX7_isPolicyOrNone 13 = .ok (.iconst 1, 1) := by decide +kernel
theorem dX7_isPolicyOrNone_14 : decode cX7_isPolicyOrNone 14 = .ok (.goto 4, 3) := by decide +kernel
theorem dX7_isPolicyOrNone_17 : decode cX7_isPolicyOrNone 17 = .ok (.iconst 0, 1) := by decide +kernel
theorem dX7_isPolicyOrNone_18 : decode cX7_isPolicyOrNone 18 = .ok (.ireturn, 1) := by decide +kernel
set_option maxRecDepth 20000 in
theorem ggX7_isPolicyOrNone_X7_isPolicy : GoodIn wsX7_isPolicyOrNone wsX7_isPolicy := goodIn_r _ [5, 6, 7, 8, 9, 4, 10, 11, 12, 13, 14, 15, 16, 17, 18, 19, 20, 21, 22, 23, 24, 25, 26, 27, 28, 29, 30, 31] (by decide +kernel) (by decide +kernel)
set_option maxRecDepth 20000 in
theorem gX7_isPolicyOrNone_X7_isPolicy : GoodIn wsX7_isPolicyOrNone (wsV RX7 74 RX7 yX7_isPolicy wsX7_isPolicy) := goodIn_app (goodIn_of _ (by decide +kernel)) ggX7_isPolicyOrNone_X7_isPolicy
set_option maxHeartbeats 4000000 in
set_option maxRecDepth 100000 in
theorem m_X7_isPolicyOrNone (l : Launch) (D : va_G) (cI cJ : ClassId) (sz : Nat) (x x0 x1 x2 x3 x4 x5 b0 b1 b2 b3 b4 b5 b6 b7 b8 b9 b10 b11 : Nat) (bi12 bi13 bi14 n : Int32) : Met l yX7_isPolicyOrNone wsX7_isPolicyOrNone { frames := 2, cells := 0, slots := 0, locals := 43 } (cPc D cI cJ [.ref x, .int n] sz [(x, .inr (7, [.ref x0, .ref x1, .ref x2, .ref x3, .ref x4, .ref x5])), (x0, .inr (0, [.ref b0, .ref b1, .ref b2, .ref b3, .ref b4, .ref b5, .ref b6, .ref b7, .ref b8, .ref b9, .ref b10, .ref b11, .int bi12, .int bi13, .int bi14]))]) (cQi D (fun r u => r = bz (n = (-1) ∨ (0 ≤ n ∧ n ≤ bi12 - 1)) ∧ u = [(x, .inr (7, [.ref x0, .ref x1, .ref x2, .ref x3, .ref x4, .ref x5])), (x0, .inr (0, [.ref b0, .ref b1, .ref b2, .ref b3, .ref b4, .ref b5, .ref b6, .ref b7, .ref b8, .ref b9, .ref b10, .ref b11, .int bi12, .int bi13, .int bi14]))]) (va_A [(x, .inr (7, [.ref x0, .ref x1, .ref x2, .ref x3, .ref x4, .ref x5])), (x0, .inr (0, [.ref b0, .ref b1, .ref b2, .ref b3, .ref b4, .ref b5, .ref b6, .ref b7, .ref b8, .ref b9, .ref b10, .ref b11, .int bi12, .int bi13, .int bi14]))] sz)) 0 0 (va_A [(x, .inr (7, [.ref x0, .ref x1, .ref x2, .ref x3, .ref x4, .ref x5])), (x0, .inr (0, [.ref b0, .ref b1, .ref b2, .ref b3, .ref b4, .ref b5, .ref b6, .ref b7, .ref b8, .ref b9, .ref b10, .ref b11, .int bi12, .int bi13, .int bi14]))] sz) := by
  refine k_ofW (Qc := cQi D (fun r u => r = bz (n = (-1) ∨ (0 ≤ n ∧ n ≤ bi12 - 1)) ∧ u = [(x, .inr (7, [.ref x0, .ref x1, .ref x2, .ref x3, .ref x4, .ref x5])), (x0, .inr (0, [.ref b0, .ref b1, .ref b2, .ref b3, .ref b4, .ref b5, .ref b6, .ref b7, .ref b8, .ref b9, .ref b10, .ref b11, .int bi12, .int bi13, .int bi14]))])) (by decide) rfl (Nat.le_of_ble_eq_true rfl) ?_
  intro p e s m below meth c A ls hx hb hr hml hts hown hlk hnm hsz hE hP hD hS hA hl
  have hown : s.vm.findClass RX7 = some m.cls := hown
  have hl : lv_has ls 2 [(0, .ref x), (1, .int n)] := hl
  refine lv_iload_n hx hb dX7_isPolicyOrNone_0 rfl (lv_at hl 1 rfl) ?_
  refine lv_iconst (v := (-1)) hx hb dX7_isPolicyOrNone_1 (by decide) ?_
  refine lv_icmp_eq (tgt := 13) hx hb dX7_isPolicyOrNone_2 (by decide) (fun c1 => ?_) (fun c1 => ?_)
  · skip
    refine lv_iconst (v := 1) hx hb dX7_isPolicyOrNone_13 (by decide) ?_
    refine lv_goto (tgt := 18) hx hb dX7_isPolicyOrNone_14 (by decide) ?_
    refine k_zret (u := [(x, .inr (7, [.ref x0, .ref x1, .ref x2, .ref x3, .ref x4, .ref x5])), (x0, .inr (0, [.ref b0, .ref b1, .ref b2, .ref b3, .ref b4, .ref b5, .ref b6, .ref b7, .ref b8, .ref b9, .ref b10, .ref b11, .int bi12, .int bi13, .int bi14]))]) hx hb hr (by decide) hlk hP hD hS dX7_isPolicyOrNone_18 ?_
    exact ⟨bz_t (Or.inl c1), rfl⟩
  · skip
    refine lv_aload_n hx hb dX7_isPolicyOrNone_5 rfl (lv_at hl 0 rfl) ?_
    refine lv_iload_n hx hb dX7_isPolicyOrNone_6 rfl (lv_at hl 1 rfl) ?_
    refine k_i (va_runV (As := [.int n]) (rest := []) ⟨hx, hb, hml, hown, hts⟩ (m_X7_isPolicy l D cI cJ (s.heap).size x x0 x1 x2 x3 x4 x5 b0 b1 b2 b3 b4 b5 b6 b7 b8 b9 b10 b11 bi12 bi13 bi14 n) (cwV 1 hts gX7_isPolicyOrNone_X7_isPolicy rfl rfl rfl (by decide +kernel) ⟨Nat.le_of_ble_eq_true rfl, Nat.le_of_ble_eq_true rfl⟩) (k_preV hE hP hD [0, 1] (by decide) rfl 0 rfl rfl) rfl rfl hl.1 rfl (lv_room (Nat.le_of_ble_eq_true rfl)) dX7_isPolicyOrNone_7 ⟨Nat.le_of_ble_eq_true rfl, Nat.le_of_ble_eq_true rfl⟩) hP hD hS hA [0, 1] [] rfl (wr := []) rfl (by decide) (by decide) (fun r2 u H locs hw3 hP hD hS => ?_)
    obtain ⟨hw3, rfl⟩ := hw3
    have hP : va_P D vwCl [(x, .inr (7, [.ref x0, .ref x1, .ref x2, .ref x3, .ref x4, .ref x5])), (x0, .inr (0, [.ref b0, .ref b1, .ref b2, .ref b3, .ref b4, .ref b5, .ref b6, .ref b7, .ref b8, .ref b9, .ref b10, .ref b11, .int bi12, .int bi13, .int bi14]))] H := hP
    have hD : va_D A [(x, .inr (7, [.ref x0, .ref x1, .ref x2, .ref x3, .ref x4, .ref x5])), (x0, .inr (0, [.ref b0, .ref b1, .ref b2, .ref b3, .ref b4, .ref b5, .ref b6, .ref b7, .ref b8, .ref b9, .ref b10, .ref b11, .int bi12, .int bi13, .int bi14]))] := hD
    refine lv_if_eq (tgt := 17) hx hb dX7_isPolicyOrNone_10 (by decide) (fun c4 => ?_) (fun c4 => ?_)
    · skip
      have hc4 : ¬ (0 ≤ n ∧ n ≤ bi12 - 1) := bz_0 hw3 c4
      refine lv_iconst (v := 0) hx hb dX7_isPolicyOrNone_17 (by decide) ?_
      refine k_zret (u := [(x, .inr (7, [.ref x0, .ref x1, .ref x2, .ref x3, .ref x4, .ref x5])), (x0, .inr (0, [.ref b0, .ref b1, .ref b2, .ref b3, .ref b4, .ref b5, .ref b6, .ref b7, .ref b8, .ref b9, .ref b10, .ref b11, .int bi12, .int bi13, .int bi14]))]) hx hb hr (by decide) hlk hP hD hS dX7_isPolicyOrNone_18 ?_
      exact ⟨bz_f (fun q => q.elim c1 hc4), rfl⟩
    · skip
      have hc4 : 0 ≤ n ∧ n ≤ bi12 - 1 := bz_1 hw3 c4
      refine lv_iconst (v := 1) hx hb dX7_isPolicyOrNone_13 (by decide) ?_
      refine lv_goto (tgt := 18) hx hb dX7_isPolicyOrNone_14 (by decide) ?_
      refine k_zret (u := [(x, .inr (7, [.ref x0, .ref x1, .ref x2, .ref x3, .ref x4, .ref x5])), (x0, .inr (0, [.ref b0, .ref b1, .ref b2, .ref b3, .ref b4, .ref b5, .ref b6, .ref b7, .ref b8, .ref b9, .ref b10, .ref b11, .int bi12, .int bi13, .int bi14]))]) hx hb hr (by decide) hlk hP hD hS dX7_isPolicyOrNone_18 ?_
      exact ⟨bz_t (Or.inr hc4), rfl⟩
theorem dX7_returned_0 : decode cX7_returned 0 = .ok (.aload_n 0, 1) := by decide +kernel
theorem dX7_returned_1 : decode cX7_returned 1 = .ok (.iload_n 1, 1) := by decide +kernel
theorem dX7_returned_2 : decode cX7_returned 2 = .ok (.invokevirtual 228, 3) := by decide +kernel
theorem dX7_returned_5 : decode cX7_returned 5 = .ok (.ifCond .eq 22, 3) := by decide +kernel
theorem dX7_returned_8 : decode cX7_returned 8 = .ok (.iload_n 2, 1) := by decide +kernel
theorem dX7_returned_9 : decode cX7_returned 9 = .ok (.invokestatic 91, 3) := by decide +kernel
theorem dX7_returned_12 : decode cX7_returned 12 = .ok (.ifCond .eq 15, 3) := by decide +kernel
theorem dX7_returned_15 : decode cX7_returned 15 = .ok (.aload_n 0, 1) := by decide +kernel
theorem dX7_returned_16 : decode cX7_returned 16 = .ok (.getfield 20, 3) := by decide +kernel
theorem dX7_returned_19 : decode cX7_returned 19 = .ok (.getfield 97, 3) := by decide +kernel
theorem dX7_returned_22 : decode cX7_returned 22 = .ok (.iload_n 2, 1) := by decide +kernel
theorem dX7_returned_23 : decode cX7_returned 23 = .ok (.iaload, 1) := by decide +kernel
theorem dX7_returned_24 : decode cX7_returned 24 = .ok (.ifCond .ne 5, 3) := by decide +kernel
theorem dX7_returned_27 : decode cX7_returned 27 = .ok (.iconst (-1), 1) := by decide +kernel
theorem dX7_returned_28 : decode cX7_returned 28 = .ok (.ireturn, 1) := by decide +kernel
set_option maxRecDepth 20000 in
theorem ggX7_returned_X7_isItem : GoodIn wsX7_returned wsX7_isItem := goodIn_r _ [24, 19, 20, 12, 21] (by decide +kernel) (by decide +kernel)
set_option maxRecDepth 20000 in
theorem gX7_returned_X7_isItem : GoodIn wsX7_returned (va_wsS RX7 91 yX7_isItem wsX7_isItem) := goodIn_app (goodIn_of _ (by decide +kernel)) ggX7_returned_X7_isItem
set_option maxRecDepth 20000 in
theorem ggX7_returned_X7_isPolicyOrNone : GoodIn wsX7_returned wsX7_isPolicyOrNone := goodIn_r _ [13, 14, 15, 16, 12, 17, 1, 18, 19, 20, 21, 36, 37, 38, 39, 40, 41, 42, 43, 44, 45, 46, 47, 48, 49, 50, 51, 52, 53, 54, 55, 56] (by decide +kernel) (by decide +kernel)
set_option maxRecDepth 20000 in
theorem gX7_returned_X7_isPolicyOrNone : GoodIn wsX7_returned (wsV RX7 228 RX7 yX7_isPolicyOrNone wsX7_isPolicyOrNone) := goodIn_app (goodIn_of _ (by decide +kernel)) ggX7_returned_X7_isPolicyOrNone
set_option maxHeartbeats 4000000 in
set_option maxRecDepth 100000 in
theorem f_X7_returned (l : Launch) (D : va_G) (cI cJ : ClassId) (sz : Nat) (x x0 x1 x2 x3 x4 x5 b0 b1 b2 b3 b4 b5 b6 b7 b8 b9 b10 b11 : Nat) (p0 p1 : Int32) : Met l yX7_returned wsX7_returned { frames := 3, cells := 0, slots := 0, locals := 64 } (cPc D cI cJ [.ref x, .int p0, .int p1] sz [(x, .inr (7, [.ref x0, .ref x1, .ref x2, .ref x3, .ref x4, .ref x5])), (x0, .inr (0, [.ref b0, .ref b1, .ref b2, .ref b3, .ref b4, .ref b5, .ref b6, .ref b7, .ref b8, .ref b9, .ref b10, .ref b11, .int 0, .int 0, .int 0])), (b9, .inl (cI, 8, .inl (fun _ => 0)))]) (cQi D (fun r u => r = -1 ∧ u = []) (va_A [(x, .inr (7, [.ref x0, .ref x1, .ref x2, .ref x3, .ref x4, .ref x5])), (x0, .inr (0, [.ref b0, .ref b1, .ref b2, .ref b3, .ref b4, .ref b5, .ref b6, .ref b7, .ref b8, .ref b9, .ref b10, .ref b11, .int 0, .int 0, .int 0])), (b9, .inl (cI, 8, .inl (fun _ => 0)))] sz)) 0 0 (va_A [(x, .inr (7, [.ref x0, .ref x1, .ref x2, .ref x3, .ref x4, .ref x5])), (x0, .inr (0, [.ref b0, .ref b1, .ref b2, .ref b3, .ref b4, .ref b5, .ref b6, .ref b7, .ref b8, .ref b9, .ref b10, .ref b11, .int 0, .int 0, .int 0])), (b9, .inl (cI, 8, .inl (fun _ => 0)))] sz) := by
  refine k_ofW (Qc := cQi D (fun r u => r = -1 ∧ u = [])) (by decide) rfl (Nat.le_of_ble_eq_true rfl) ?_
  intro p e s m below meth c A ls hx hb hr hml hts hown hlk hnm hsz hE hP hD hS hA hl
  have hown : s.vm.findClass RX7 = some m.cls := hown
  have hiX7 : ∀ w ∈ u_ws RX7 TX7 6, w ∈ wsX7_returned := fun w h => List.mem_cons_of_mem _ (List.mem_append_left _ (List.mem_append_right _ h))
  have hiX0 : ∀ w ∈ u_ws RX0 TX0 15, w ∈ wsX7_returned := fun w h => List.mem_cons_of_mem _ (List.mem_append_right _ h)
  have hl : lv_has ls 7 [(0, .ref x), (1, .int p0), (2, .int p1)] := hl
  refine lv_aload_n hx hb dX7_returned_0 rfl (lv_at hl 0 rfl) ?_
  refine lv_iload_n hx hb dX7_returned_1 rfl (lv_at hl 1 rfl) ?_
  refine k_i (va_runV (As := [.int p0]) (rest := []) ⟨hx, hb, hml, hown, hts⟩ (m_X7_isPolicyOrNone l D cI cJ (s.heap).size x x0 x1 x2 x3 x4 x5 b0 b1 b2 b3 b4 b5 b6 b7 b8 b9 b10 b11 0 0 0 p0) (cwV 1 hts gX7_returned_X7_isPolicyOrNone rfl rfl rfl (by decide +kernel) ⟨Nat.le_of_ble_eq_true rfl, Nat.le_of_ble_eq_true rfl⟩) (k_preV hE hP hD [0, 1] (by decide) rfl 0 rfl rfl) rfl rfl hl.1 rfl (lv_room (Nat.le_of_ble_eq_true rfl)) dX7_returned_2 ⟨Nat.le_of_ble_eq_true rfl, Nat.le_of_ble_eq_true rfl⟩) hP hD hS hA [0, 1] [2] rfl (wr := [(b9, .inl (cI, 8, .inl (fun _ => 0)))]) rfl (by decide) (by decide) (fun r1 u H locs hw2 hP hD hS => ?_)
  obtain ⟨hw2, rfl⟩ := hw2
  have hP : va_P D vwCl [(b9, .inl (cI, 8, .inl (fun _ => 0))), (x, .inr (7, [.ref x0, .ref x1, .ref x2, .ref x3, .ref x4, .ref x5])), (x0, .inr (0, [.ref b0, .ref b1, .ref b2, .ref b3, .ref b4, .ref b5, .ref b6, .ref b7, .ref b8, .ref b9, .ref b10, .ref b11, .int 0, .int 0, .int 0]))] H := hP
  have hD : va_D A [(b9, .inl (cI, 8, .inl (fun _ => 0))), (x, .inr (7, [.ref x0, .ref x1, .ref x2, .ref x3, .ref x4, .ref x5])), (x0, .inr (0, [.ref b0, .ref b1, .ref b2, .ref b3, .ref b4, .ref b5, .ref b6, .ref b7, .ref b8, .ref b9, .ref b10, .ref b11, .int 0, .int 0, .int 0]))] := hD
  refine lv_if_eq (tgt := 27) hx hb dX7_returned_5 (by decide) (fun c3 => ?_) (fun c3 => ?_)
  · skip
    have hc3 : ¬ (p0 = (-1) ∨ (0 ≤ p0 ∧ p0 ≤ 0 - 1)) := bz_0 hw2 c3
    refine lv_iconst (v := (-1)) hx hb dX7_returned_27 (by decide) ?_
    refine k_iret (u := []) hx hb hr hlk (k_sub hP [] rfl) (hD.sub [] (by decide) rfl) hS dX7_returned_28 ?_
    exact ⟨rfl, rfl⟩
  · skip
    have hc3 : p0 = (-1) ∨ (0 ≤ p0 ∧ p0 ≤ 0 - 1) := bz_1 hw2 c3
    refine lv_iload_n hx hb dX7_returned_8 rfl (lv_at hl 2 rfl) ?_
    refine k_i (va_runS (As := [.int p1]) (rest := []) ⟨hx, hb, hml, hown, hts⟩ (m_X7_isItem l D cI cJ H.size p1) (va_cwS 1 hts gX7_returned_X7_isItem rfl rfl rfl (by decide +kernel) ⟨Nat.le_of_ble_eq_true rfl, Nat.le_of_ble_eq_true rfl⟩) (k_pre hE hP hD [] (by decide) rfl) rfl rfl hl.1 rfl (lv_room (Nat.le_of_ble_eq_true rfl)) dX7_returned_9 ⟨Nat.le_of_ble_eq_true rfl, Nat.le_of_ble_eq_true rfl⟩) hP hD hS hA [] [0, 1, 2] rfl (wr := [(b9, .inl (cI, 8, .inl (fun _ => 0))), (x, .inr (7, [.ref x0, .ref x1, .ref x2, .ref x3, .ref x4, .ref x5])), (x0, .inr (0, [.ref b0, .ref b1, .ref b2, .ref b3, .ref b4, .ref b5, .ref b6, .ref b7, .ref b8, .ref b9, .ref b10, .ref b11, .int 0, .int 0, .int 0]))]) rfl (by decide) (by decide) (fun r4 u H locs hw5 hP hD hS => ?_)
    obtain ⟨hw5, rfl⟩ := hw5
    have hP : va_P D vwCl [(b9, .inl (cI, 8, .inl (fun _ => 0))), (x, .inr (7, [.ref x0, .ref x1, .ref x2, .ref x3, .ref x4, .ref x5])), (x0, .inr (0, [.ref b0, .ref b1, .ref b2, .ref b3, .ref b4, .ref b5, .ref b6, .ref b7, .ref b8, .ref b9, .ref b10, .ref b11, .int 0, .int 0, .int 0]))] H := hP
    have hD : va_D A [(b9, .inl (cI, 8, .inl (fun _ => 0))), (x, .inr (7, [.ref x0, .ref x1, .ref x2, .ref x3, .ref x4, .ref x5])), (x0, .inr (0, [.ref b0, .ref b1, .ref b2, .ref b3, .ref b4, .ref b5, .ref b6, .ref b7, .ref b8, .ref b9, .ref b10, .ref b11, .int 0, .int 0, .int 0]))] := hD
    refine lv_if_eq (tgt := 27) hx hb dX7_returned_12 (by decide) (fun c6 => ?_) (fun c6 => ?_)
    · skip
      have hc6 : ¬ (0 ≤ p1 ∧ p1 ≤ 7) := bz_0 hw5 c6
      refine lv_iconst (v := (-1)) hx hb dX7_returned_27 (by decide) ?_
      refine k_iret (u := []) hx hb hr hlk (k_sub hP [] rfl) (hD.sub [] (by decide) rfl) hS dX7_returned_28 ?_
      exact ⟨rfl, rfl⟩
    · skip
      have hc6 : 0 ≤ p1 ∧ p1 ≤ 7 := bz_1 hw5 c6
      refine lv_aload_n hx hb dX7_returned_15 rfl (lv_at hl 0 rfl) ?_
      refine va_get (D := D) (ci := 7) (v := .ref x0) (C := RX7) (T := TX7) (N := 6) hx hb hts hiX7 hown hE.1 hP 1 rfl rfl 0 (by decide) (hts _ (List.mem_of_getElem? (i := 1) rfl)) (fun _ h9 => h9) rfl dX7_returned_16 ?_
      refine va_get (D := D) (ci := 0) (v := .ref b9) (C := RX0) (T := TX0) (N := 15) hx hb hts hiX0 hown hE.1 hP 2 rfl rfl 9 (by decide) (hts _ (List.mem_of_getElem? (i := 2) rfl)) (fun _ h9 => h9) rfl dX7_returned_19 ?_
      refine lv_iload_n hx hb dX7_returned_22 rfl (lv_at hl 2 rfl) ?_
      refine va_iald hx hb hE.1 hP 0 0 rfl rfl (vi_8 hc6) dX7_returned_23 ?_
      refine W.eq (g2 := F0 m 24 ls [.int 0]) rfl ?_
      refine lv_if_ne (tgt := 29) hx hb dX7_returned_24 (by decide) (fun c7 => absurd c7 (by decide)) (fun _ => ?_)
      refine lv_iconst (v := (-1)) hx hb dX7_returned_27 (by decide) ?_
      refine k_iret (u := []) hx hb hr hlk (k_sub hP [] rfl) (hD.sub [] (by decide) rfl) hS dX7_returned_28 ?_
      exact ⟨rfl, rfl⟩
theorem dX7_filed_0 : decode cX7_filed 0 = .ok (.iload_n 1, 1) := by decide +kernel
theorem dX7_filed_1 : decode cX7_filed 1 = .ok (.iload_n 2, 1) := by decide +kernel
theorem dX7_filed_2 : decode cX7_filed 2 = .ok (.invokestatic 325, 3) := by decide +kernel
theorem dX7_filed_5 : decode cX7_filed 5 = .ok (.ifCond .ne 5, 3) := by decide +kernel
theorem dX7_filed_8 : decode cX7_filed 8 = .ok (.iconst (-1), 1) := by decide +kernel
theorem dX7_filed_9 : decode cX7_filed 9 = .ok (.ireturn, 1) := by decide +kernel
theorem dX7_filed_10 : decode cX7_filed 10 = .ok (.iload_n 1, 1) := by decide +kernel
theorem dX7_filed_11 : decode cX7_filed 11 = .ok (.bipush 8, 2) := by decide +kernel
theorem dX7_filed_13 : decode cX7_filed 13 = .ok (.imul, 1) := by decide +kernel
theorem dX7_filed_14 : decode cX7_filed 14 = .ok (.iload_n 2, 1) := by decide +kernel
theorem dX7_filed_15 : decode cX7_filed 15 = .ok (.iadd, 1) := by decide +kernel
theorem dX7_filed_16 : decode cX7_filed 16 = .ok (.istore 4, 2) := by decide +kernel
theorem dX7_filed_18 : decode cX7_filed 18 = .ok (.aload_n 0, 1) := by decide +kernel
theorem dX7_filed_19 : decode cX7_filed 19 = .ok (.getfield 38, 3) := by decide +kernel
theorem dX7_filed_22 : decode cX7_filed 22 = .ok (.getfield 332, 3) := by decide +kernel
theorem dX7_filed_25 : decode cX7_filed 25 = .ok (.iload 4, 2) := by decide +kernel
theorem dX7_filed_27 : decode cX7_filed 27 = .ok (.iaload, 1) := by decide +kernel
theorem dX7_filed_28 : decode cX7_filed 28 = .ok (.iconst (-1), 1) := by decide +kernel
theorem dX7_filed_29 : decode cX7_filed 29 = .ok (.if_icmp .ne 6, 3) := by decide +kernel
theorem dX7_filed_32 : decode cX7_filed 32 = .ok (.bipush (-2), 2) := by decide +kernel
theorem dX7_filed_34 : decode cX7_filed 34 = .ok (.ireturn, 1) := by decide +kernel
set_option maxRecDepth 20000 in
theorem ggX7_filed_X7_isPlace : GoodIn wsX7_filed wsX7_isPlace := goodIn_r _ [7, 8, 9, 6, 10] (by decide +kernel) (by decide +kernel)
set_option maxRecDepth 20000 in
theorem gX7_filed_X7_isPlace : GoodIn wsX7_filed (va_wsS RX7 325 yX7_isPlace wsX7_isPlace) := goodIn_app (goodIn_of _ (by decide +kernel)) ggX7_filed_X7_isPlace
set_option maxHeartbeats 4000000 in
set_option maxRecDepth 100000 in
theorem f_X7_filed (l : Launch) (D : va_G) (cI cJ : ClassId) (sz : Nat) (x x0 x1 x2 x3 x4 x5 z0 z1 : Nat) (p0 p1 p2 : Int32) : Met l yX7_filed wsX7_filed { frames := 2, cells := 0, slots := 0, locals := 43 } (cPc D cI cJ [.ref x, .int p0, .int p1, .int p2] sz [(x, .inr (7, [.ref x0, .ref x1, .ref x2, .ref x3, .ref x4, .ref x5])), (x4, .inr (3, [.ref z0, .ref z1])), (z0, .inl (cI, 32, .inl (fl 32 (-1) (fun _ => 0))))]) (cQi D (fun r u => r = fz ((0 ≤ p0 ∧ p0 ≤ 3) ∧ 0 ≤ p1 ∧ p1 ≤ 7) ∧ u = []) (va_A [(x, .inr (7, [.ref x0, .ref x1, .ref x2, .ref x3, .ref x4, .ref x5])), (x4, .inr (3, [.ref z0, .ref z1])), (z0, .inl (cI, 32, .inl (fl 32 (-1) (fun _ => 0))))] sz)) 0 0 (va_A [(x, .inr (7, [.ref x0, .ref x1, .ref x2, .ref x3, .ref x4, .ref x5])), (x4, .inr (3, [.ref z0, .ref z1])), (z0, .inl (cI, 32, .inl (fl 32 (-1) (fun _ => 0))))] sz) := by
  refine k_ofW (Qc := cQi D (fun r u => r = fz ((0 ≤ p0 ∧ p0 ≤ 3) ∧ 0 ≤ p1 ∧ p1 ≤ 7) ∧ u = [])) (by decide) rfl (Nat.le_of_ble_eq_true rfl) ?_
  intro p e s m below meth c A ls hx hb hr hml hts hown hlk hnm hsz hE hP hD hS hA hl
  have hown : s.vm.findClass RX7 = some m.cls := hown
  have hiX7 : ∀ w ∈ u_ws RX7 TX7 6, w ∈ wsX7_filed := fun w h => List.mem_cons_of_mem _ (List.mem_append_left _ (List.mem_append_right _ h))
  have hiX3 : ∀ w ∈ u_ws RX3 TX3 2, w ∈ wsX7_filed := fun w h => List.mem_cons_of_mem _ (List.mem_append_right _ h)
  have hl : lv_has ls 5 [(0, .ref x), (1, .int p0), (2, .int p1), (3, .int p2)] := hl
  refine lv_iload_n hx hb dX7_filed_0 rfl (lv_at hl 1 rfl) ?_
  refine lv_iload_n hx hb dX7_filed_1 rfl (lv_at hl 2 rfl) ?_
  refine k_i (va_runS (As := [.int p0, .int p1]) (rest := []) ⟨hx, hb, hml, hown, hts⟩ (m_X7_isPlace l D cI cJ (s.heap).size p0 p1) (va_cwS 2 hts gX7_filed_X7_isPlace rfl rfl rfl (by decide +kernel) ⟨Nat.le_of_ble_eq_true rfl, Nat.le_of_ble_eq_true rfl⟩) (k_pre hE hP hD [] (by decide) rfl) rfl rfl hl.1 rfl (lv_room (Nat.le_of_ble_eq_true rfl)) dX7_filed_2 ⟨Nat.le_of_ble_eq_true rfl, Nat.le_of_ble_eq_true rfl⟩) hP hD hS hA [] [0, 1, 2] rfl (wr := [(x, .inr (7, [.ref x0, .ref x1, .ref x2, .ref x3, .ref x4, .ref x5])), (x4, .inr (3, [.ref z0, .ref z1])), (z0, .inl (cI, 32, .inl (fl 32 (-1) (fun _ => 0))))]) rfl (by decide) (by decide) (fun r1 u H locs hw2 hP hD hS => ?_)
  obtain ⟨hw2, rfl⟩ := hw2
  have hP : va_P D vwCl [(x, .inr (7, [.ref x0, .ref x1, .ref x2, .ref x3, .ref x4, .ref x5])), (x4, .inr (3, [.ref z0, .ref z1])), (z0, .inl (cI, 32, .inl (fl 32 (-1) (fun _ => 0))))] H := hP
  have hD : va_D A [(x, .inr (7, [.ref x0, .ref x1, .ref x2, .ref x3, .ref x4, .ref x5])), (x4, .inr (3, [.ref z0, .ref z1])), (z0, .inl (cI, 32, .inl (fl 32 (-1) (fun _ => 0))))] := hD
  refine lv_if_ne (tgt := 10) hx hb dX7_filed_5 (by decide) (fun c3 => ?_) (fun c3 => ?_)
  · skip
    have hc3 : (0 ≤ p0 ∧ p0 ≤ 3) ∧ 0 ≤ p1 ∧ p1 ≤ 7 := bz_1 hw2 c3
    refine lv_iload_n hx hb dX7_filed_10 rfl (lv_at hl 1 rfl) ?_
    refine lv_bipush (v := 8) hx hb dX7_filed_11 (by decide) ?_
    refine lv_imul hx hb dX7_filed_13 ?_
    refine lv_iload_n hx hb dX7_filed_14 rfl (lv_at hl 2 rfl) ?_
    refine lv_iadd hx hb dX7_filed_15 ?_
    refine lv_topi (fun v4 ev4 => ?_)
    refine lv_istore (lv' := [(4, .int v4), (0, .ref x), (1, .int p0), (2, .int p1), (3, .int p2)]) hx hb dX7_filed_16 hl (by decide) rfl (fun ls hl => ?_)
    refine lv_aload_n hx hb dX7_filed_18 rfl (lv_at hl 1 rfl) ?_
    refine va_get (D := D) (ci := 7) (v := .ref x4) (C := RX7) (T := TX7) (N := 6) hx hb hts hiX7 hown hE.1 hP 0 rfl rfl 4 (by decide) (hts _ (List.mem_of_getElem? (i := 1) rfl)) (fun _ h9 => h9) rfl dX7_filed_19 ?_
    refine va_get (D := D) (ci := 3) (v := .ref z0) (C := RX3) (T := TX3) (N := 2) hx hb hts hiX3 hown hE.1 hP 1 rfl rfl 0 (by decide) (hts _ (List.mem_of_getElem? (i := 2) rfl)) (fun _ h9 => h9) rfl dX7_filed_22 ?_
    refine lv_iload hx hb dX7_filed_25 (lv_at hl 0 rfl) ?_
    refine va_iald hx hb hE.1 hP 2 0 rfl rfl (by rw [ev4]; exact vi_32 hc3) dX7_filed_27 ?_
    refine lv_iconst (v := (-1)) hx hb dX7_filed_28 (by decide) ?_
    refine lv_icmp_ne (tgt := 35) hx hb dX7_filed_29 (by decide) (fun c5 => absurd (fl_in (by rw [ev4]; exact vi_32 hc3)) c5) (fun c5a => ?_)
    refine lv_bipush (v := (-2)) hx hb dX7_filed_32 (by decide) ?_
    refine k_iret (u := []) hx hb hr hlk (k_sub hP [] rfl) (hD.sub [] (by decide) rfl) hS dX7_filed_34 ?_
    exact ⟨fz_t hc3, rfl⟩
  · skip
    have hc3 : ¬ ((0 ≤ p0 ∧ p0 ≤ 3) ∧ 0 ≤ p1 ∧ p1 ≤ 7) := bz_0 hw2 c3
    refine lv_iconst (v := (-1)) hx hb dX7_filed_8 (by decide) ?_
    refine k_iret (u := []) hx hb hr hlk (k_sub hP [] rfl) (hD.sub [] (by decide) rfl) hS dX7_filed_9 ?_
    exact ⟨fz_f hc3, rfl⟩
theorem dX0_everyone_0 : decode cX0_everyone 0 = .ok (.iconst 1, 1) := by decide +kernel
theorem dX0_everyone_1 : decode cX0_everyone 1 = .ok (.aload_n 0, 1) := by decide +kernel
theorem dX0_everyone_2 : decode cX0_everyone 2 = .ok (.getfield 54, 3) := by decide +kernel
theorem dX0_everyone_5 : decode cX0_everyone 5 = .ok (.ishl, 1) := by decide +kernel
theorem dX0_everyone_6 : decode cX0_everyone 6 = .ok (.iconst 1, 1) := by decide +kernel
theorem dX0_everyone_7 : decode cX0_everyone 7 = .ok (.isub, 1) := by decide +kernel
theorem dX0_everyone_8 : decode cX0_everyone 8 = .ok (.ireturn, 1) := by decide +kernel
set_option maxHeartbeats 4000000 in
set_option maxRecDepth 100000 in
theorem f_X0_everyone (l : Launch) (D : va_G) (cI cJ : ClassId) (sz : Nat) (x0 b0 b1 b2 b3 b4 b5 b6 b7 b8 b9 b10 b11 : Nat) : Met l yX0_everyone wsX0_everyone { frames := 0, cells := 0, slots := 0, locals := 0 } (cPc D cI cJ [.ref x0] sz [(x0, .inr (0, [.ref b0, .ref b1, .ref b2, .ref b3, .ref b4, .ref b5, .ref b6, .ref b7, .ref b8, .ref b9, .ref b10, .ref b11, .int 0, .int 0, .int 0]))]) (cQi D (fun r u => r = 0 ∧ u = [(x0, .inr (0, [.ref b0, .ref b1, .ref b2, .ref b3, .ref b4, .ref b5, .ref b6, .ref b7, .ref b8, .ref b9, .ref b10, .ref b11, .int 0, .int 0, .int 0]))]) (va_A [(x0, .inr (0, [.ref b0, .ref b1, .ref b2, .ref b3, .ref b4, .ref b5, .ref b6, .ref b7, .ref b8, .ref b9, .ref b10, .ref b11, .int 0, .int 0, .int 0]))] sz)) 0 0 (va_A [(x0, .inr (0, [.ref b0, .ref b1, .ref b2, .ref b3, .ref b4, .ref b5, .ref b6, .ref b7, .ref b8, .ref b9, .ref b10, .ref b11, .int 0, .int 0, .int 0]))] sz) := by
  refine k_ofW (Qc := cQi D (fun r u => r = 0 ∧ u = [(x0, .inr (0, [.ref b0, .ref b1, .ref b2, .ref b3, .ref b4, .ref b5, .ref b6, .ref b7, .ref b8, .ref b9, .ref b10, .ref b11, .int 0, .int 0, .int 0]))])) (by decide) rfl (Nat.le_of_ble_eq_true rfl) ?_
  intro p e s m below meth c A ls hx hb hr hml hts hown hlk hnm hsz hE hP hD hS hA hl
  have hown : s.vm.findClass RX0 = some m.cls := hown
  have hiX0 : ∀ w ∈ u_ws RX0 TX0 15, w ∈ wsX0_everyone := fun w h => List.mem_cons_of_mem _ (List.mem_append_right _ h)
  have hl : lv_has ls 1 [(0, .ref x0)] := hl
  refine lv_iconst (v := 1) hx hb dX0_everyone_0 (by decide) ?_
  refine lv_aload_n hx hb dX0_everyone_1 rfl (lv_at hl 0 rfl) ?_
  refine va_get (D := D) (ci := 0) (v := .int 0) (C := RX0) (T := TX0) (N := 15) hx hb hts hiX0 hown hE.1 hP 0 rfl rfl 12 (by decide) (hts _ (List.mem_of_getElem? (i := 1) rfl)) (fun _ h9 => h9) rfl dX0_everyone_2 ?_
  refine lv_ishl hx hb dX0_everyone_5 ?_
  refine lv_topi (fun v1 ev1 => ?_)
  obtain rfl : v1 = 1 := by rw [ev1]; decide
  refine lv_iconst (v := 1) hx hb dX0_everyone_6 (by decide) ?_
  refine lv_isub hx hb dX0_everyone_7 ?_
  refine lv_topi (fun v2 ev2 => ?_)
  obtain rfl : v2 = 0 := by rw [ev2]; decide
  refine k_iret (u := [(x0, .inr (0, [.ref b0, .ref b1, .ref b2, .ref b3, .ref b4, .ref b5, .ref b6, .ref b7, .ref b8, .ref b9, .ref b10, .ref b11, .int 0, .int 0, .int 0]))]) hx hb hr hlk hP hD hS dX0_everyone_8 ?_
  exact ⟨rfl, rfl⟩
theorem dX0_amountsTogether_0 : decode cX0_amountsTogether 0 = .ok (.iconst 0, 1) := by decide +kernel
theorem dX0_amountsTogether_1 : decode cX0_amountsTogether 1 = .ok (.istore_n 1, 1) := by decide +kernel
theorem dX0_amountsTogether_2 : decode cX0_amountsTogether 2 = .ok (.iconst 0, 1) := by decide +kernel
theorem dX0_amountsTogether_3 : decode cX0_amountsTogether 3 = .ok (.istore_n 2, 1) := by decide +kernel
theorem dX0_amountsTogether_4 : decode cX0_amountsTogether 4 = .ok (.iload_n 2, 1) := by decide +kernel
theorem dX0_amountsTogether_5 : decode cX0_amountsTogether 5 = .ok (.aload_n 0, 1) := by decide +kernel
theorem dX0_amountsTogether_6 : decode cX0_amountsTogether 6 = .ok (.getfield 58, 3) := by decide +kernel
theorem dX0_amountsTogether_9 : decode cX0_amountsTogether 9 = .ok (.if_icmp .ge 24, 3) := by decide +kernel
theorem dX0_amountsTogether_33 : decode cX0_amountsTogether 33 = .ok (.iload_n 1, 1) := by decide +kernel
theorem dX0_amountsTogether_34 : decode cX0_amountsTogether 34 = .ok (.ireturn, 1) := by decide +kernel
set_option maxHeartbeats 4000000 in
set_option maxRecDepth 100000 in
theorem f_X0_amounts (l : Launch) (D : va_G) (cI cJ : ClassId) (sz : Nat) (x0 b0 b1 b2 b3 b4 b5 b6 b7 b8 b9 b10 b11 : Nat) : Met l yX0_amountsTogether wsX0_amountsTogether { frames := 0, cells := 0, slots := 0, locals := 0 } (cPc D cI cJ [.ref x0] sz [(x0, .inr (0, [.ref b0, .ref b1, .ref b2, .ref b3, .ref b4, .ref b5, .ref b6, .ref b7, .ref b8, .ref b9, .ref b10, .ref b11, .int 0, .int 0, .int 0]))]) (cQi D (fun r u => r = 0 ∧ u = [(x0, .inr (0, [.ref b0, .ref b1, .ref b2, .ref b3, .ref b4, .ref b5, .ref b6, .ref b7, .ref b8, .ref b9, .ref b10, .ref b11, .int 0, .int 0, .int 0]))]) (va_A [(x0, .inr (0, [.ref b0, .ref b1, .ref b2, .ref b3, .ref b4, .ref b5, .ref b6, .ref b7, .ref b8, .ref b9, .ref b10, .ref b11, .int 0, .int 0, .int 0]))] sz)) 0 0 (va_A [(x0, .inr (0, [.ref b0, .ref b1, .ref b2, .ref b3, .ref b4, .ref b5, .ref b6, .ref b7, .ref b8, .ref b9, .ref b10, .ref b11, .int 0, .int 0, .int 0]))] sz) := by
  refine k_ofW (Qc := cQi D (fun r u => r = 0 ∧ u = [(x0, .inr (0, [.ref b0, .ref b1, .ref b2, .ref b3, .ref b4, .ref b5, .ref b6, .ref b7, .ref b8, .ref b9, .ref b10, .ref b11, .int 0, .int 0, .int 0]))])) (by decide) rfl (Nat.le_of_ble_eq_true rfl) ?_
  intro p e s m below meth c A ls hx hb hr hml hts hown hlk hnm hsz hE hP hD hS hA hl
  have hown : s.vm.findClass RX0 = some m.cls := hown
  have hiX0 : ∀ w ∈ u_ws RX0 TX0 15, w ∈ wsX0_amountsTogether := fun w h => List.mem_cons_of_mem _ (List.mem_append_right _ h)
  have hl : lv_has ls 3 [(0, .ref x0)] := hl
  refine lv_iconst (v := 0) hx hb dX0_amountsTogether_0 (by decide) ?_
  refine lv_istore_n (lv' := [(1, .int 0), (0, .ref x0)]) hx hb dX0_amountsTogether_1 rfl hl (by decide) rfl (fun ls hl => ?_)
  refine lv_iconst (v := 0) hx hb dX0_amountsTogether_2 (by decide) ?_
  refine lv_istore_n (lv' := [(2, .int 0), (1, .int 0), (0, .ref x0)]) hx hb dX0_amountsTogether_3 rfl hl (by decide) rfl (fun ls hl => ?_)
  refine lv_iload_n hx hb dX0_amountsTogether_4 rfl (lv_at hl 0 rfl) ?_
  refine lv_aload_n hx hb dX0_amountsTogether_5 rfl (lv_at hl 2 rfl) ?_
  refine va_get (D := D) (ci := 0) (v := .int 0) (C := RX0) (T := TX0) (N := 15) hx hb hts hiX0 hown hE.1 hP 0 rfl rfl 13 (by decide) (hts _ (List.mem_of_getElem? (i := 1) rfl)) (fun _ h9 => h9) rfl dX0_amountsTogether_6 ?_
  refine lv_icmp_ge (tgt := 33) hx hb dX0_amountsTogether_9 (by decide) (fun _ => ?_) (fun c1 => absurd (by decide) c1)
  refine lv_iload_n hx hb dX0_amountsTogether_33 rfl (lv_at hl 1 rfl) ?_
  refine k_iret (u := [(x0, .inr (0, [.ref b0, .ref b1, .ref b2, .ref b3, .ref b4, .ref b5, .ref b6, .ref b7, .ref b8, .ref b9, .ref b10, .ref b11, .int 0, .int 0, .int 0]))]) hx hb hr hlk hP hD hS dX0_amountsTogether_34 ?_
  exact ⟨rfl, rfl⟩
theorem dX4_asBooked_0 : decode cX4_asBooked 0 = .ok (.aload_n 0, 1) := by decide +kernel
theorem dX4_asBooked_1 : decode cX4_asBooked 1 = .ok (.aload_n 0, 1) := by decide +kernel
theorem dX4_asBooked_2 : decode cX4_asBooked 2 = .ok (.getfield 12, 3) := by decide +kernel
theorem dX4_asBooked_5 : decode cX4_asBooked 5 = .ok (.invokevirtual 54, 3) := by decide +kernel
theorem dX4_asBooked_8 : decode cX4_asBooked 8 = .ok (.putfield 58, 3) := by decide +kernel
theorem dX4_asBooked_11 : decode cX4_asBooked 11 = .ok (.aload_n 0, 1) := by decide +kernel
theorem dX4_asBooked_12 : decode cX4_asBooked 12 = .ok (.aload_n 0, 1) := by decide +kernel
theorem dX4_asBooked_13 : decode cX4_asBooked 13 = .ok (.getfield 12, 3) := by decide +kernel
theorem dX4_asBooked_16 : decode cX4_asBooked 16 = .ok (.getfield 62, 3) := by decide +kernel
theorem dX4_asBooked_19 : decode cX4_asBooked 19 = .ok (.putfield 65, 3) := by decide +kernel
theorem dX4_asBooked_22 : decode cX4_asBooked 22 = .ok (.aload_n 0, 1) := by decide +kernel
theorem dX4_asBooked_23 : decode cX4_asBooked 23 = .ok (.getfield 12, 3) := by decide +kernel
theorem dX4_asBooked_26 : decode cX4_asBooked 26 = .ok (.getfield 66, 3) := by decide +kernel
theorem dX4_asBooked_29 : decode cX4_asBooked 29 = .ok (.iconst 0, 1) := by decide +kernel
theorem dX4_asBooked_30 : decode cX4_asBooked 30 = .ok (.aload_n 0, 1) := by decide +kernel
theorem dX4_asBooked_31 : decode cX4_asBooked 31 = .ok (.getfield 21, 3) := by decide +kernel
theorem dX4_asBooked_34 : decode cX4_asBooked 34 = .ok (.getfield 69, 3) := by decide +kernel
theorem dX4_asBooked_37 : decode cX4_asBooked 37 = .ok (.iconst 0, 1) := by decide +kernel
theorem dX4_asBooked_38 : decode cX4_asBooked 38 = .ok (.bipush 8, 2) := by decide +kernel
theorem dX4_asBooked_40 : decode cX4_asBooked 40 = .ok (.invokestatic 70, 3) := by decide +kernel
theorem dX4_asBooked_43 : decode cX4_asBooked 43 = .ok (.return_, 1) := by decide +kernel
set_option maxRecDepth 20000 in
theorem ggX4_asBooked_X0_everyone : GoodIn wsX4_asBooked wsX0_everyone := goodIn_r _ [16, 17, 32, 33, 34, 35, 36, 37, 38, 39, 40, 41, 42, 43, 44, 45, 46] (by decide +kernel) (by decide +kernel)
set_option maxRecDepth 20000 in
theorem gX4_asBooked_X0_everyone : GoodIn wsX4_asBooked (wsV RX4 54 RX0 yX0_everyone wsX0_everyone) := goodIn_app (goodIn_of _ (by decide +kernel)) ggX4_asBooked_X0_everyone
set_option maxHeartbeats 4000000 in
set_option maxRecDepth 100000 in
theorem f_X4_asBooked (l : Launch) (D : va_G) (cI cJ : ClassId) (sz : Nat) (x1 x0 s1 s2 s5 s6 s7 s8 s9 s10 s11 b0 b1 b2 b3 b4 b5 b6 b7 b8 b9 b10 b11 w0 w1 w2 w3 w4 w8 : Nat) : Met l yX4_asBooked wsX4_asBooked { frames := 1, cells := 0, slots := 0, locals := 40 } (cPc D cI cJ [.ref x1] sz [(x1, .inr (4, [.ref x0, .ref s1, .ref s2, .int 0, .int 0, .ref s5, .ref s6, .ref s7, .ref s8, .ref s9, .ref s10, .ref s11, .int 0, .int 0])), (x0, .inr (0, [.ref b0, .ref b1, .ref b2, .ref b3, .ref b4, .ref b5, .ref b6, .ref b7, .ref b8, .ref b9, .ref b10, .ref b11, .int 0, .int 0, .int 0])), (s1, .inr (6, [.ref w0, .ref w1, .ref w2, .ref w3, .ref w4, .int 0, .int 0, .int 0, .ref w8])), (b5, .inl (cI, 8, .inl (fun _ => 0))), (w0, .inl (cI, 8, .inl (fun _ => 0)))]) (cQv D (fun u => u = [(x1, .inr (4, [.ref x0, .ref s1, .ref s2, .int 0, .int 0, .ref s5, .ref s6, .ref s7, .ref s8, .ref s9, .ref s10, .ref s11, .int 0, .int 0])), (x0, .inr (0, [.ref b0, .ref b1, .ref b2, .ref b3, .ref b4, .ref b5, .ref b6, .ref b7, .ref b8, .ref b9, .ref b10, .ref b11, .int 0, .int 0, .int 0])), (s1, .inr (6, [.ref w0, .ref w1, .ref w2, .ref w3, .ref w4, .int 0, .int 0, .int 0, .ref w8])), (b5, .inl (cI, 8, .inl (fun _ => 0))), (w0, .inl (cI, 8, .inl (va_cpy (fun _ => 0) (fun _ => 0) (0 : Int32).toNatClampNeg (0 : Int32).toNatClampNeg (8 : Int32).toNatClampNeg)))]) (va_A [(x1, .inr (4, [.ref x0, .ref s1, .ref s2, .int 0, .int 0, .ref s5, .ref s6, .ref s7, .ref s8, .ref s9, .ref s10, .ref s11, .int 0, .int 0])), (x0, .inr (0, [.ref b0, .ref b1, .ref b2, .ref b3, .ref b4, .ref b5, .ref b6, .ref b7, .ref b8, .ref b9, .ref b10, .ref b11, .int 0, .int 0, .int 0])), (s1, .inr (6, [.ref w0, .ref w1, .ref w2, .ref w3, .ref w4, .int 0, .int 0, .int 0, .ref w8])), (b5, .inl (cI, 8, .inl (fun _ => 0))), (w0, .inl (cI, 8, .inl (fun _ => 0)))] sz)) 0 0 (va_A [(x1, .inr (4, [.ref x0, .ref s1, .ref s2, .int 0, .int 0, .ref s5, .ref s6, .ref s7, .ref s8, .ref s9, .ref s10, .ref s11, .int 0, .int 0])), (x0, .inr (0, [.ref b0, .ref b1, .ref b2, .ref b3, .ref b4, .ref b5, .ref b6, .ref b7, .ref b8, .ref b9, .ref b10, .ref b11, .int 0, .int 0, .int 0])), (s1, .inr (6, [.ref w0, .ref w1, .ref w2, .ref w3, .ref w4, .int 0, .int 0, .int 0, .ref w8])), (b5, .inl (cI, 8, .inl (fun _ => 0))), (w0, .inl (cI, 8, .inl (fun _ => 0)))] sz) := by
  refine k_ofW (Qc := cQv D (fun u => u = [(x1, .inr (4, [.ref x0, .ref s1, .ref s2, .int 0, .int 0, .ref s5, .ref s6, .ref s7, .ref s8, .ref s9, .ref s10, .ref s11, .int 0, .int 0])), (x0, .inr (0, [.ref b0, .ref b1, .ref b2, .ref b3, .ref b4, .ref b5, .ref b6, .ref b7, .ref b8, .ref b9, .ref b10, .ref b11, .int 0, .int 0, .int 0])), (s1, .inr (6, [.ref w0, .ref w1, .ref w2, .ref w3, .ref w4, .int 0, .int 0, .int 0, .ref w8])), (b5, .inl (cI, 8, .inl (fun _ => 0))), (w0, .inl (cI, 8, .inl (va_cpy (fun _ => 0) (fun _ => 0) (0 : Int32).toNatClampNeg (0 : Int32).toNatClampNeg (8 : Int32).toNatClampNeg)))])) (by decide) rfl (Nat.le_of_ble_eq_true rfl) ?_
  intro p e s m below meth c A ls hx hb hr hml hts hown hlk hnm hsz hE hP hD hS hA hl
  have hown : s.vm.findClass RX4 = some m.cls := hown
  have hiX4 : ∀ w ∈ u_ws RX4 TX4 14, w ∈ wsX4_asBooked := fun w h => List.mem_cons_of_mem _ (List.mem_append_left _ (List.mem_append_left _ (List.mem_append_right _ h)))
  have hiX0 : ∀ w ∈ u_ws RX0 TX0 15, w ∈ wsX4_asBooked := fun w h => List.mem_cons_of_mem _ (List.mem_append_left _ (List.mem_append_right _ h))
  have hiX6 : ∀ w ∈ u_ws RX6 TX6 9, w ∈ wsX4_asBooked := fun w h => List.mem_cons_of_mem _ (List.mem_append_right _ h)
  have hl : lv_has ls 1 [(0, .ref x1)] := hl
  refine lv_aload_n hx hb dX4_asBooked_0 rfl (lv_at hl 0 rfl) ?_
  refine lv_aload_n hx hb dX4_asBooked_1 rfl (lv_at hl 0 rfl) ?_
  refine va_get (D := D) (ci := 4) (v := .ref x0) (C := RX4) (T := TX4) (N := 14) hx hb hts hiX4 hown hE.1 hP 0 rfl rfl 0 (by decide) (hts _ (List.mem_of_getElem? (i := 1) rfl)) (fun _ h9 => h9) rfl dX4_asBooked_2 ?_
  refine k_i (va_runV (As := []) (rest := [.ref x1]) ⟨hx, hb, hml, hown, hts⟩ (f_X0_everyone l D cI cJ (s.heap).size x0 b0 b1 b2 b3 b4 b5 b6 b7 b8 b9 b10 b11) (cwV 0 hts gX4_asBooked_X0_everyone rfl rfl rfl (by decide +kernel) ⟨Nat.le_of_ble_eq_true rfl, Nat.le_of_ble_eq_true rfl⟩) (k_preV hE hP hD [1] (by decide) rfl 1 rfl rfl) rfl rfl hl.1 rfl (lv_room (Nat.le_of_ble_eq_true rfl)) dX4_asBooked_5 ⟨Nat.le_of_ble_eq_true rfl, Nat.le_of_ble_eq_true rfl⟩) hP hD hS hA [1] [0, 2, 3, 4] rfl (wr := [(x1, .inr (4, [.ref x0, .ref s1, .ref s2, .int 0, .int 0, .ref s5, .ref s6, .ref s7, .ref s8, .ref s9, .ref s10, .ref s11, .int 0, .int 0])), (s1, .inr (6, [.ref w0, .ref w1, .ref w2, .ref w3, .ref w4, .int 0, .int 0, .int 0, .ref w8])), (b5, .inl (cI, 8, .inl (fun _ => 0))), (w0, .inl (cI, 8, .inl (fun _ => 0)))]) rfl (by decide) (by decide) (fun r1 u H locs hw2 hP hD hS => ?_)
  obtain ⟨rfl, rfl⟩ := hw2
  have hP : va_P D vwCl [(x1, .inr (4, [.ref x0, .ref s1, .ref s2, .int 0, .int 0, .ref s5, .ref s6, .ref s7, .ref s8, .ref s9, .ref s10, .ref s11, .int 0, .int 0])), (s1, .inr (6, [.ref w0, .ref w1, .ref w2, .ref w3, .ref w4, .int 0, .int 0, .int 0, .ref w8])), (b5, .inl (cI, 8, .inl (fun _ => 0))), (w0, .inl (cI, 8, .inl (fun _ => 0))), (x0, .inr (0, [.ref b0, .ref b1, .ref b2, .ref b3, .ref b4, .ref b5, .ref b6, .ref b7, .ref b8, .ref b9, .ref b10, .ref b11, .int 0, .int 0, .int 0]))] H := hP
  have hD : va_D A [(x1, .inr (4, [.ref x0, .ref s1, .ref s2, .int 0, .int 0, .ref s5, .ref s6, .ref s7, .ref s8, .ref s9, .ref s10, .ref s11, .int 0, .int 0])), (s1, .inr (6, [.ref w0, .ref w1, .ref w2, .ref w3, .ref w4, .int 0, .int 0, .int 0, .ref w8])), (b5, .inl (cI, 8, .inl (fun _ => 0))), (w0, .inl (cI, 8, .inl (fun _ => 0))), (x0, .inr (0, [.ref b0, .ref b1, .ref b2, .ref b3, .ref b4, .ref b5, .ref b6, .ref b7, .ref b8, .ref b9, .ref b10, .ref b11, .int 0, .int 0, .int 0]))] := hD
  refine va_put (D := D) (ci := 4) (v := .int 0) (ty := .int) (C := RX4) (T := TX4) (N := 14) hx hb hts hiX4 tyX4 tyX4_ok nmX4 hown hE.1 hP hD hS 0 rfl rfl 3 (by decide) (hts _ (List.mem_of_getElem? (i := 2) rfl)) (fun _ h9 => h9) rfl (by decide +kernel) rfl rfl (Nat.le_of_ble_eq_true rfl) dX4_asBooked_8 (fun H locs hP hD hS => ?_)
  have hP : va_P D vwCl [(x1, .inr (4, [.ref x0, .ref s1, .ref s2, .int 0, .int 0, .ref s5, .ref s6, .ref s7, .ref s8, .ref s9, .ref s10, .ref s11, .int 0, .int 0])), (s1, .inr (6, [.ref w0, .ref w1, .ref w2, .ref w3, .ref w4, .int 0, .int 0, .int 0, .ref w8])), (b5, .inl (cI, 8, .inl (fun _ => 0))), (w0, .inl (cI, 8, .inl (fun _ => 0))), (x0, .inr (0, [.ref b0, .ref b1, .ref b2, .ref b3, .ref b4, .ref b5, .ref b6, .ref b7, .ref b8, .ref b9, .ref b10, .ref b11, .int 0, .int 0, .int 0]))] H := hP
  have hD : va_D A [(x1, .inr (4, [.ref x0, .ref s1, .ref s2, .int 0, .int 0, .ref s5, .ref s6, .ref s7, .ref s8, .ref s9, .ref s10, .ref s11, .int 0, .int 0])), (s1, .inr (6, [.ref w0, .ref w1, .ref w2, .ref w3, .ref w4, .int 0, .int 0, .int 0, .ref w8])), (b5, .inl (cI, 8, .inl (fun _ => 0))), (w0, .inl (cI, 8, .inl (fun _ => 0))), (x0, .inr (0, [.ref b0, .ref b1, .ref b2, .ref b3, .ref b4, .ref b5, .ref b6, .ref b7, .ref b8, .ref b9, .ref b10, .ref b11, .int 0, .int 0, .int 0]))] := hD
  refine lv_aload_n hx hb dX4_asBooked_11 rfl (lv_at hl 0 rfl) ?_
  refine lv_aload_n hx hb dX4_asBooked_12 rfl (lv_at hl 0 rfl) ?_
  refine va_get (D := D) (ci := 4) (v := .ref x0) (C := RX4) (T := TX4) (N := 14) hx hb hts hiX4 hown hE.1 hP 0 rfl rfl 0 (by decide) (hts _ (List.mem_of_getElem? (i := 1) rfl)) (fun _ h9 => h9) rfl dX4_asBooked_13 ?_
  refine va_get (D := D) (ci := 0) (v := .int 0) (C := RX0) (T := TX0) (N := 15) hx hb hts hiX0 hown hE.1 hP 4 rfl rfl 14 (by decide) (hts _ (List.mem_of_getElem? (i := 3) rfl)) (fun _ h9 => h9) rfl dX4_asBooked_16 ?_
  refine va_put (D := D) (ci := 4) (v := .int 0) (ty := .int) (C := RX4) (T := TX4) (N := 14) hx hb hts hiX4 tyX4 tyX4_ok nmX4 hown hE.1 hP hD hS 0 rfl rfl 4 (by decide) (hts _ (List.mem_of_getElem? (i := 4) rfl)) (fun _ h9 => h9) rfl (by decide +kernel) rfl rfl (Nat.le_of_ble_eq_true rfl) dX4_asBooked_19 (fun H locs hP hD hS => ?_)
  have hP : va_P D vwCl [(x1, .inr (4, [.ref x0, .ref s1, .ref s2, .int 0, .int 0, .ref s5, .ref s6, .ref s7, .ref s8, .ref s9, .ref s10, .ref s11, .int 0, .int 0])), (s1, .inr (6, [.ref w0, .ref w1, .ref w2, .ref w3, .ref w4, .int 0, .int 0, .int 0, .ref w8])), (b5, .inl (cI, 8, .inl (fun _ => 0))), (w0, .inl (cI, 8, .inl (fun _ => 0))), (x0, .inr (0, [.ref b0, .ref b1, .ref b2, .ref b3, .ref b4, .ref b5, .ref b6, .ref b7, .ref b8, .ref b9, .ref b10, .ref b11, .int 0, .int 0, .int 0]))] H := hP
  have hD : va_D A [(x1, .inr (4, [.ref x0, .ref s1, .ref s2, .int 0, .int 0, .ref s5, .ref s6, .ref s7, .ref s8, .ref s9, .ref s10, .ref s11, .int 0, .int 0])), (s1, .inr (6, [.ref w0, .ref w1, .ref w2, .ref w3, .ref w4, .int 0, .int 0, .int 0, .ref w8])), (b5, .inl (cI, 8, .inl (fun _ => 0))), (w0, .inl (cI, 8, .inl (fun _ => 0))), (x0, .inr (0, [.ref b0, .ref b1, .ref b2, .ref b3, .ref b4, .ref b5, .ref b6, .ref b7, .ref b8, .ref b9, .ref b10, .ref b11, .int 0, .int 0, .int 0]))] := hD
  refine lv_aload_n hx hb dX4_asBooked_22 rfl (lv_at hl 0 rfl) ?_
  refine va_get (D := D) (ci := 4) (v := .ref x0) (C := RX4) (T := TX4) (N := 14) hx hb hts hiX4 hown hE.1 hP 0 rfl rfl 0 (by decide) (hts _ (List.mem_of_getElem? (i := 1) rfl)) (fun _ h9 => h9) rfl dX4_asBooked_23 ?_
  refine va_get (D := D) (ci := 0) (v := .ref b5) (C := RX0) (T := TX0) (N := 15) hx hb hts hiX0 hown hE.1 hP 4 rfl rfl 5 (by decide) (hts _ (List.mem_of_getElem? (i := 5) rfl)) (fun _ h9 => h9) rfl dX4_asBooked_26 ?_
  refine lv_iconst (v := 0) hx hb dX4_asBooked_29 (by decide) ?_
  refine lv_aload_n hx hb dX4_asBooked_30 rfl (lv_at hl 0 rfl) ?_
  refine va_get (D := D) (ci := 4) (v := .ref s1) (C := RX4) (T := TX4) (N := 14) hx hb hts hiX4 hown hE.1 hP 0 rfl rfl 1 (by decide) (hts _ (List.mem_of_getElem? (i := 6) rfl)) (fun _ h9 => h9) rfl dX4_asBooked_31 ?_
  refine va_get (D := D) (ci := 6) (v := .ref w0) (C := RX6) (T := TX6) (N := 9) hx hb hts hiX6 hown hE.1 hP 1 rfl rfl 0 (by decide) (hts _ (List.mem_of_getElem? (i := 7) rfl)) (fun _ h9 => h9) rfl dX4_asBooked_34 ?_
  refine lv_iconst (v := 0) hx hb dX4_asBooked_37 (by decide) ?_
  refine lv_bipush (v := 8) hx hb dX4_asBooked_38 (by decide) ?_
  refine va_copyi hx hb (by rw [hml]; exact hl.1.symm) hown (hts _ (List.mem_of_getElem? (i := 8) rfl)) (hts _ (List.mem_of_getElem? (i := 9) rfl)) (hts _ (List.mem_of_getElem? (i := 10) rfl)) (hts _ (List.mem_of_getElem? (i := 11) rfl)) hE.1 hP hD hS 2 3 0 0 rfl rfl rfl rfl rfl (by decide) (by decide) (by decide) (by decide) (by decide) (fun _ _ => rfl) (Nat.le_of_ble_eq_true rfl) (Nat.le_of_ble_eq_true rfl) dX4_asBooked_40 (fun H locs hP hD hS => ?_)
  have hP : va_P D vwCl [(x1, .inr (4, [.ref x0, .ref s1, .ref s2, .int 0, .int 0, .ref s5, .ref s6, .ref s7, .ref s8, .ref s9, .ref s10, .ref s11, .int 0, .int 0])), (s1, .inr (6, [.ref w0, .ref w1, .ref w2, .ref w3, .ref w4, .int 0, .int 0, .int 0, .ref w8])), (b5, .inl (cI, 8, .inl (fun _ => 0))), (w0, .inl (cI, 8, .inl (va_cpy (fun _ => 0) (fun _ => 0) (0 : Int32).toNatClampNeg (0 : Int32).toNatClampNeg (8 : Int32).toNatClampNeg))), (x0, .inr (0, [.ref b0, .ref b1, .ref b2, .ref b3, .ref b4, .ref b5, .ref b6, .ref b7, .ref b8, .ref b9, .ref b10, .ref b11, .int 0, .int 0, .int 0]))] H := hP
  have hD : va_D A [(x1, .inr (4, [.ref x0, .ref s1, .ref s2, .int 0, .int 0, .ref s5, .ref s6, .ref s7, .ref s8, .ref s9, .ref s10, .ref s11, .int 0, .int 0])), (s1, .inr (6, [.ref w0, .ref w1, .ref w2, .ref w3, .ref w4, .int 0, .int 0, .int 0, .ref w8])), (b5, .inl (cI, 8, .inl (fun _ => 0))), (w0, .inl (cI, 8, .inl (va_cpy (fun _ => 0) (fun _ => 0) (0 : Int32).toNatClampNeg (0 : Int32).toNatClampNeg (8 : Int32).toNatClampNeg))), (x0, .inr (0, [.ref b0, .ref b1, .ref b2, .ref b3, .ref b4, .ref b5, .ref b6, .ref b7, .ref b8, .ref b9, .ref b10, .ref b11, .int 0, .int 0, .int 0]))] := hD
  refine k_vret (u := [(x1, .inr (4, [.ref x0, .ref s1, .ref s2, .int 0, .int 0, .ref s5, .ref s6, .ref s7, .ref s8, .ref s9, .ref s10, .ref s11, .int 0, .int 0])), (x0, .inr (0, [.ref b0, .ref b1, .ref b2, .ref b3, .ref b4, .ref b5, .ref b6, .ref b7, .ref b8, .ref b9, .ref b10, .ref b11, .int 0, .int 0, .int 0])), (s1, .inr (6, [.ref w0, .ref w1, .ref w2, .ref w3, .ref w4, .int 0, .int 0, .int 0, .ref w8])), (b5, .inl (cI, 8, .inl (fun _ => 0))), (w0, .inl (cI, 8, .inl (va_cpy (fun _ => 0) (fun _ => 0) (0 : Int32).toNatClampNeg (0 : Int32).toNatClampNeg (8 : Int32).toNatClampNeg)))]) hx hb hr hlk (k_sub hP [0, 4, 1, 2, 3] rfl) (hD.sub [0, 4, 1, 2, 3] (by decide) rfl) hS dX4_asBooked_43 ?_
  exact rfl
theorem dX4_through_0 : decode cX4_through 0 = .ok (.aload_n 0, 1) := by decide +kernel
theorem dX4_through_1 : decode cX4_through 1 = .ok (.getfield 12, 3) := by decide +kernel
theorem dX4_through_4 : decode cX4_through 4 = .ok (.getfield 76, 3) := by decide +kernel
theorem dX4_through_7 : decode cX4_through 7 = .ok (.iconst 0, 1) := by decide +kernel
theorem dX4_through_8 : decode cX4_through 8 = .ok (.aload_n 0, 1) := by decide +kernel
theorem dX4_through_9 : decode cX4_through 9 = .ok (.getfield 32, 3) := by decide +kernel
theorem dX4_through_12 : decode cX4_through 12 = .ok (.iconst 0, 1) := by decide +kernel
theorem dX4_through_13 : decode cX4_through 13 = .ok (.bipush 8, 2) := by decide +kernel
theorem dX4_through_15 : decode cX4_through 15 = .ok (.invokestatic 70, 3) := by decide +kernel
theorem dX4_through_18 : decode cX4_through 18 = .ok (.aload_n 0, 1) := by decide +kernel
theorem dX4_through_19 : decode cX4_through 19 = .ok (.getfield 39, 3) := by decide +kernel
theorem dX4_through_22 : decode cX4_through 22 = .ok (.iconst (-1), 1) := by decide +kernel
theorem dX4_through_23 : decode cX4_through 23 = .ok (.invokestatic 79, 3) := by decide +kernel
theorem dX4_through_26 : decode cX4_through 26 = .ok (.aload_n 0, 1) := by decide +kernel
theorem dX4_through_27 : decode cX4_through 27 = .ok (.iconst 0, 1) := by decide +kernel
theorem dX4_through_28 : decode cX4_through 28 = .ok (.putfield 85, 3) := by decide +kernel
theorem dX4_through_31 : decode cX4_through 31 = .ok (.iconst 0, 1) := by decide +kernel
theorem dX4_through_32 : decode cX4_through 32 = .ok (.istore_n 2, 1) := by decide +kernel
theorem dX4_through_33 : decode cX4_through 33 = .ok (.iload_n 2, 1) := by decide +kernel
theorem dX4_through_34 : decode cX4_through 34 = .ok (.iload_n 1, 1) := by decide +kernel
theorem dX4_through_35 : decode cX4_through 35 = .ok (.if_icmp .gt 80, 3) := by decide +kernel
theorem dX4_through_115 : decode cX4_through 115 = .ok (.return_, 1) := by decide +kernel
set_option maxRecDepth 20000 in
theorem ggX4_through_J7_fill_53178 : GoodIn wsX4_through wsJ7_fill_53178 := goodIn_r _ [17] (by decide +kernel) (by decide +kernel)
set_option maxRecDepth 20000 in
theorem gX4_through_J7_fill_53178 : GoodIn wsX4_through (va_wsS RX4 79 yJ7_fill_53178 wsJ7_fill_53178) := goodIn_app (goodIn_of _ (by decide +kernel)) ggX4_through_J7_fill_53178
set_option maxHeartbeats 4000000 in
set_option maxRecDepth 100000 in
theorem f_X4_through (l : Launch) (D : va_G) (cI cJ : ClassId) (sz : Nat) (x1 x0 s1 s2 s5 s6 s7 s8 s9 s10 s11 b0 b1 b2 b3 b4 b5 b6 b7 b8 b9 b10 b11 : Nat) : Met l yX4_through wsX4_through { frames := 1, cells := 0, slots := 0, locals := 40 } (cPc D cI cJ [.ref x1, .int (-1)] sz [(x1, .inr (4, [.ref x0, .ref s1, .ref s2, .int 0, .int 0, .ref s5, .ref s6, .ref s7, .ref s8, .ref s9, .ref s10, .ref s11, .int 0, .int 0])), (x0, .inr (0, [.ref b0, .ref b1, .ref b2, .ref b3, .ref b4, .ref b5, .ref b6, .ref b7, .ref b8, .ref b9, .ref b10, .ref b11, .int 0, .int 0, .int 0])), (b1, .inl (cI, 8, .inl (fun _ => 0))), (s5, .inl (cI, 8, .inl (fun _ => 0))), (s7, .inl (cI, 8, .inl (fun _ => 0)))]) (cQv D (fun u => u = [(x1, .inr (4, [.ref x0, .ref s1, .ref s2, .int 0, .int 0, .ref s5, .ref s6, .ref s7, .ref s8, .ref s9, .ref s10, .ref s11, .int 0, .int 0])), (x0, .inr (0, [.ref b0, .ref b1, .ref b2, .ref b3, .ref b4, .ref b5, .ref b6, .ref b7, .ref b8, .ref b9, .ref b10, .ref b11, .int 0, .int 0, .int 0])), (b1, .inl (cI, 8, .inl (fun _ => 0))), (s5, .inl (cI, 8, .inl (va_cpy (fun _ => 0) (fun _ => 0) (0 : Int32).toNatClampNeg (0 : Int32).toNatClampNeg (8 : Int32).toNatClampNeg))), (s7, .inl (cI, 8, .inl (fl 8 (-1) (fun _ => 0))))]) (va_A [(x1, .inr (4, [.ref x0, .ref s1, .ref s2, .int 0, .int 0, .ref s5, .ref s6, .ref s7, .ref s8, .ref s9, .ref s10, .ref s11, .int 0, .int 0])), (x0, .inr (0, [.ref b0, .ref b1, .ref b2, .ref b3, .ref b4, .ref b5, .ref b6, .ref b7, .ref b8, .ref b9, .ref b10, .ref b11, .int 0, .int 0, .int 0])), (b1, .inl (cI, 8, .inl (fun _ => 0))), (s5, .inl (cI, 8, .inl (fun _ => 0))), (s7, .inl (cI, 8, .inl (fun _ => 0)))] sz)) 0 0 (va_A [(x1, .inr (4, [.ref x0, .ref s1, .ref s2, .int 0, .int 0, .ref s5, .ref s6, .ref s7, .ref s8, .ref s9, .ref s10, .ref s11, .int 0, .int 0])), (x0, .inr (0, [.ref b0, .ref b1, .ref b2, .ref b3, .ref b4, .ref b5, .ref b6, .ref b7, .ref b8, .ref b9, .ref b10, .ref b11, .int 0, .int 0, .int 0])), (b1, .inl (cI, 8, .inl (fun _ => 0))), (s5, .inl (cI, 8, .inl (fun _ => 0))), (s7, .inl (cI, 8, .inl (fun _ => 0)))] sz) := by
  refine k_ofW (Qc := cQv D (fun u => u = [(x1, .inr (4, [.ref x0, .ref s1, .ref s2, .int 0, .int 0, .ref s5, .ref s6, .ref s7, .ref s8, .ref s9, .ref s10, .ref s11, .int 0, .int 0])), (x0, .inr (0, [.ref b0, .ref b1, .ref b2, .ref b3, .ref b4, .ref b5, .ref b6, .ref b7, .ref b8, .ref b9, .ref b10, .ref b11, .int 0, .int 0, .int 0])), (b1, .inl (cI, 8, .inl (fun _ => 0))), (s5, .inl (cI, 8, .inl (va_cpy (fun _ => 0) (fun _ => 0) (0 : Int32).toNatClampNeg (0 : Int32).toNatClampNeg (8 : Int32).toNatClampNeg))), (s7, .inl (cI, 8, .inl (fl 8 (-1) (fun _ => 0))))])) (by decide) rfl (Nat.le_of_ble_eq_true rfl) ?_
  intro p e s m below meth c A ls hx hb hr hml hts hown hlk hnm hsz hE hP hD hS hA hl
  have hown : s.vm.findClass RX4 = some m.cls := hown
  have hiX4 : ∀ w ∈ u_ws RX4 TX4 14, w ∈ wsX4_through := fun w h => List.mem_cons_of_mem _ (List.mem_append_left _ (List.mem_append_left _ (List.mem_append_left _ (List.mem_append_right _ h))))
  have hiX0 : ∀ w ∈ u_ws RX0 TX0 15, w ∈ wsX4_through := fun w h => List.mem_cons_of_mem _ (List.mem_append_left _ (List.mem_append_left _ (List.mem_append_right _ h)))
  have hl : lv_has ls 4 [(0, .ref x1), (1, .int (-1))] := hl
  refine lv_aload_n hx hb dX4_through_0 rfl (lv_at hl 0 rfl) ?_
  refine va_get (D := D) (ci := 4) (v := .ref x0) (C := RX4) (T := TX4) (N := 14) hx hb hts hiX4 hown hE.1 hP 0 rfl rfl 0 (by decide) (hts _ (List.mem_of_getElem? (i := 1) rfl)) (fun _ h9 => h9) rfl dX4_through_1 ?_
  refine va_get (D := D) (ci := 0) (v := .ref b1) (C := RX0) (T := TX0) (N := 15) hx hb hts hiX0 hown hE.1 hP 1 rfl rfl 1 (by decide) (hts _ (List.mem_of_getElem? (i := 2) rfl)) (fun _ h9 => h9) rfl dX4_through_4 ?_
  refine lv_iconst (v := 0) hx hb dX4_through_7 (by decide) ?_
  refine lv_aload_n hx hb dX4_through_8 rfl (lv_at hl 0 rfl) ?_
  refine va_get (D := D) (ci := 4) (v := .ref s5) (C := RX4) (T := TX4) (N := 14) hx hb hts hiX4 hown hE.1 hP 0 rfl rfl 5 (by decide) (hts _ (List.mem_of_getElem? (i := 3) rfl)) (fun _ h9 => h9) rfl dX4_through_9 ?_
  refine lv_iconst (v := 0) hx hb dX4_through_12 (by decide) ?_
  refine lv_bipush (v := 8) hx hb dX4_through_13 (by decide) ?_
  refine va_copyi hx hb (by rw [hml]; exact hl.1.symm) hown (hts _ (List.mem_of_getElem? (i := 4) rfl)) (hts _ (List.mem_of_getElem? (i := 5) rfl)) (hts _ (List.mem_of_getElem? (i := 6) rfl)) (hts _ (List.mem_of_getElem? (i := 7) rfl)) hE.1 hP hD hS 2 3 0 0 rfl rfl rfl rfl rfl (by decide) (by decide) (by decide) (by decide) (by decide) (fun _ _ => rfl) (Nat.le_of_ble_eq_true rfl) (Nat.le_of_ble_eq_true rfl) dX4_through_15 (fun H locs hP hD hS => ?_)
  have hP : va_P D vwCl [(x1, .inr (4, [.ref x0, .ref s1, .ref s2, .int 0, .int 0, .ref s5, .ref s6, .ref s7, .ref s8, .ref s9, .ref s10, .ref s11, .int 0, .int 0])), (x0, .inr (0, [.ref b0, .ref b1, .ref b2, .ref b3, .ref b4, .ref b5, .ref b6, .ref b7, .ref b8, .ref b9, .ref b10, .ref b11, .int 0, .int 0, .int 0])), (b1, .inl (cI, 8, .inl (fun _ => 0))), (s5, .inl (cI, 8, .inl (va_cpy (fun _ => 0) (fun _ => 0) (0 : Int32).toNatClampNeg (0 : Int32).toNatClampNeg (8 : Int32).toNatClampNeg))), (s7, .inl (cI, 8, .inl (fun _ => 0)))] H := hP
  have hD : va_D A [(x1, .inr (4, [.ref x0, .ref s1, .ref s2, .int 0, .int 0, .ref s5, .ref s6, .ref s7, .ref s8, .ref s9, .ref s10, .ref s11, .int 0, .int 0])), (x0, .inr (0, [.ref b0, .ref b1, .ref b2, .ref b3, .ref b4, .ref b5, .ref b6, .ref b7, .ref b8, .ref b9, .ref b10, .ref b11, .int 0, .int 0, .int 0])), (b1, .inl (cI, 8, .inl (fun _ => 0))), (s5, .inl (cI, 8, .inl (va_cpy (fun _ => 0) (fun _ => 0) (0 : Int32).toNatClampNeg (0 : Int32).toNatClampNeg (8 : Int32).toNatClampNeg))), (s7, .inl (cI, 8, .inl (fun _ => 0)))] := hD
  refine lv_aload_n hx hb dX4_through_18 rfl (lv_at hl 0 rfl) ?_
  refine va_get (D := D) (ci := 4) (v := .ref s7) (C := RX4) (T := TX4) (N := 14) hx hb hts hiX4 hown hE.1 hP 0 rfl rfl 7 (by decide) (hts _ (List.mem_of_getElem? (i := 8) rfl)) (fun _ h9 => h9) rfl dX4_through_19 ?_
  refine lv_iconst (v := (-1)) hx hb dX4_through_22 (by decide) ?_
  refine k_v (va_runS (As := [.ref s7, .int (-1)]) (rest := []) ⟨hx, hb, hml, hown, hts⟩ (m_J7_fill l D cI cJ H.size s7 (-1) 8 (fun _ => 0) (by decide)) (va_cwS 2 hts gX4_through_J7_fill_53178 rfl rfl rfl (by decide +kernel) ⟨Nat.le_of_ble_eq_true rfl, Nat.le_of_ble_eq_true rfl⟩) (k_pre hE hP hD [4] (by decide) rfl) rfl rfl hl.1 rfl (lv_room (Nat.le_of_ble_eq_true rfl)) dX4_through_23 ⟨Nat.le_of_ble_eq_true rfl, Nat.le_of_ble_eq_true rfl⟩) hP hD hS hA [4] [0, 1, 2, 3] rfl (wr := [(x1, .inr (4, [.ref x0, .ref s1, .ref s2, .int 0, .int 0, .ref s5, .ref s6, .ref s7, .ref s8, .ref s9, .ref s10, .ref s11, .int 0, .int 0])), (x0, .inr (0, [.ref b0, .ref b1, .ref b2, .ref b3, .ref b4, .ref b5, .ref b6, .ref b7, .ref b8, .ref b9, .ref b10, .ref b11, .int 0, .int 0, .int 0])), (b1, .inl (cI, 8, .inl (fun _ => 0))), (s5, .inl (cI, 8, .inl (va_cpy (fun _ => 0) (fun _ => 0) (0 : Int32).toNatClampNeg (0 : Int32).toNatClampNeg (8 : Int32).toNatClampNeg)))]) rfl (by decide) (by decide) (fun u H locs hw1 hP hD hS => ?_)
  subst hw1
  have hP : va_P D vwCl [(x1, .inr (4, [.ref x0, .ref s1, .ref s2, .int 0, .int 0, .ref s5, .ref s6, .ref s7, .ref s8, .ref s9, .ref s10, .ref s11, .int 0, .int 0])), (x0, .inr (0, [.ref b0, .ref b1, .ref b2, .ref b3, .ref b4, .ref b5, .ref b6, .ref b7, .ref b8, .ref b9, .ref b10, .ref b11, .int 0, .int 0, .int 0])), (b1, .inl (cI, 8, .inl (fun _ => 0))), (s5, .inl (cI, 8, .inl (va_cpy (fun _ => 0) (fun _ => 0) (0 : Int32).toNatClampNeg (0 : Int32).toNatClampNeg (8 : Int32).toNatClampNeg))), (s7, .inl (cI, 8, .inl (fl 8 (-1) (fun _ => 0))))] H := hP
  have hD : va_D A [(x1, .inr (4, [.ref x0, .ref s1, .ref s2, .int 0, .int 0, .ref s5, .ref s6, .ref s7, .ref s8, .ref s9, .ref s10, .ref s11, .int 0, .int 0])), (x0, .inr (0, [.ref b0, .ref b1, .ref b2, .ref b3, .ref b4, .ref b5, .ref b6, .ref b7, .ref b8, .ref b9, .ref b10, .ref b11, .int 0, .int 0, .int 0])), (b1, .inl (cI, 8, .inl (fun _ => 0))), (s5, .inl (cI, 8, .inl (va_cpy (fun _ => 0) (fun _ => 0) (0 : Int32).toNatClampNeg (0 : Int32).toNatClampNeg (8 : Int32).toNatClampNeg))), (s7, .inl (cI, 8, .inl (fl 8 (-1) (fun _ => 0))))] := hD
  refine lv_aload_n hx hb dX4_through_26 rfl (lv_at hl 0 rfl) ?_
  refine lv_iconst (v := 0) hx hb dX4_through_27 (by decide) ?_
  refine va_put (D := D) (ci := 4) (v := .int 0) (ty := .int) (C := RX4) (T := TX4) (N := 14) hx hb hts hiX4 tyX4 tyX4_ok nmX4 hown hE.1 hP hD hS 0 rfl rfl 13 (by decide) (hts _ (List.mem_of_getElem? (i := 9) rfl)) (fun _ h9 => h9) rfl (by decide +kernel) rfl rfl (Nat.le_of_ble_eq_true rfl) dX4_through_28 (fun H locs hP hD hS => ?_)
  have hP : va_P D vwCl [(x1, .inr (4, [.ref x0, .ref s1, .ref s2, .int 0, .int 0, .ref s5, .ref s6, .ref s7, .ref s8, .ref s9, .ref s10, .ref s11, .int 0, .int 0])), (x0, .inr (0, [.ref b0, .ref b1, .ref b2, .ref b3, .ref b4, .ref b5, .ref b6, .ref b7, .ref b8, .ref b9, .ref b10, .ref b11, .int 0, .int 0, .int 0])), (b1, .inl (cI, 8, .inl (fun _ => 0))), (s5, .inl (cI, 8, .inl (va_cpy (fun _ => 0) (fun _ => 0) (0 : Int32).toNatClampNeg (0 : Int32).toNatClampNeg (8 : Int32).toNatClampNeg))), (s7, .inl (cI, 8, .inl (fl 8 (-1) (fun _ => 0))))] H := hP
  have hD : va_D A [(x1, .inr (4, [.ref x0, .ref s1, .ref s2, .int 0, .int 0, .ref s5, .ref s6, .ref s7, .ref s8, .ref s9, .ref s10, .ref s11, .int 0, .int 0])), (x0, .inr (0, [.ref b0, .ref b1, .ref b2, .ref b3, .ref b4, .ref b5, .ref b6, .ref b7, .ref b8, .ref b9, .ref b10, .ref b11, .int 0, .int 0, .int 0])), (b1, .inl (cI, 8, .inl (fun _ => 0))), (s5, .inl (cI, 8, .inl (va_cpy (fun _ => 0) (fun _ => 0) (0 : Int32).toNatClampNeg (0 : Int32).toNatClampNeg (8 : Int32).toNatClampNeg))), (s7, .inl (cI, 8, .inl (fl 8 (-1) (fun _ => 0))))] := hD
  refine lv_iconst (v := 0) hx hb dX4_through_31 (by decide) ?_
  refine lv_istore_n (lv' := [(2, .int 0), (0, .ref x1), (1, .int (-1))]) hx hb dX4_through_32 rfl hl (by decide) rfl (fun ls hl => ?_)
  refine lv_iload_n hx hb dX4_through_33 rfl (lv_at hl 0 rfl) ?_
  refine lv_iload_n hx hb dX4_through_34 rfl (lv_at hl 2 rfl) ?_
  refine lv_icmp_gt (tgt := 115) hx hb dX4_through_35 (by decide) (fun _ => ?_) (fun c2 => absurd (by decide) c2)
  refine k_vret (u := [(x1, .inr (4, [.ref x0, .ref s1, .ref s2, .int 0, .int 0, .ref s5, .ref s6, .ref s7, .ref s8, .ref s9, .ref s10, .ref s11, .int 0, .int 0])), (x0, .inr (0, [.ref b0, .ref b1, .ref b2, .ref b3, .ref b4, .ref b5, .ref b6, .ref b7, .ref b8, .ref b9, .ref b10, .ref b11, .int 0, .int 0, .int 0])), (b1, .inl (cI, 8, .inl (fun _ => 0))), (s5, .inl (cI, 8, .inl (va_cpy (fun _ => 0) (fun _ => 0) (0 : Int32).toNatClampNeg (0 : Int32).toNatClampNeg (8 : Int32).toNatClampNeg))), (s7, .inl (cI, 8, .inl (fl 8 (-1) (fun _ => 0))))]) hx hb hr hlk hP hD hS dX4_through_115 ?_
  exact rfl
theorem dX7_settleAll_0 : decode cX7_settleAll 0 = .ok (.aload_n 0, 1) := by decide +kernel
theorem dX7_settleAll_1 : decode cX7_settleAll 1 = .ok (.getfield 10, 3) := by decide +kernel
theorem dX7_settleAll_4 : decode cX7_settleAll 4 = .ok (.invokevirtual 287, 3) := by decide +kernel
theorem dX7_settleAll_7 : decode cX7_settleAll 7 = .ok (.aload_n 0, 1) := by decide +kernel
theorem dX7_settleAll_8 : decode cX7_settleAll 8 = .ok (.getfield 10, 3) := by decide +kernel
theorem dX7_settleAll_11 : decode cX7_settleAll 11 = .ok (.aload_n 0, 1) := by decide +kernel
theorem dX7_settleAll_12 : decode cX7_settleAll 12 = .ok (.getfield 20, 3) := by decide +kernel
theorem dX7_settleAll_15 : decode cX7_settleAll 15 = .ok (.getfield 103, 3) := by decide +kernel
theorem dX7_settleAll_18 : decode cX7_settleAll 18 = .ok (.iconst 1, 1) := by decide +kernel
theorem dX7_settleAll_19 : decode cX7_settleAll 19 = .ok (.isub, 1) := by decide +kernel
theorem dX7_settleAll_20 : decode cX7_settleAll 20 = .ok (.invokevirtual 291, 3) := by decide +kernel
theorem dX7_settleAll_23 : decode cX7_settleAll 23 = .ok (.return_, 1) := by decide +kernel
set_option maxRecDepth 20000 in
theorem ggX7_settleAll_X4_asBooked : GoodIn wsX7_settleAll wsX4_asBooked := goodIn_r _ [8, 9, 10, 11, 12, 13, 14, 15, 16, 17, 18, 19, 20, 21, 22, 23, 24, 25, 167, 168, 169, 170, 171, 172, 173, 174, 175, 176, 177, 178, 179, 180, 152, 153, 154, 155, 156, 157, 158, 159, 160, 161, 162, 163, 164, 165, 166, 181, 182, 183, 184, 185, 186, 187, 188, 189] (by decide +kernel) (by decide +kernel)
set_option maxRecDepth 20000 in
theorem gX7_settleAll_X4_asBooked : GoodIn wsX7_settleAll (wsV RX7 287 RX4 yX4_asBooked wsX4_asBooked) := goodIn_app (goodIn_of _ (by decide +kernel)) ggX7_settleAll_X4_asBooked
set_option maxRecDepth 20000 in
theorem ggX7_settleAll_X4_through : GoodIn wsX7_settleAll wsX4_through := goodIn_r _ [29, 9, 30, 31, 16, 17, 18, 19, 32, 33, 34, 35, 14, 36, 37, 38, 39, 40, 41, 42, 43, 7, 44, 45, 46, 10, 47, 48, 49, 50, 51, 52, 53, 54, 55, 56, 57, 58, 59, 60, 61, 62, 63, 64, 65, 66, 67, 68, 69, 70, 71, 72, 73, 74, 75, 76, 77, 78, 79, 80, 81, 82, 83, 84, 85, 86, 87, 88, 89, 90, 91, 92, 93, 94, 95, 96, 97, 98, 99, 100, 101, 102, 103, 104, 12, 105, 106, 107, 108, 109, 110, 111, 112, 113, 114, 115, 116, 117, 118, 119, 120, 121, 122, 123, 124, 125, 126, 127, 128, 129, 130, 131, 132, 133, 134, 135, 136, 137, 138, 139, 140, 141, 142, 143, 144, 145, 167, 168, 169, 170, 171, 172, 173, 174, 175, 176, 177, 178, 179, 180, 152, 153, 154, 155, 156, 157, 158, 159, 160, 161, 162, 163, 164, 165, 166, 181, 182, 183, 184, 185, 186, 187, 188, 189, 190, 191, 192] (by decide +kernel) (by decide +kernel)
set_option maxRecDepth 20000 in
theorem gX7_settleAll_X4_through : GoodIn wsX7_settleAll (wsV RX7 291 RX4 yX4_through wsX4_through) := goodIn_app (goodIn_of _ (by decide +kernel)) ggX7_settleAll_X4_through
set_option maxHeartbeats 4000000 in
set_option maxRecDepth 100000 in
theorem f_X7_settleAll (l : Launch) (D : va_G) (cI cJ : ClassId) (sz : Nat) (x x0 x1 x2 x3 x4 x5 b0 b1 b2 b3 b4 b5 b6 b7 b8 b9 b10 b11 s1 s2 s5 s6 s7 s8 s9 s10 s11 w0 w1 w2 w3 w4 w8 : Nat) : Met l yX7_settleAll wsX7_settleAll { frames := 2, cells := 0, slots := 0, locals := 63 } (cPc D cI cJ [.ref x] sz [(x, .inr (7, [.ref x0, .ref x1, .ref x2, .ref x3, .ref x4, .ref x5])), (x0, .inr (0, [.ref b0, .ref b1, .ref b2, .ref b3, .ref b4, .ref b5, .ref b6, .ref b7, .ref b8, .ref b9, .ref b10, .ref b11, .int 0, .int 0, .int 0])), (x1, .inr (4, [.ref x0, .ref s1, .ref s2, .int 0, .int 0, .ref s5, .ref s6, .ref s7, .ref s8, .ref s9, .ref s10, .ref s11, .int 0, .int 0])), (s1, .inr (6, [.ref w0, .ref w1, .ref w2, .ref w3, .ref w4, .int 0, .int 0, .int 0, .ref w8])), (b5, .inl (cI, 8, .inl (fun _ => 0))), (w0, .inl (cI, 8, .inl (fun _ => 0))), (b1, .inl (cI, 8, .inl (fun _ => 0))), (s5, .inl (cI, 8, .inl (fun _ => 0))), (s7, .inl (cI, 8, .inl (fun _ => 0)))]) (cQv D (fun u => u = [(x, .inr (7, [.ref x0, .ref x1, .ref x2, .ref x3, .ref x4, .ref x5])), (x0, .inr (0, [.ref b0, .ref b1, .ref b2, .ref b3, .ref b4, .ref b5, .ref b6, .ref b7, .ref b8, .ref b9, .ref b10, .ref b11, .int 0, .int 0, .int 0])), (x1, .inr (4, [.ref x0, .ref s1, .ref s2, .int 0, .int 0, .ref s5, .ref s6, .ref s7, .ref s8, .ref s9, .ref s10, .ref s11, .int 0, .int 0])), (s1, .inr (6, [.ref w0, .ref w1, .ref w2, .ref w3, .ref w4, .int 0, .int 0, .int 0, .ref w8])), (b5, .inl (cI, 8, .inl (fun _ => 0))), (w0, .inl (cI, 8, .inl (va_cpy (fun _ => 0) (fun _ => 0) (0 : Int32).toNatClampNeg (0 : Int32).toNatClampNeg (8 : Int32).toNatClampNeg))), (b1, .inl (cI, 8, .inl (fun _ => 0))), (s5, .inl (cI, 8, .inl (va_cpy (fun _ => 0) (fun _ => 0) (0 : Int32).toNatClampNeg (0 : Int32).toNatClampNeg (8 : Int32).toNatClampNeg))), (s7, .inl (cI, 8, .inl (fl 8 (-1) (fun _ => 0))))]) (va_A [(x, .inr (7, [.ref x0, .ref x1, .ref x2, .ref x3, .ref x4, .ref x5])), (x0, .inr (0, [.ref b0, .ref b1, .ref b2, .ref b3, .ref b4, .ref b5, .ref b6, .ref b7, .ref b8, .ref b9, .ref b10, .ref b11, .int 0, .int 0, .int 0])), (x1, .inr (4, [.ref x0, .ref s1, .ref s2, .int 0, .int 0, .ref s5, .ref s6, .ref s7, .ref s8, .ref s9, .ref s10, .ref s11, .int 0, .int 0])), (s1, .inr (6, [.ref w0, .ref w1, .ref w2, .ref w3, .ref w4, .int 0, .int 0, .int 0, .ref w8])), (b5, .inl (cI, 8, .inl (fun _ => 0))), (w0, .inl (cI, 8, .inl (fun _ => 0))), (b1, .inl (cI, 8, .inl (fun _ => 0))), (s5, .inl (cI, 8, .inl (fun _ => 0))), (s7, .inl (cI, 8, .inl (fun _ => 0)))] sz)) 0 0 (va_A [(x, .inr (7, [.ref x0, .ref x1, .ref x2, .ref x3, .ref x4, .ref x5])), (x0, .inr (0, [.ref b0, .ref b1, .ref b2, .ref b3, .ref b4, .ref b5, .ref b6, .ref b7, .ref b8, .ref b9, .ref b10, .ref b11, .int 0, .int 0, .int 0])), (x1, .inr (4, [.ref x0, .ref s1, .ref s2, .int 0, .int 0, .ref s5, .ref s6, .ref s7, .ref s8, .ref s9, .ref s10, .ref s11, .int 0, .int 0])), (s1, .inr (6, [.ref w0, .ref w1, .ref w2, .ref w3, .ref w4, .int 0, .int 0, .int 0, .ref w8])), (b5, .inl (cI, 8, .inl (fun _ => 0))), (w0, .inl (cI, 8, .inl (fun _ => 0))), (b1, .inl (cI, 8, .inl (fun _ => 0))), (s5, .inl (cI, 8, .inl (fun _ => 0))), (s7, .inl (cI, 8, .inl (fun _ => 0)))] sz) := by
  refine k_ofW (Qc := cQv D (fun u => u = [(x, .inr (7, [.ref x0, .ref x1, .ref x2, .ref x3, .ref x4, .ref x5])), (x0, .inr (0, [.ref b0, .ref b1, .ref b2, .ref b3, .ref b4, .ref b5, .ref b6, .ref b7, .ref b8, .ref b9, .ref b10, .ref b11, .int 0, .int 0, .int 0])), (x1, .inr (4, [.ref x0, .ref s1, .ref s2, .int 0, .int 0, .ref s5, .ref s6, .ref s7, .ref s8, .ref s9, .ref s10, .ref s11, .int 0, .int 0])), (s1, .inr (6, [.ref w0, .ref w1, .ref w2, .ref w3, .ref w4, .int 0, .int 0, .int 0, .ref w8])), (b5, .inl (cI, 8, .inl (fun _ => 0))), (w0, .inl (cI, 8, .inl (va_cpy (fun _ => 0) (fun _ => 0) (0 : Int32).toNatClampNeg (0 : Int32).toNatClampNeg (8 : Int32).toNatClampNeg))), (b1, .inl (cI, 8, .inl (fun _ => 0))), (s5, .inl (cI, 8, .inl (va_cpy (fun _ => 0) (fun _ => 0) (0 : Int32).toNatClampNeg (0 : Int32).toNatClampNeg (8 : Int32).toNatClampNeg))), (s7, .inl (cI, 8, .inl (fl 8 (-1) (fun _ => 0))))])) (by decide) rfl (Nat.le_of_ble_eq_true rfl) ?_
  intro p e s m below meth c A ls hx hb hr hml hts hown hlk hnm hsz hE hP hD hS hA hl
  have hown : s.vm.findClass RX7 = some m.cls := hown
  have hiX7 : ∀ w ∈ u_ws RX7 TX7 6, w ∈ wsX7_settleAll := fun w h => List.mem_cons_of_mem _ (List.mem_append_left _ (List.mem_append_left _ (List.mem_append_left _ (List.mem_append_left _ (List.mem_append_right _ h)))))
  have hiX0 : ∀ w ∈ u_ws RX0 TX0 15, w ∈ wsX7_settleAll := fun w h => List.mem_cons_of_mem _ (List.mem_append_left _ (List.mem_append_left _ (List.mem_append_left _ (List.mem_append_right _ h))))
  have hl : lv_has ls 1 [(0, .ref x)] := hl
  refine lv_aload_n hx hb dX7_settleAll_0 rfl (lv_at hl 0 rfl) ?_
  refine va_get (D := D) (ci := 7) (v := .ref x1) (C := RX7) (T := TX7) (N := 6) hx hb hts hiX7 hown hE.1 hP 0 rfl rfl 1 (by decide) (hts _ (List.mem_of_getElem? (i := 1) rfl)) (fun _ h9 => h9) rfl dX7_settleAll_1 ?_
  refine k_v (va_runV (As := []) (rest := []) ⟨hx, hb, hml, hown, hts⟩ (f_X4_asBooked l D cI cJ (s.heap).size x1 x0 s1 s2 s5 s6 s7 s8 s9 s10 s11 b0 b1 b2 b3 b4 b5 b6 b7 b8 b9 b10 b11 w0 w1 w2 w3 w4 w8) (cwV 0 hts gX7_settleAll_X4_asBooked rfl rfl rfl (by decide +kernel) ⟨Nat.le_of_ble_eq_true rfl, Nat.le_of_ble_eq_true rfl⟩) (k_preV hE hP hD [2, 1, 3, 4, 5] (by decide) rfl 2 rfl rfl) rfl rfl hl.1 rfl (lv_room (Nat.le_of_ble_eq_true rfl)) dX7_settleAll_4 ⟨Nat.le_of_ble_eq_true rfl, Nat.le_of_ble_eq_true rfl⟩) hP hD hS hA [2, 1, 3, 4, 5] [0, 6, 7, 8] rfl (wr := [(x, .inr (7, [.ref x0, .ref x1, .ref x2, .ref x3, .ref x4, .ref x5])), (b1, .inl (cI, 8, .inl (fun _ => 0))), (s5, .inl (cI, 8, .inl (fun _ => 0))), (s7, .inl (cI, 8, .inl (fun _ => 0)))]) rfl (by decide) (by decide) (fun u H locs hw1 hP hD hS => ?_)
  subst hw1
  have hP : va_P D vwCl [(x, .inr (7, [.ref x0, .ref x1, .ref x2, .ref x3, .ref x4, .ref x5])), (b1, .inl (cI, 8, .inl (fun _ => 0))), (s5, .inl (cI, 8, .inl (fun _ => 0))), (s7, .inl (cI, 8, .inl (fun _ => 0))), (x1, .inr (4, [.ref x0, .ref s1, .ref s2, .int 0, .int 0, .ref s5, .ref s6, .ref s7, .ref s8, .ref s9, .ref s10, .ref s11, .int 0, .int 0])), (x0, .inr (0, [.ref b0, .ref b1, .ref b2, .ref b3, .ref b4, .ref b5, .ref b6, .ref b7, .ref b8, .ref b9, .ref b10, .ref b11, .int 0, .int 0, .int 0])), (s1, .inr (6, [.ref w0, .ref w1, .ref w2, .ref w3, .ref w4, .int 0, .int 0, .int 0, .ref w8])), (b5, .inl (cI, 8, .inl (fun _ => 0))), (w0, .inl (cI, 8, .inl (va_cpy (fun _ => 0) (fun _ => 0) (0 : Int32).toNatClampNeg (0 : Int32).toNatClampNeg (8 : Int32).toNatClampNeg)))] H := hP
  have hD : va_D A [(x, .inr (7, [.ref x0, .ref x1, .ref x2, .ref x3, .ref x4, .ref x5])), (b1, .inl (cI, 8, .inl (fun _ => 0))), (s5, .inl (cI, 8, .inl (fun _ => 0))), (s7, .inl (cI, 8, .inl (fun _ => 0))), (x1, .inr (4, [.ref x0, .ref s1, .ref s2, .int 0, .int 0, .ref s5, .ref s6, .ref s7, .ref s8, .ref s9, .ref s10, .ref s11, .int 0, .int 0])), (x0, .inr (0, [.ref b0, .ref b1, .ref b2, .ref b3, .ref b4, .ref b5, .ref b6, .ref b7, .ref b8, .ref b9, .ref b10, .ref b11, .int 0, .int 0, .int 0])), (s1, .inr (6, [.ref w0, .ref w1, .ref w2, .ref w3, .ref w4, .int 0, .int 0, .int 0, .ref w8])), (b5, .inl (cI, 8, .inl (fun _ => 0))), (w0, .inl (cI, 8, .inl (va_cpy (fun _ => 0) (fun _ => 0) (0 : Int32).toNatClampNeg (0 : Int32).toNatClampNeg (8 : Int32).toNatClampNeg)))] := hD
  refine lv_aload_n hx hb dX7_settleAll_7 rfl (lv_at hl 0 rfl) ?_
  refine va_get (D := D) (ci := 7) (v := .ref x1) (C := RX7) (T := TX7) (N := 6) hx hb hts hiX7 hown hE.1 hP 0 rfl rfl 1 (by decide) (hts _ (List.mem_of_getElem? (i := 1) rfl)) (fun _ h9 => h9) rfl dX7_settleAll_8 ?_
  refine lv_aload_n hx hb dX7_settleAll_11 rfl (lv_at hl 0 rfl) ?_
  refine va_get (D := D) (ci := 7) (v := .ref x0) (C := RX7) (T := TX7) (N := 6) hx hb hts hiX7 hown hE.1 hP 0 rfl rfl 0 (by decide) (hts _ (List.mem_of_getElem? (i := 2) rfl)) (fun _ h9 => h9) rfl dX7_settleAll_12 ?_
  refine va_get (D := D) (ci := 0) (v := .int 0) (C := RX0) (T := TX0) (N := 15) hx hb hts hiX0 hown hE.1 hP 5 rfl rfl 13 (by decide) (hts _ (List.mem_of_getElem? (i := 3) rfl)) (fun _ h9 => h9) rfl dX7_settleAll_15 ?_
  refine lv_iconst (v := 1) hx hb dX7_settleAll_18 (by decide) ?_
  refine lv_isub hx hb dX7_settleAll_19 ?_
  refine lv_topi (fun v2 ev2 => ?_)
  obtain rfl : v2 = (-1) := by rw [ev2]; decide
  refine k_v (va_runV (As := [.int (-1)]) (rest := []) ⟨hx, hb, hml, hown, hts⟩ (f_X4_through l D cI cJ H.size x1 x0 s1 s2 s5 s6 s7 s8 s9 s10 s11 b0 b1 b2 b3 b4 b5 b6 b7 b8 b9 b10 b11) (cwV 1 hts gX7_settleAll_X4_through rfl rfl rfl (by decide +kernel) ⟨Nat.le_of_ble_eq_true rfl, Nat.le_of_ble_eq_true rfl⟩) (k_preV hE hP hD [4, 5, 1, 2, 3] (by decide) rfl 4 rfl rfl) rfl rfl hl.1 rfl (lv_room (Nat.le_of_ble_eq_true rfl)) dX7_settleAll_20 ⟨Nat.le_of_ble_eq_true rfl, Nat.le_of_ble_eq_true rfl⟩) hP hD hS hA [4, 5, 1, 2, 3] [0, 6, 7, 8] rfl (wr := [(x, .inr (7, [.ref x0, .ref x1, .ref x2, .ref x3, .ref x4, .ref x5])), (s1, .inr (6, [.ref w0, .ref w1, .ref w2, .ref w3, .ref w4, .int 0, .int 0, .int 0, .ref w8])), (b5, .inl (cI, 8, .inl (fun _ => 0))), (w0, .inl (cI, 8, .inl (va_cpy (fun _ => 0) (fun _ => 0) (0 : Int32).toNatClampNeg (0 : Int32).toNatClampNeg (8 : Int32).toNatClampNeg)))]) rfl (by decide) (by decide) (fun u H locs hw3 hP hD hS => ?_)
  subst hw3
  have hP : va_P D vwCl [(x, .inr (7, [.ref x0, .ref x1, .ref x2, .ref x3, .ref x4, .ref x5])), (s1, .inr (6, [.ref w0, .ref w1, .ref w2, .ref w3, .ref w4, .int 0, .int 0, .int 0, .ref w8])), (b5, .inl (cI, 8, .inl (fun _ => 0))), (w0, .inl (cI, 8, .inl (va_cpy (fun _ => 0) (fun _ => 0) (0 : Int32).toNatClampNeg (0 : Int32).toNatClampNeg (8 : Int32).toNatClampNeg))), (x1, .inr (4, [.ref x0, .ref s1, .ref s2, .int 0, .int 0, .ref s5, .ref s6, .ref s7, .ref s8, .ref s9, .ref s10, .ref s11, .int 0, .int 0])), (x0, .inr (0, [.ref b0, .ref b1, .ref b2, .ref b3, .ref b4, .ref b5, .ref b6, .ref b7, .ref b8, .ref b9, .ref b10, .ref b11, .int 0, .int 0, .int 0])), (b1, .inl (cI, 8, .inl (fun _ => 0))), (s5, .inl (cI, 8, .inl (va_cpy (fun _ => 0) (fun _ => 0) (0 : Int32).toNatClampNeg (0 : Int32).toNatClampNeg (8 : Int32).toNatClampNeg))), (s7, .inl (cI, 8, .inl (fl 8 (-1) (fun _ => 0))))] H := hP
  have hD : va_D A [(x, .inr (7, [.ref x0, .ref x1, .ref x2, .ref x3, .ref x4, .ref x5])), (s1, .inr (6, [.ref w0, .ref w1, .ref w2, .ref w3, .ref w4, .int 0, .int 0, .int 0, .ref w8])), (b5, .inl (cI, 8, .inl (fun _ => 0))), (w0, .inl (cI, 8, .inl (va_cpy (fun _ => 0) (fun _ => 0) (0 : Int32).toNatClampNeg (0 : Int32).toNatClampNeg (8 : Int32).toNatClampNeg))), (x1, .inr (4, [.ref x0, .ref s1, .ref s2, .int 0, .int 0, .ref s5, .ref s6, .ref s7, .ref s8, .ref s9, .ref s10, .ref s11, .int 0, .int 0])), (x0, .inr (0, [.ref b0, .ref b1, .ref b2, .ref b3, .ref b4, .ref b5, .ref b6, .ref b7, .ref b8, .ref b9, .ref b10, .ref b11, .int 0, .int 0, .int 0])), (b1, .inl (cI, 8, .inl (fun _ => 0))), (s5, .inl (cI, 8, .inl (va_cpy (fun _ => 0) (fun _ => 0) (0 : Int32).toNatClampNeg (0 : Int32).toNatClampNeg (8 : Int32).toNatClampNeg))), (s7, .inl (cI, 8, .inl (fl 8 (-1) (fun _ => 0))))] := hD
  refine k_vret (u := [(x, .inr (7, [.ref x0, .ref x1, .ref x2, .ref x3, .ref x4, .ref x5])), (x0, .inr (0, [.ref b0, .ref b1, .ref b2, .ref b3, .ref b4, .ref b5, .ref b6, .ref b7, .ref b8, .ref b9, .ref b10, .ref b11, .int 0, .int 0, .int 0])), (x1, .inr (4, [.ref x0, .ref s1, .ref s2, .int 0, .int 0, .ref s5, .ref s6, .ref s7, .ref s8, .ref s9, .ref s10, .ref s11, .int 0, .int 0])), (s1, .inr (6, [.ref w0, .ref w1, .ref w2, .ref w3, .ref w4, .int 0, .int 0, .int 0, .ref w8])), (b5, .inl (cI, 8, .inl (fun _ => 0))), (w0, .inl (cI, 8, .inl (va_cpy (fun _ => 0) (fun _ => 0) (0 : Int32).toNatClampNeg (0 : Int32).toNatClampNeg (8 : Int32).toNatClampNeg))), (b1, .inl (cI, 8, .inl (fun _ => 0))), (s5, .inl (cI, 8, .inl (va_cpy (fun _ => 0) (fun _ => 0) (0 : Int32).toNatClampNeg (0 : Int32).toNatClampNeg (8 : Int32).toNatClampNeg))), (s7, .inl (cI, 8, .inl (fl 8 (-1) (fun _ => 0))))]) hx hb hr hlk (k_sub hP [0, 5, 4, 1, 2, 3, 6, 7, 8] rfl) (hD.sub [0, 5, 4, 1, 2, 3, 6, 7, 8] (by decide) rfl) hS dX7_settleAll_23 ?_
  exact rfl
theorem dX4_usedUp_0 : decode cX4_usedUp 0 = .ok (.iconst 0, 1) := by decide +kernel
theorem dX4_usedUp_1 : decode cX4_usedUp 1 = .ok (.istore_n 1, 1) := by decide +kernel
theorem dX4_usedUp_2 : decode cX4_usedUp 2 = .ok (.iconst 0, 1) := by decide +kernel
theorem dX4_usedUp_3 : decode cX4_usedUp 3 = .ok (.istore_n 2, 1) := by decide +kernel
theorem dX4_usedUp_4 : decode cX4_usedUp 4 = .ok (.iload_n 2, 1) := by decide +kernel
theorem dX4_usedUp_5 : decode cX4_usedUp 5 = .ok (.bipush 8, 2) := by decide +kernel
theorem dX4_usedUp_7 : decode cX4_usedUp 7 = .ok (.if_icmp .ge 35, 3) := by decide +kernel
theorem dX4_usedUp_10 : decode cX4_usedUp 10 = .ok (.aload_n 0, 1) := by decide +kernel
theorem dX4_usedUp_11 : decode cX4_usedUp 11 = .ok (.getfield 58, 3) := by decide +kernel
theorem dX4_usedUp_14 : decode cX4_usedUp 14 = .ok (.iload_n 2, 1) := by decide +kernel
theorem dX4_usedUp_15 : decode cX4_usedUp 15 = .ok (.invokestatic 113, 3) := by decide +kernel
theorem dX4_usedUp_18 : decode cX4_usedUp 18 = .ok (.ifCond .eq 18, 3) := by decide +kernel
theorem dX4_usedUp_36 : decode cX4_usedUp 36 = .ok (.iinc 2 1, 3) := by decide +kernel
theorem dX4_usedUp_39 : decode cX4_usedUp 39 = .ok (.goto (-35), 3) := by decide +kernel
theorem dX4_usedUp_42 : decode cX4_usedUp 42 = .ok (.iload_n 1, 1) := by decide +kernel
theorem dX4_usedUp_43 : decode cX4_usedUp 43 = .ok (.ireturn, 1) := by decide +kernel
set_option maxRecDepth 20000 in
theorem ggX4_usedUp_X7_has : GoodIn wsX4_usedUp wsX7_has := goodIn_r _ [5] (by decide +kernel) (by decide +kernel)
set_option maxRecDepth 20000 in
theorem gX4_usedUp_X7_has_n113 : GoodIn wsX4_usedUp (wsX7_has) := ggX4_usedUp_X7_has
set_option maxHeartbeats 4000000 in
set_option maxRecDepth 100000 in
theorem f_X4_usedUp (l : Launch) (D : va_G) (cI cJ : ClassId) (sz : Nat) (x1 x0 s1 s2 s5 s6 s7 s8 s9 s10 s11 : Nat) : Met l yX4_usedUp wsX4_usedUp { frames := 1, cells := 0, slots := 0, locals := 21 } (cPc D cI cJ [.ref x1] sz [(x1, .inr (4, [.ref x0, .ref s1, .ref s2, .int 0, .int 0, .ref s5, .ref s6, .ref s7, .ref s8, .ref s9, .ref s10, .ref s11, .int 0, .int 0]))]) (cQi D (fun r u => r = 0 ∧ u = [(x1, .inr (4, [.ref x0, .ref s1, .ref s2, .int 0, .int 0, .ref s5, .ref s6, .ref s7, .ref s8, .ref s9, .ref s10, .ref s11, .int 0, .int 0]))]) (va_A [(x1, .inr (4, [.ref x0, .ref s1, .ref s2, .int 0, .int 0, .ref s5, .ref s6, .ref s7, .ref s8, .ref s9, .ref s10, .ref s11, .int 0, .int 0]))] sz)) 0 0 (va_A [(x1, .inr (4, [.ref x0, .ref s1, .ref s2, .int 0, .int 0, .ref s5, .ref s6, .ref s7, .ref s8, .ref s9, .ref s10, .ref s11, .int 0, .int 0]))] sz) := by
  refine k_ofW (Qc := cQi D (fun r u => r = 0 ∧ u = [(x1, .inr (4, [.ref x0, .ref s1, .ref s2, .int 0, .int 0, .ref s5, .ref s6, .ref s7, .ref s8, .ref s9, .ref s10, .ref s11, .int 0, .int 0]))])) (by decide) rfl (Nat.le_of_ble_eq_true rfl) ?_
  intro p e s m below meth c A ls hx hb hr hml hts hown hlk hnm hsz hE hP hD hS hA hl
  have hown : s.vm.findClass RX4 = some m.cls := hown
  have hiX4 : ∀ w ∈ u_ws RX4 TX4 14, w ∈ wsX4_usedUp := fun w h => List.mem_cons_of_mem _ (List.mem_append_right _ h)
  have hl : lv_has ls 3 [(0, .ref x1)] := hl
  refine lv_iconst (v := 0) hx hb dX4_usedUp_0 (by decide) ?_
  refine lv_istore_n (lv' := [(1, .int 0), (0, .ref x1)]) hx hb dX4_usedUp_1 rfl hl (by decide) rfl (fun ls hl => ?_)
  refine lv_iconst (v := 0) hx hb dX4_usedUp_2 (by decide) ?_
  refine lv_istore_n (lv' := [(2, .int 0), (1, .int 0), (0, .ref x1)]) hx hb dX4_usedUp_3 rfl hl (by decide) rfl (fun ls hl => ?_)
  refine lv_iload_n hx hb dX4_usedUp_4 rfl (lv_at hl 0 rfl) ?_
  refine lv_bipush (v := 8) hx hb dX4_usedUp_5 (by decide) ?_
  refine lv_icmp_ge (tgt := 42) hx hb dX4_usedUp_7 (by decide) (fun c1 => absurd c1 (by decide)) (fun _ => ?_)
  refine lv_aload_n hx hb dX4_usedUp_10 rfl (lv_at hl 2 rfl) ?_
  refine va_get (D := D) (ci := 4) (v := .int 0) (C := RX4) (T := TX4) (N := 14) hx hb hts hiX4 hown hE.1 hP 0 rfl rfl 3 (by decide) (hts _ (List.mem_of_getElem? (i := 1) rfl)) (fun _ h9 => h9) rfl dX4_usedUp_11 ?_
  refine lv_iload_n hx hb dX4_usedUp_14 rfl (lv_at hl 0 rfl) ?_
  refine k_i (va_runSN (As := [.int 0, .int 0]) (rest := []) ⟨hx, hb, hml, hown, hts⟩ (m_X7_has l D cI cJ (s.heap).size 0 0) ⟨va_cnB 2 hts gX4_usedUp_X7_has_n113 rfl rfl rfl (hE.2 5 _ rfl) (hts _ (List.mem_of_getElem? (i := 4) rfl)) (by decide +kernel) ⟨Nat.le_of_ble_eq_true rfl, Nat.le_of_ble_eq_true rfl⟩, (hts _ (List.mem_of_getElem? (i := 3) rfl)), trivial⟩ (k_pre hE hP hD [] (by decide) rfl) rfl rfl hl.1 rfl (lv_room (Nat.le_of_ble_eq_true rfl)) dX4_usedUp_15 ⟨Nat.le_of_ble_eq_true rfl, Nat.le_of_ble_eq_true rfl⟩) hP hD hS hA [] [0] rfl (wr := [(x1, .inr (4, [.ref x0, .ref s1, .ref s2, .int 0, .int 0, .ref s5, .ref s6, .ref s7, .ref s8, .ref s9, .ref s10, .ref s11, .int 0, .int 0]))]) rfl (by decide) (by decide) (fun r2 u H locs hw3 hP hD hS => ?_)
  obtain ⟨hw3, rfl⟩ := hw3
  obtain rfl : r2 = 0 := by rw [hw3]; exact bz_z (by decide)
  have hP : va_P D vwCl [(x1, .inr (4, [.ref x0, .ref s1, .ref s2, .int 0, .int 0, .ref s5, .ref s6, .ref s7, .ref s8, .ref s9, .ref s10, .ref s11, .int 0, .int 0]))] H := hP
  have hD : va_D A [(x1, .inr (4, [.ref x0, .ref s1, .ref s2, .int 0, .int 0, .ref s5, .ref s6, .ref s7, .ref s8, .ref s9, .ref s10, .ref s11, .int 0, .int 0]))] := hD
  refine lv_if_eq (tgt := 36) hx hb dX4_usedUp_18 (by decide) (fun _ => ?_) (fun c4 => absurd (by decide) c4)
  refine lv_iinc (v := 1) (lv' := [(2, .int 1), (1, .int 0), (0, .ref x1)]) hx hb dX4_usedUp_36 hl (k := 0) rfl (by decide) (by decide) rfl (fun ls hl => ?_)
  refine lv_goto (tgt := 4) hx hb dX4_usedUp_39 (by decide) ?_
  refine lv_iload_n hx hb dX4_usedUp_4 rfl (lv_at hl 0 rfl) ?_
  refine lv_bipush (v := 8) hx hb dX4_usedUp_5 (by decide) ?_
  refine lv_icmp_ge (tgt := 42) hx hb dX4_usedUp_7 (by decide) (fun c5 => absurd c5 (by decide)) (fun _ => ?_)
  refine lv_aload_n hx hb dX4_usedUp_10 rfl (lv_at hl 2 rfl) ?_
  refine va_get (D := D) (ci := 4) (v := .int 0) (C := RX4) (T := TX4) (N := 14) hx hb hts hiX4 hown hE.1 hP 0 rfl rfl 3 (by decide) (hts _ (List.mem_of_getElem? (i := 1) rfl)) (fun _ h9 => h9) rfl dX4_usedUp_11 ?_
  refine lv_iload_n hx hb dX4_usedUp_14 rfl (lv_at hl 0 rfl) ?_
  refine k_i (va_runSN (As := [.int 0, .int 1]) (rest := []) ⟨hx, hb, hml, hown, hts⟩ (m_X7_has l D cI cJ H.size 0 1) ⟨va_cnB 2 hts gX4_usedUp_X7_has_n113 rfl rfl rfl (hE.2 5 _ rfl) (hts _ (List.mem_of_getElem? (i := 4) rfl)) (by decide +kernel) ⟨Nat.le_of_ble_eq_true rfl, Nat.le_of_ble_eq_true rfl⟩, (hts _ (List.mem_of_getElem? (i := 3) rfl)), trivial⟩ (k_pre hE hP hD [] (by decide) rfl) rfl rfl hl.1 rfl (lv_room (Nat.le_of_ble_eq_true rfl)) dX4_usedUp_15 ⟨Nat.le_of_ble_eq_true rfl, Nat.le_of_ble_eq_true rfl⟩) hP hD hS hA [] [0] rfl (wr := [(x1, .inr (4, [.ref x0, .ref s1, .ref s2, .int 0, .int 0, .ref s5, .ref s6, .ref s7, .ref s8, .ref s9, .ref s10, .ref s11, .int 0, .int 0]))]) rfl (by decide) (by decide) (fun r6 u H locs hw7 hP hD hS => ?_)
  obtain ⟨hw7, rfl⟩ := hw7
  obtain rfl : r6 = 0 := by rw [hw7]; exact bz_z (by decide)
  have hP : va_P D vwCl [(x1, .inr (4, [.ref x0, .ref s1, .ref s2, .int 0, .int 0, .ref s5, .ref s6, .ref s7, .ref s8, .ref s9, .ref s10, .ref s11, .int 0, .int 0]))] H := hP
  have hD : va_D A [(x1, .inr (4, [.ref x0, .ref s1, .ref s2, .int 0, .int 0, .ref s5, .ref s6, .ref s7, .ref s8, .ref s9, .ref s10, .ref s11, .int 0, .int 0]))] := hD
  refine lv_if_eq (tgt := 36) hx hb dX4_usedUp_18 (by decide) (fun _ => ?_) (fun c8 => absurd (by decide) c8)
  refine lv_iinc (v := 2) (lv' := [(2, .int 2), (1, .int 0), (0, .ref x1)]) hx hb dX4_usedUp_36 hl (k := 0) rfl (by decide) (by decide) rfl (fun ls hl => ?_)
  refine lv_goto (tgt := 4) hx hb dX4_usedUp_39 (by decide) ?_
  refine lv_iload_n hx hb dX4_usedUp_4 rfl (lv_at hl 0 rfl) ?_
  refine lv_bipush (v := 8) hx hb dX4_usedUp_5 (by decide) ?_
  refine lv_icmp_ge (tgt := 42) hx hb dX4_usedUp_7 (by decide) (fun c9 => absurd c9 (by decide)) (fun _ => ?_)
  refine lv_aload_n hx hb dX4_usedUp_10 rfl (lv_at hl 2 rfl) ?_
  refine va_get (D := D) (ci := 4) (v := .int 0) (C := RX4) (T := TX4) (N := 14) hx hb hts hiX4 hown hE.1 hP 0 rfl rfl 3 (by decide) (hts _ (List.mem_of_getElem? (i := 1) rfl)) (fun _ h9 => h9) rfl dX4_usedUp_11 ?_
  refine lv_iload_n hx hb dX4_usedUp_14 rfl (lv_at hl 0 rfl) ?_
  refine k_i (va_runSN (As := [.int 0, .int 2]) (rest := []) ⟨hx, hb, hml, hown, hts⟩ (m_X7_has l D cI cJ H.size 0 2) ⟨va_cnB 2 hts gX4_usedUp_X7_has_n113 rfl rfl rfl (hE.2 5 _ rfl) (hts _ (List.mem_of_getElem? (i := 4) rfl)) (by decide +kernel) ⟨Nat.le_of_ble_eq_true rfl, Nat.le_of_ble_eq_true rfl⟩, (hts _ (List.mem_of_getElem? (i := 3) rfl)), trivial⟩ (k_pre hE hP hD [] (by decide) rfl) rfl rfl hl.1 rfl (lv_room (Nat.le_of_ble_eq_true rfl)) dX4_usedUp_15 ⟨Nat.le_of_ble_eq_true rfl, Nat.le_of_ble_eq_true rfl⟩) hP hD hS hA [] [0] rfl (wr := [(x1, .inr (4, [.ref x0, .ref s1, .ref s2, .int 0, .int 0, .ref s5, .ref s6, .ref s7, .ref s8, .ref s9, .ref s10, .ref s11, .int 0, .int 0]))]) rfl (by decide) (by decide) (fun r10 u H locs hw11 hP hD hS => ?_)
  obtain ⟨hw11, rfl⟩ := hw11
  obtain rfl : r10 = 0 := by rw [hw11]; exact bz_z (by decide)
  have hP : va_P D vwCl [(x1, .inr (4, [.ref x0, .ref s1, .ref s2, .int 0, .int 0, .ref s5, .ref s6, .ref s7, .ref s8, .ref s9, .ref s10, .ref s11, .int 0, .int 0]))] H := hP
  have hD : va_D A [(x1, .inr (4, [.ref x0, .ref s1, .ref s2, .int 0, .int 0, .ref s5, .ref s6, .ref s7, .ref s8, .ref s9, .ref s10, .ref s11, .int 0, .int 0]))] := hD
  refine lv_if_eq (tgt := 36) hx hb dX4_usedUp_18 (by decide) (fun _ => ?_) (fun c12 => absurd (by decide) c12)
  refine lv_iinc (v := 3) (lv' := [(2, .int 3), (1, .int 0), (0, .ref x1)]) hx hb dX4_usedUp_36 hl (k := 0) rfl (by decide) (by decide) rfl (fun ls hl => ?_)
  refine lv_goto (tgt := 4) hx hb dX4_usedUp_39 (by decide) ?_
  refine lv_iload_n hx hb dX4_usedUp_4 rfl (lv_at hl 0 rfl) ?_
  refine lv_bipush (v := 8) hx hb dX4_usedUp_5 (by decide) ?_
  refine lv_icmp_ge (tgt := 42) hx hb dX4_usedUp_7 (by decide) (fun c13 => absurd c13 (by decide)) (fun _ => ?_)
  refine lv_aload_n hx hb dX4_usedUp_10 rfl (lv_at hl 2 rfl) ?_
  refine va_get (D := D) (ci := 4) (v := .int 0) (C := RX4) (T := TX4) (N := 14) hx hb hts hiX4 hown hE.1 hP 0 rfl rfl 3 (by decide) (hts _ (List.mem_of_getElem? (i := 1) rfl)) (fun _ h9 => h9) rfl dX4_usedUp_11 ?_
  refine lv_iload_n hx hb dX4_usedUp_14 rfl (lv_at hl 0 rfl) ?_
  refine k_i (va_runSN (As := [.int 0, .int 3]) (rest := []) ⟨hx, hb, hml, hown, hts⟩ (m_X7_has l D cI cJ H.size 0 3) ⟨va_cnB 2 hts gX4_usedUp_X7_has_n113 rfl rfl rfl (hE.2 5 _ rfl) (hts _ (List.mem_of_getElem? (i := 4) rfl)) (by decide +kernel) ⟨Nat.le_of_ble_eq_true rfl, Nat.le_of_ble_eq_true rfl⟩, (hts _ (List.mem_of_getElem? (i := 3) rfl)), trivial⟩ (k_pre hE hP hD [] (by decide) rfl) rfl rfl hl.1 rfl (lv_room (Nat.le_of_ble_eq_true rfl)) dX4_usedUp_15 ⟨Nat.le_of_ble_eq_true rfl, Nat.le_of_ble_eq_true rfl⟩) hP hD hS hA [] [0] rfl (wr := [(x1, .inr (4, [.ref x0, .ref s1, .ref s2, .int 0, .int 0, .ref s5, .ref s6, .ref s7, .ref s8, .ref s9, .ref s10, .ref s11, .int 0, .int 0]))]) rfl (by decide) (by decide) (fun r14 u H locs hw15 hP hD hS => ?_)
  obtain ⟨hw15, rfl⟩ := hw15
  obtain rfl : r14 = 0 := by rw [hw15]; exact bz_z (by decide)
  have hP : va_P D vwCl [(x1, .inr (4, [.ref x0, .ref s1, .ref s2, .int 0, .int 0, .ref s5, .ref s6, .ref s7, .ref s8, .ref s9, .ref s10, .ref s11, .int 0, .int 0]))] H := hP
  have hD : va_D A [(x1, .inr (4, [.ref x0, .ref s1, .ref s2, .int 0, .int 0, .ref s5, .ref s6, .ref s7, .ref s8, .ref s9, .ref s10, .ref s11, .int 0, .int 0]))] := hD
  refine lv_if_eq (tgt := 36) hx hb dX4_usedUp_18 (by decide) (fun _ => ?_) (fun c16 => absurd (by decide) c16)
  refine lv_iinc (v := 4) (lv' := [(2, .int 4), (1, .int 0), (0, .ref x1)]) hx hb dX4_usedUp_36 hl (k := 0) rfl (by decide) (by decide) rfl (fun ls hl => ?_)
  refine lv_goto (tgt := 4) hx hb dX4_usedUp_39 (by decide) ?_
  refine lv_iload_n hx hb dX4_usedUp_4 rfl (lv_at hl 0 rfl) ?_
  refine lv_bipush (v := 8) hx hb dX4_usedUp_5 (by decide) ?_
  refine lv_icmp_ge (tgt := 42) hx hb dX4_usedUp_7 (by decide) (fun c17 => absurd c17 (by decide)) (fun _ => ?_)
  refine lv_aload_n hx hb dX4_usedUp_10 rfl (lv_at hl 2 rfl) ?_
  refine va_get (D := D) (ci := 4) (v := .int 0) (C := RX4) (T := TX4) (N := 14) hx hb hts hiX4 hown hE.1 hP 0 rfl rfl 3 (by decide) (hts _ (List.mem_of_getElem? (i := 1) rfl)) (fun _ h9 => h9) rfl dX4_usedUp_11 ?_
  refine lv_iload_n hx hb dX4_usedUp_14 rfl (lv_at hl 0 rfl) ?_
  refine k_i (va_runSN (As := [.int 0, .int 4]) (rest := []) ⟨hx, hb, hml, hown, hts⟩ (m_X7_has l D cI cJ H.size 0 4) ⟨va_cnB 2 hts gX4_usedUp_X7_has_n113 rfl rfl rfl (hE.2 5 _ rfl) (hts _ (List.mem_of_getElem? (i := 4) rfl)) (by decide +kernel) ⟨Nat.le_of_ble_eq_true rfl, Nat.le_of_ble_eq_true rfl⟩, (hts _ (List.mem_of_getElem? (i := 3) rfl)), trivial⟩ (k_pre hE hP hD [] (by decide) rfl) rfl rfl hl.1 rfl (lv_room (Nat.le_of_ble_eq_true rfl)) dX4_usedUp_15 ⟨Nat.le_of_ble_eq_true rfl, Nat.le_of_ble_eq_true rfl⟩) hP hD hS hA [] [0] rfl (wr := [(x1, .inr (4, [.ref x0, .ref s1, .ref s2, .int 0, .int 0, .ref s5, .ref s6, .ref s7, .ref s8, .ref s9, .ref s10, .ref s11, .int 0, .int 0]))]) rfl (by decide) (by decide) (fun r18 u H locs hw19 hP hD hS => ?_)
  obtain ⟨hw19, rfl⟩ := hw19
  obtain rfl : r18 = 0 := by rw [hw19]; exact bz_z (by decide)
  have hP : va_P D vwCl [(x1, .inr (4, [.ref x0, .ref s1, .ref s2, .int 0, .int 0, .ref s5, .ref s6, .ref s7, .ref s8, .ref s9, .ref s10, .ref s11, .int 0, .int 0]))] H := hP
  have hD : va_D A [(x1, .inr (4, [.ref x0, .ref s1, .ref s2, .int 0, .int 0, .ref s5, .ref s6, .ref s7, .ref s8, .ref s9, .ref s10, .ref s11, .int 0, .int 0]))] := hD
  refine lv_if_eq (tgt := 36) hx hb dX4_usedUp_18 (by decide) (fun _ => ?_) (fun c20 => absurd (by decide) c20)
  refine lv_iinc (v := 5) (lv' := [(2, .int 5), (1, .int 0), (0, .ref x1)]) hx hb dX4_usedUp_36 hl (k := 0) rfl (by decide) (by decide) rfl (fun ls hl => ?_)
  refine lv_goto (tgt := 4) hx hb dX4_usedUp_39 (by decide) ?_
  refine lv_iload_n hx hb dX4_usedUp_4 rfl (lv_at hl 0 rfl) ?_
  refine lv_bipush (v := 8) hx hb dX4_usedUp_5 (by decide) ?_
  refine lv_icmp_ge (tgt := 42) hx hb dX4_usedUp_7 (by decide) (fun c21 => absurd c21 (by decide)) (fun _ => ?_)
  refine lv_aload_n hx hb dX4_usedUp_10 rfl (lv_at hl 2 rfl) ?_
  refine va_get (D := D) (ci := 4) (v := .int 0) (C := RX4) (T := TX4) (N := 14) hx hb hts hiX4 hown hE.1 hP 0 rfl rfl 3 (by decide) (hts _ (List.mem_of_getElem? (i := 1) rfl)) (fun _ h9 => h9) rfl dX4_usedUp_11 ?_
  refine lv_iload_n hx hb dX4_usedUp_14 rfl (lv_at hl 0 rfl) ?_
  refine k_i (va_runSN (As := [.int 0, .int 5]) (rest := []) ⟨hx, hb, hml, hown, hts⟩ (m_X7_has l D cI cJ H.size 0 5) ⟨va_cnB 2 hts gX4_usedUp_X7_has_n113 rfl rfl rfl (hE.2 5 _ rfl) (hts _ (List.mem_of_getElem? (i := 4) rfl)) (by decide +kernel) ⟨Nat.le_of_ble_eq_true rfl, Nat.le_of_ble_eq_true rfl⟩, (hts _ (List.mem_of_getElem? (i := 3) rfl)), trivial⟩ (k_pre hE hP hD [] (by decide) rfl) rfl rfl hl.1 rfl (lv_room (Nat.le_of_ble_eq_true rfl)) dX4_usedUp_15 ⟨Nat.le_of_ble_eq_true rfl, Nat.le_of_ble_eq_true rfl⟩) hP hD hS hA [] [0] rfl (wr := [(x1, .inr (4, [.ref x0, .ref s1, .ref s2, .int 0, .int 0, .ref s5, .ref s6, .ref s7, .ref s8, .ref s9, .ref s10, .ref s11, .int 0, .int 0]))]) rfl (by decide) (by decide) (fun r22 u H locs hw23 hP hD hS => ?_)
  obtain ⟨hw23, rfl⟩ := hw23
  obtain rfl : r22 = 0 := by rw [hw23]; exact bz_z (by decide)
  have hP : va_P D vwCl [(x1, .inr (4, [.ref x0, .ref s1, .ref s2, .int 0, .int 0, .ref s5, .ref s6, .ref s7, .ref s8, .ref s9, .ref s10, .ref s11, .int 0, .int 0]))] H := hP
  have hD : va_D A [(x1, .inr (4, [.ref x0, .ref s1, .ref s2, .int 0, .int 0, .ref s5, .ref s6, .ref s7, .ref s8, .ref s9, .ref s10, .ref s11, .int 0, .int 0]))] := hD
  refine lv_if_eq (tgt := 36) hx hb dX4_usedUp_18 (by decide) (fun _ => ?_) (fun c24 => absurd (by decide) c24)
  refine lv_iinc (v := 6) (lv' := [(2, .int 6), (1, .int 0), (0, .ref x1)]) hx hb dX4_usedUp_36 hl (k := 0) rfl (by decide) (by decide) rfl (fun ls hl => ?_)
  refine lv_goto (tgt := 4) hx hb dX4_usedUp_39 (by decide) ?_
  refine lv_iload_n hx hb dX4_usedUp_4 rfl (lv_at hl 0 rfl) ?_
  refine lv_bipush (v := 8) hx hb dX4_usedUp_5 (by decide) ?_
  refine lv_icmp_ge (tgt := 42) hx hb dX4_usedUp_7 (by decide) (fun c25 => absurd c25 (by decide)) (fun _ => ?_)
  refine lv_aload_n hx hb dX4_usedUp_10 rfl (lv_at hl 2 rfl) ?_
  refine va_get (D := D) (ci := 4) (v := .int 0) (C := RX4) (T := TX4) (N := 14) hx hb hts hiX4 hown hE.1 hP 0 rfl rfl 3 (by decide) (hts _ (List.mem_of_getElem? (i := 1) rfl)) (fun _ h9 => h9) rfl dX4_usedUp_11 ?_
  refine lv_iload_n hx hb dX4_usedUp_14 rfl (lv_at hl 0 rfl) ?_
  refine k_i (va_runSN (As := [.int 0, .int 6]) (rest := []) ⟨hx, hb, hml, hown, hts⟩ (m_X7_has l D cI cJ H.size 0 6) ⟨va_cnB 2 hts gX4_usedUp_X7_has_n113 rfl rfl rfl (hE.2 5 _ rfl) (hts _ (List.mem_of_getElem? (i := 4) rfl)) (by decide +kernel) ⟨Nat.le_of_ble_eq_true rfl, Nat.le_of_ble_eq_true rfl⟩, (hts _ (List.mem_of_getElem? (i := 3) rfl)), trivial⟩ (k_pre hE hP hD [] (by decide) rfl) rfl rfl hl.1 rfl (lv_room (Nat.le_of_ble_eq_true rfl)) dX4_usedUp_15 ⟨Nat.le_of_ble_eq_true rfl, Nat.le_of_ble_eq_true rfl⟩) hP hD hS hA [] [0] rfl (wr := [(x1, .inr (4, [.ref x0, .ref s1, .ref s2, .int 0, .int 0, .ref s5, .ref s6, .ref s7, .ref s8, .ref s9, .ref s10, .ref s11, .int 0, .int 0]))]) rfl (by decide) (by decide) (fun r26 u H locs hw27 hP hD hS => ?_)
  obtain ⟨hw27, rfl⟩ := hw27
  obtain rfl : r26 = 0 := by rw [hw27]; exact bz_z (by decide)
  have hP : va_P D vwCl [(x1, .inr (4, [.ref x0, .ref s1, .ref s2, .int 0, .int 0, .ref s5, .ref s6, .ref s7, .ref s8, .ref s9, .ref s10, .ref s11, .int 0, .int 0]))] H := hP
  have hD : va_D A [(x1, .inr (4, [.ref x0, .ref s1, .ref s2, .int 0, .int 0, .ref s5, .ref s6, .ref s7, .ref s8, .ref s9, .ref s10, .ref s11, .int 0, .int 0]))] := hD
  refine lv_if_eq (tgt := 36) hx hb dX4_usedUp_18 (by decide) (fun _ => ?_) (fun c28 => absurd (by decide) c28)
  refine lv_iinc (v := 7) (lv' := [(2, .int 7), (1, .int 0), (0, .ref x1)]) hx hb dX4_usedUp_36 hl (k := 0) rfl (by decide) (by decide) rfl (fun ls hl => ?_)
  refine lv_goto (tgt := 4) hx hb dX4_usedUp_39 (by decide) ?_
  refine lv_iload_n hx hb dX4_usedUp_4 rfl (lv_at hl 0 rfl) ?_
  refine lv_bipush (v := 8) hx hb dX4_usedUp_5 (by decide) ?_
  refine lv_icmp_ge (tgt := 42) hx hb dX4_usedUp_7 (by decide) (fun c29 => absurd c29 (by decide)) (fun _ => ?_)
  refine lv_aload_n hx hb dX4_usedUp_10 rfl (lv_at hl 2 rfl) ?_
  refine va_get (D := D) (ci := 4) (v := .int 0) (C := RX4) (T := TX4) (N := 14) hx hb hts hiX4 hown hE.1 hP 0 rfl rfl 3 (by decide) (hts _ (List.mem_of_getElem? (i := 1) rfl)) (fun _ h9 => h9) rfl dX4_usedUp_11 ?_
  refine lv_iload_n hx hb dX4_usedUp_14 rfl (lv_at hl 0 rfl) ?_
  refine k_i (va_runSN (As := [.int 0, .int 7]) (rest := []) ⟨hx, hb, hml, hown, hts⟩ (m_X7_has l D cI cJ H.size 0 7) ⟨va_cnB 2 hts gX4_usedUp_X7_has_n113 rfl rfl rfl (hE.2 5 _ rfl) (hts _ (List.mem_of_getElem? (i := 4) rfl)) (by decide +kernel) ⟨Nat.le_of_ble_eq_true rfl, Nat.le_of_ble_eq_true rfl⟩, (hts _ (List.mem_of_getElem? (i := 3) rfl)), trivial⟩ (k_pre hE hP hD [] (by decide) rfl) rfl rfl hl.1 rfl (lv_room (Nat.le_of_ble_eq_true rfl)) dX4_usedUp_15 ⟨Nat.le_of_ble_eq_true rfl, Nat.le_of_ble_eq_true rfl⟩) hP hD hS hA [] [0] rfl (wr := [(x1, .inr (4, [.ref x0, .ref s1, .ref s2, .int 0, .int 0, .ref s5, .ref s6, .ref s7, .ref s8, .ref s9, .ref s10, .ref s11, .int 0, .int 0]))]) rfl (by decide) (by decide) (fun r30 u H locs hw31 hP hD hS => ?_)
  obtain ⟨hw31, rfl⟩ := hw31
  obtain rfl : r30 = 0 := by rw [hw31]; exact bz_z (by decide)
  have hP : va_P D vwCl [(x1, .inr (4, [.ref x0, .ref s1, .ref s2, .int 0, .int 0, .ref s5, .ref s6, .ref s7, .ref s8, .ref s9, .ref s10, .ref s11, .int 0, .int 0]))] H := hP
  have hD : va_D A [(x1, .inr (4, [.ref x0, .ref s1, .ref s2, .int 0, .int 0, .ref s5, .ref s6, .ref s7, .ref s8, .ref s9, .ref s10, .ref s11, .int 0, .int 0]))] := hD
  refine lv_if_eq (tgt := 36) hx hb dX4_usedUp_18 (by decide) (fun _ => ?_) (fun c32 => absurd (by decide) c32)
  refine lv_iinc (v := 8) (lv' := [(2, .int 8), (1, .int 0), (0, .ref x1)]) hx hb dX4_usedUp_36 hl (k := 0) rfl (by decide) (by decide) rfl (fun ls hl => ?_)
  refine lv_goto (tgt := 4) hx hb dX4_usedUp_39 (by decide) ?_
  refine lv_iload_n hx hb dX4_usedUp_4 rfl (lv_at hl 0 rfl) ?_
  refine lv_bipush (v := 8) hx hb dX4_usedUp_5 (by decide) ?_
  refine lv_icmp_ge (tgt := 42) hx hb dX4_usedUp_7 (by decide) (fun _ => ?_) (fun c33 => absurd (by decide) c33)
  refine lv_iload_n hx hb dX4_usedUp_42 rfl (lv_at hl 1 rfl) ?_
  refine k_iret (u := [(x1, .inr (4, [.ref x0, .ref s1, .ref s2, .int 0, .int 0, .ref s5, .ref s6, .ref s7, .ref s8, .ref s9, .ref s10, .ref s11, .int 0, .int 0]))]) hx hb hr hlk hP hD hS dX4_usedUp_43 ?_
  exact ⟨rfl, rfl⟩
theorem dX7_count_0 : decode cX7_count 0 = .ok (.iload_n 1, 1) := by decide +kernel
theorem dX7_count_1 : decode cX7_count 1 = .ok (.tableswitch 95 0 5 #[39, 47, 55, 63, 75, 83], 39) := by decide +kernel
theorem dX7_count_40 : decode cX7_count 40 = .ok (.aload_n 0, 1) := by decide +kernel
theorem dX7_count_41 : decode cX7_count 41 = .ok (.getfield 20, 3) := by decide +kernel
theorem dX7_count_44 : decode cX7_count 44 = .ok (.getfield 53, 3) := by decide +kernel
theorem dX7_count_47 : decode cX7_count 47 = .ok (.ireturn, 1) := by decide +kernel
theorem dX7_count_48 : decode cX7_count 48 = .ok (.aload_n 0, 1) := by decide +kernel
theorem dX7_count_49 : decode cX7_count 49 = .ok (.getfield 20, 3) := by decide +kernel
theorem dX7_count_52 : decode cX7_count 52 = .ok (.getfield 103, 3) := by decide +kernel
theorem dX7_count_55 : decode cX7_count 55 = .ok (.ireturn, 1) := by decide +kernel
theorem dX7_count_56 : decode cX7_count 56 = .ok (.aload_n 0, 1) := by decide +kernel
theorem dX7_count_57 : decode cX7_count 57 = .ok (.getfield 20, 3) := by decide +kernel
theorem dX7_count_60 : decode cX7_count 60 = .ok (.getfield 112, 3) := by decide +kernel
theorem dX7_count_63 : decode cX7_count 63 = .ok (.ireturn, 1) := by decide +kernel
theorem dX7_count_64 : decode cX7_count 64 = .ok (.aload_n 0, 1) := by decide +kernel
theorem dX7_count_65 : decode cX7_count 65 = .ok (.invokevirtual 115, 3) := by decide +kernel
theorem dX7_count_68 : decode cX7_count 68 = .ok (.aload_n 0, 1) := by decide +kernel
theorem dX7_count_69 : decode cX7_count 69 = .ok (.getfield 10, 3) := by decide +kernel
theorem dX7_count_72 : decode cX7_count 72 = .ok (.getfield 118, 3) := by decide +kernel
theorem dX7_count_75 : decode cX7_count 75 = .ok (.ireturn, 1) := by decide +kernel
theorem dX7_count_76 : decode cX7_count 76 = .ok (.aload_n 0, 1) := by decide +kernel
theorem dX7_count_77 : decode cX7_count 77 = .ok (.getfield 20, 3) := by decide +kernel
theorem dX7_count_80 : decode cX7_count 80 = .ok (.invokevirtual 121, 3) := by decide +kernel
theorem dX7_count_83 : decode cX7_count 83 = .ok (.ireturn, 1) := by decide +kernel
theorem dX7_count_84 : decode cX7_count 84 = .ok (.aload_n 0, 1) := by decide +kernel
theorem dX7_count_85 : decode cX7_count 85 = .ok (.invokevirtual 115, 3) := by decide +kernel
theorem dX7_count_88 : decode cX7_count 88 = .ok (.aload_n 0, 1) := by decide +kernel
theorem dX7_count_89 : decode cX7_count 89 = .ok (.getfield 10, 3) := by decide +kernel
theorem dX7_count_92 : decode cX7_count 92 = .ok (.invokevirtual 125, 3) := by decide +kernel
theorem dX7_count_95 : decode cX7_count 95 = .ok (.ireturn, 1) := by decide +kernel
theorem dX7_count_96 : decode cX7_count 96 = .ok (.iconst (-1), 1) := by decide +kernel
theorem dX7_count_97 : decode cX7_count 97 = .ok (.ireturn, 1) := by decide +kernel
set_option maxRecDepth 20000 in
theorem ggX7_count_X0_amountsTogether : GoodIn wsX7_count wsX0_amountsTogether := goodIn_r _ [156, 157, 158, 169, 170, 171, 172, 173, 174, 175, 176, 177, 178, 179, 180, 181, 182, 183] (by decide +kernel) (by decide +kernel)
set_option maxRecDepth 20000 in
theorem gX7_count_X0_amountsTogether : GoodIn wsX7_count (wsV RX7 121 RX0 yX0_amountsTogether wsX0_amountsTogether) := goodIn_app (goodIn_of _ (by decide +kernel)) ggX7_count_X0_amountsTogether
set_option maxRecDepth 20000 in
theorem ggX7_count_X4_usedUp : GoodIn wsX7_count wsX4_usedUp := goodIn_r _ [162, 18, 39, 55, 10, 56, 184, 185, 186, 187, 188, 189, 190, 191, 192, 193, 194, 195, 196, 197] (by decide +kernel) (by decide +kernel)
set_option maxRecDepth 20000 in
theorem gX7_count_X4_usedUp : GoodIn wsX7_count (wsV RX7 125 RX4 yX4_usedUp wsX4_usedUp) := goodIn_app (goodIn_of _ (by decide +kernel)) ggX7_count_X4_usedUp
set_option maxRecDepth 20000 in
theorem ggX7_count_X7_settleAll : GoodIn wsX7_count wsX7_settleAll := goodIn_r _ [11, 5, 1, 3, 12, 13, 14, 15, 16, 17, 18, 19, 20, 21, 22, 23, 24, 25, 26, 27, 28, 29, 30, 31, 32, 33, 34, 35, 36, 37, 38, 39, 40, 41, 42, 43, 44, 45, 46, 47, 48, 49, 50, 51, 52, 53, 54, 55, 10, 56, 57, 58, 59, 60, 61, 62, 63, 64, 65, 66, 67, 68, 69, 70, 71, 72, 73, 74, 75, 76, 77, 78, 79, 80, 81, 82, 83, 84, 85, 86, 87, 88, 89, 90, 91, 92, 93, 94, 95, 96, 97, 98, 99, 100, 101, 102, 103, 104, 105, 106, 107, 108, 109, 110, 111, 112, 113, 114, 115, 116, 117, 118, 119, 120, 121, 122, 123, 124, 125, 126, 127, 128, 129, 130, 131, 132, 133, 134, 135, 136, 137, 138, 139, 140, 141, 142, 143, 144, 145, 146, 147, 148, 149, 150, 151, 152, 163, 164, 165, 166, 167, 168, 169, 170, 171, 172, 173, 174, 175, 176, 177, 178, 179, 180, 181, 182, 183, 184, 185, 186, 187, 188, 189, 190, 191, 192, 193, 194, 195, 196, 197, 198, 199, 200, 201, 202, 203, 204, 205, 206, 207, 208, 209] (by decide +kernel) (by decide +kernel)
set_option maxRecDepth 20000 in
theorem gX7_count_X7_settleAll : GoodIn wsX7_count (wsV RX7 115 RX7 yX7_settleAll wsX7_settleAll) := goodIn_app (goodIn_of _ (by decide +kernel)) ggX7_count_X7_settleAll
set_option maxHeartbeats 4000000 in
set_option maxRecDepth 100000 in
theorem f_X7_count (l : Launch) (D : va_G) (cI cJ : ClassId) (sz : Nat) (x x0 x1 x2 x3 x4 x5 b0 b1 b2 b3 b4 b5 b6 b7 b8 b9 b10 b11 s1 s2 s5 s6 s7 s8 s9 s10 s11 w0 w1 w2 w3 w4 w8 : Nat) (p0 : Int32) : Met l yX7_count wsX7_count { frames := 3, cells := 0, slots := 0, locals := 83 } (cPc D cI cJ [.ref x, .int p0] sz [(x, .inr (7, [.ref x0, .ref x1, .ref x2, .ref x3, .ref x4, .ref x5])), (x0, .inr (0, [.ref b0, .ref b1, .ref b2, .ref b3, .ref b4, .ref b5, .ref b6, .ref b7, .ref b8, .ref b9, .ref b10, .ref b11, .int 0, .int 0, .int 0])), (x1, .inr (4, [.ref x0, .ref s1, .ref s2, .int 0, .int 0, .ref s5, .ref s6, .ref s7, .ref s8, .ref s9, .ref s10, .ref s11, .int 0, .int 0])), (s1, .inr (6, [.ref w0, .ref w1, .ref w2, .ref w3, .ref w4, .int 0, .int 0, .int 0, .ref w8])), (b5, .inl (cI, 8, .inl (fun _ => 0))), (w0, .inl (cI, 8, .inl (fun _ => 0))), (b1, .inl (cI, 8, .inl (fun _ => 0))), (s5, .inl (cI, 8, .inl (fun _ => 0))), (s7, .inl (cI, 8, .inl (fun _ => 0)))]) (cQi D (fun r u => r = pz (0 ≤ p0 ∧ p0 ≤ 5) ∧ u = []) (va_A [(x, .inr (7, [.ref x0, .ref x1, .ref x2, .ref x3, .ref x4, .ref x5])), (x0, .inr (0, [.ref b0, .ref b1, .ref b2, .ref b3, .ref b4, .ref b5, .ref b6, .ref b7, .ref b8, .ref b9, .ref b10, .ref b11, .int 0, .int 0, .int 0])), (x1, .inr (4, [.ref x0, .ref s1, .ref s2, .int 0, .int 0, .ref s5, .ref s6, .ref s7, .ref s8, .ref s9, .ref s10, .ref s11, .int 0, .int 0])), (s1, .inr (6, [.ref w0, .ref w1, .ref w2, .ref w3, .ref w4, .int 0, .int 0, .int 0, .ref w8])), (b5, .inl (cI, 8, .inl (fun _ => 0))), (w0, .inl (cI, 8, .inl (fun _ => 0))), (b1, .inl (cI, 8, .inl (fun _ => 0))), (s5, .inl (cI, 8, .inl (fun _ => 0))), (s7, .inl (cI, 8, .inl (fun _ => 0)))] sz)) 0 0 (va_A [(x, .inr (7, [.ref x0, .ref x1, .ref x2, .ref x3, .ref x4, .ref x5])), (x0, .inr (0, [.ref b0, .ref b1, .ref b2, .ref b3, .ref b4, .ref b5, .ref b6, .ref b7, .ref b8, .ref b9, .ref b10, .ref b11, .int 0, .int 0, .int 0])), (x1, .inr (4, [.ref x0, .ref s1, .ref s2, .int 0, .int 0, .ref s5, .ref s6, .ref s7, .ref s8, .ref s9, .ref s10, .ref s11, .int 0, .int 0])), (s1, .inr (6, [.ref w0, .ref w1, .ref w2, .ref w3, .ref w4, .int 0, .int 0, .int 0, .ref w8])), (b5, .inl (cI, 8, .inl (fun _ => 0))), (w0, .inl (cI, 8, .inl (fun _ => 0))), (b1, .inl (cI, 8, .inl (fun _ => 0))), (s5, .inl (cI, 8, .inl (fun _ => 0))), (s7, .inl (cI, 8, .inl (fun _ => 0)))] sz) := by
  refine k_ofW (Qc := cQi D (fun r u => r = pz (0 ≤ p0 ∧ p0 ≤ 5) ∧ u = [])) (by decide) rfl (Nat.le_of_ble_eq_true rfl) ?_
  intro p e s m below meth c A ls hx hb hr hml hts hown hlk hnm hsz hE hP hD hS hA hl
  have hown : s.vm.findClass RX7 = some m.cls := hown
  have hiX7 : ∀ w ∈ u_ws RX7 TX7 6, w ∈ wsX7_count := fun w h => List.mem_cons_of_mem _ (List.mem_append_left _ (List.mem_append_left _ (List.mem_append_left _ (List.mem_append_left _ (List.mem_append_right _ h)))))
  have hiX0 : ∀ w ∈ u_ws RX0 TX0 15, w ∈ wsX7_count := fun w h => List.mem_cons_of_mem _ (List.mem_append_left _ (List.mem_append_left _ (List.mem_append_left _ (List.mem_append_right _ h))))
  have hiX4 : ∀ w ∈ u_ws RX4 TX4 14, w ∈ wsX7_count := fun w h => List.mem_cons_of_mem _ (List.mem_append_left _ (List.mem_append_left _ (List.mem_append_right _ h)))
  have hl : lv_has ls 2 [(0, .ref x), (1, .int p0)] := hl
  refine lv_iload_n hx hb dX7_count_0 rfl (lv_at hl 1 rfl) ?_
  by_cases c1 : p0 = 0
  · skip
    refine lv_tableIn (tgt := 40) hx hb dX7_count_1 (by rw [c1]; decide) (by rw [c1]; decide) (off := 39) (by rw [c1]; rfl) (by decide) ?_
    refine lv_aload_n hx hb dX7_count_40 rfl (lv_at hl 0 rfl) ?_
    refine va_get (D := D) (ci := 7) (v := .ref x0) (C := RX7) (T := TX7) (N := 6) hx hb hts hiX7 hown hE.1 hP 0 rfl rfl 0 (by decide) (hts _ (List.mem_of_getElem? (i := 1) rfl)) (fun _ h9 => h9) rfl dX7_count_41 ?_
    refine va_get (D := D) (ci := 0) (v := .int 0) (C := RX0) (T := TX0) (N := 15) hx hb hts hiX0 hown hE.1 hP 1 rfl rfl 12 (by decide) (hts _ (List.mem_of_getElem? (i := 2) rfl)) (fun _ h9 => h9) rfl dX7_count_44 ?_
    refine k_iret (u := []) hx hb hr hlk (k_sub hP [] rfl) (hD.sub [] (by decide) rfl) hS dX7_count_47 ?_
    exact ⟨pz_t (by rw [c1]; decide), rfl⟩
  by_cases c2 : p0 = 1
  · skip
    refine lv_tableIn (tgt := 48) hx hb dX7_count_1 (by rw [c2]; decide) (by rw [c2]; decide) (off := 47) (by rw [c2]; rfl) (by decide) ?_
    refine lv_aload_n hx hb dX7_count_48 rfl (lv_at hl 0 rfl) ?_
    refine va_get (D := D) (ci := 7) (v := .ref x0) (C := RX7) (T := TX7) (N := 6) hx hb hts hiX7 hown hE.1 hP 0 rfl rfl 0 (by decide) (hts _ (List.mem_of_getElem? (i := 1) rfl)) (fun _ h9 => h9) rfl dX7_count_49 ?_
    refine va_get (D := D) (ci := 0) (v := .int 0) (C := RX0) (T := TX0) (N := 15) hx hb hts hiX0 hown hE.1 hP 1 rfl rfl 13 (by decide) (hts _ (List.mem_of_getElem? (i := 3) rfl)) (fun _ h9 => h9) rfl dX7_count_52 ?_
    refine k_iret (u := []) hx hb hr hlk (k_sub hP [] rfl) (hD.sub [] (by decide) rfl) hS dX7_count_55 ?_
    exact ⟨pz_t (by rw [c2]; decide), rfl⟩
  by_cases c3 : p0 = 2
  · skip
    refine lv_tableIn (tgt := 56) hx hb dX7_count_1 (by rw [c3]; decide) (by rw [c3]; decide) (off := 55) (by rw [c3]; rfl) (by decide) ?_
    refine lv_aload_n hx hb dX7_count_56 rfl (lv_at hl 0 rfl) ?_
    refine va_get (D := D) (ci := 7) (v := .ref x0) (C := RX7) (T := TX7) (N := 6) hx hb hts hiX7 hown hE.1 hP 0 rfl rfl 0 (by decide) (hts _ (List.mem_of_getElem? (i := 1) rfl)) (fun _ h9 => h9) rfl dX7_count_57 ?_
    refine va_get (D := D) (ci := 0) (v := .int 0) (C := RX0) (T := TX0) (N := 15) hx hb hts hiX0 hown hE.1 hP 1 rfl rfl 14 (by decide) (hts _ (List.mem_of_getElem? (i := 4) rfl)) (fun _ h9 => h9) rfl dX7_count_60 ?_
    refine k_iret (u := []) hx hb hr hlk (k_sub hP [] rfl) (hD.sub [] (by decide) rfl) hS dX7_count_63 ?_
    exact ⟨pz_t (by rw [c3]; decide), rfl⟩
  by_cases c4 : p0 = 3
  · skip
    refine lv_tableIn (tgt := 64) hx hb dX7_count_1 (by rw [c4]; decide) (by rw [c4]; decide) (off := 63) (by rw [c4]; rfl) (by decide) ?_
    refine lv_aload_n hx hb dX7_count_64 rfl (lv_at hl 0 rfl) ?_
    refine k_v (va_runV (As := []) (rest := []) ⟨hx, hb, hml, hown, hts⟩ (f_X7_settleAll l D cI cJ (s.heap).size x x0 x1 x2 x3 x4 x5 b0 b1 b2 b3 b4 b5 b6 b7 b8 b9 b10 b11 s1 s2 s5 s6 s7 s8 s9 s10 s11 w0 w1 w2 w3 w4 w8) (cwV 0 hts gX7_count_X7_settleAll rfl rfl rfl (by decide +kernel) ⟨Nat.le_of_ble_eq_true rfl, Nat.le_of_ble_eq_true rfl⟩) (k_preV hE hP hD [0, 1, 2, 3, 4, 5, 6, 7, 8] (by decide) rfl 0 rfl rfl) rfl rfl hl.1 rfl (lv_room (Nat.le_of_ble_eq_true rfl)) dX7_count_65 ⟨Nat.le_of_ble_eq_true rfl, Nat.le_of_ble_eq_true rfl⟩) hP hD hS hA [0, 1, 2, 3, 4, 5, 6, 7, 8] [] rfl (wr := []) rfl (by decide) (by decide) (fun u H locs hw5 hP hD hS => ?_)
    subst hw5
    have hP : va_P D vwCl [(x, .inr (7, [.ref x0, .ref x1, .ref x2, .ref x3, .ref x4, .ref x5])), (x0, .inr (0, [.ref b0, .ref b1, .ref b2, .ref b3, .ref b4, .ref b5, .ref b6, .ref b7, .ref b8, .ref b9, .ref b10, .ref b11, .int 0, .int 0, .int 0])), (x1, .inr (4, [.ref x0, .ref s1, .ref s2, .int 0, .int 0, .ref s5, .ref s6, .ref s7, .ref s8, .ref s9, .ref s10, .ref s11, .int 0, .int 0])), (s1, .inr (6, [.ref w0, .ref w1, .ref w2, .ref w3, .ref w4, .int 0, .int 0, .int 0, .ref w8])), (b5, .inl (cI, 8, .inl (fun _ => 0))), (w0, .inl (cI, 8, .inl (va_cpy (fun _ => 0) (fun _ => 0) (0 : Int32).toNatClampNeg (0 : Int32).toNatClampNeg (8 : Int32).toNatClampNeg))), (b1, .inl (cI, 8, .inl (fun _ => 0))), (s5, .inl (cI, 8, .inl (va_cpy (fun _ => 0) (fun _ => 0) (0 : Int32).toNatClampNeg (0 : Int32).toNatClampNeg (8 : Int32).toNatClampNeg))), (s7, .inl (cI, 8, .inl (fl 8 (-1) (fun _ => 0))))] H := hP
    have hD : va_D A [(x, .inr (7, [.ref x0, .ref x1, .ref x2, .ref x3, .ref x4, .ref x5])), (x0, .inr (0, [.ref b0, .ref b1, .ref b2, .ref b3, .ref b4, .ref b5, .ref b6, .ref b7, .ref b8, .ref b9, .ref b10, .ref b11, .int 0, .int 0, .int 0])), (x1, .inr (4, [.ref x0, .ref s1, .ref s2, .int 0, .int 0, .ref s5, .ref s6, .ref s7, .ref s8, .ref s9, .ref s10, .ref s11, .int 0, .int 0])), (s1, .inr (6, [.ref w0, .ref w1, .ref w2, .ref w3, .ref w4, .int 0, .int 0, .int 0, .ref w8])), (b5, .inl (cI, 8, .inl (fun _ => 0))), (w0, .inl (cI, 8, .inl (va_cpy (fun _ => 0) (fun _ => 0) (0 : Int32).toNatClampNeg (0 : Int32).toNatClampNeg (8 : Int32).toNatClampNeg))), (b1, .inl (cI, 8, .inl (fun _ => 0))), (s5, .inl (cI, 8, .inl (va_cpy (fun _ => 0) (fun _ => 0) (0 : Int32).toNatClampNeg (0 : Int32).toNatClampNeg (8 : Int32).toNatClampNeg))), (s7, .inl (cI, 8, .inl (fl 8 (-1) (fun _ => 0))))] := hD
    refine lv_aload_n hx hb dX7_count_68 rfl (lv_at hl 0 rfl) ?_
    refine va_get (D := D) (ci := 7) (v := .ref x1) (C := RX7) (T := TX7) (N := 6) hx hb hts hiX7 hown hE.1 hP 0 rfl rfl 1 (by decide) (hts _ (List.mem_of_getElem? (i := 5) rfl)) (fun _ h9 => h9) rfl dX7_count_69 ?_
    refine va_get (D := D) (ci := 4) (v := .int 0) (C := RX4) (T := TX4) (N := 14) hx hb hts hiX4 hown hE.1 hP 2 rfl rfl 13 (by decide) (hts _ (List.mem_of_getElem? (i := 6) rfl)) (fun _ h9 => h9) rfl dX7_count_72 ?_
    refine k_iret (u := []) hx hb hr hlk (k_sub hP [] rfl) (hD.sub [] (by decide) rfl) hS dX7_count_75 ?_
    exact ⟨pz_t (by rw [c4]; decide), rfl⟩
  by_cases c6 : p0 = 4
  · skip
    refine lv_tableIn (tgt := 76) hx hb dX7_count_1 (by rw [c6]; decide) (by rw [c6]; decide) (off := 75) (by rw [c6]; rfl) (by decide) ?_
    refine lv_aload_n hx hb dX7_count_76 rfl (lv_at hl 0 rfl) ?_
    refine va_get (D := D) (ci := 7) (v := .ref x0) (C := RX7) (T := TX7) (N := 6) hx hb hts hiX7 hown hE.1 hP 0 rfl rfl 0 (by decide) (hts _ (List.mem_of_getElem? (i := 1) rfl)) (fun _ h9 => h9) rfl dX7_count_77 ?_
    refine k_i (va_runV (As := []) (rest := []) ⟨hx, hb, hml, hown, hts⟩ (f_X0_amounts l D cI cJ (s.heap).size x0 b0 b1 b2 b3 b4 b5 b6 b7 b8 b9 b10 b11) (cwV 0 hts gX7_count_X0_amountsTogether rfl rfl rfl (by decide +kernel) ⟨Nat.le_of_ble_eq_true rfl, Nat.le_of_ble_eq_true rfl⟩) (k_preV hE hP hD [1] (by decide) rfl 1 rfl rfl) rfl rfl hl.1 rfl (lv_room (Nat.le_of_ble_eq_true rfl)) dX7_count_80 ⟨Nat.le_of_ble_eq_true rfl, Nat.le_of_ble_eq_true rfl⟩) hP hD hS hA [1] [0, 2, 3, 4, 5, 6, 7, 8] rfl (wr := [(x, .inr (7, [.ref x0, .ref x1, .ref x2, .ref x3, .ref x4, .ref x5])), (x1, .inr (4, [.ref x0, .ref s1, .ref s2, .int 0, .int 0, .ref s5, .ref s6, .ref s7, .ref s8, .ref s9, .ref s10, .ref s11, .int 0, .int 0])), (s1, .inr (6, [.ref w0, .ref w1, .ref w2, .ref w3, .ref w4, .int 0, .int 0, .int 0, .ref w8])), (b5, .inl (cI, 8, .inl (fun _ => 0))), (w0, .inl (cI, 8, .inl (fun _ => 0))), (b1, .inl (cI, 8, .inl (fun _ => 0))), (s5, .inl (cI, 8, .inl (fun _ => 0))), (s7, .inl (cI, 8, .inl (fun _ => 0)))]) rfl (by decide) (by decide) (fun r7 u H locs hw8 hP hD hS => ?_)
    obtain ⟨rfl, rfl⟩ := hw8
    have hP : va_P D vwCl [(x, .inr (7, [.ref x0, .ref x1, .ref x2, .ref x3, .ref x4, .ref x5])), (x1, .inr (4, [.ref x0, .ref s1, .ref s2, .int 0, .int 0, .ref s5, .ref s6, .ref s7, .ref s8, .ref s9, .ref s10, .ref s11, .int 0, .int 0])), (s1, .inr (6, [.ref w0, .ref w1, .ref w2, .ref w3, .ref w4, .int 0, .int 0, .int 0, .ref w8])), (b5, .inl (cI, 8, .inl (fun _ => 0))), (w0, .inl (cI, 8, .inl (fun _ => 0))), (b1, .inl (cI, 8, .inl (fun _ => 0))), (s5, .inl (cI, 8, .inl (fun _ => 0))), (s7, .inl (cI, 8, .inl (fun _ => 0))), (x0, .inr (0, [.ref b0, .ref b1, .ref b2, .ref b3, .ref b4, .ref b5, .ref b6, .ref b7, .ref b8, .ref b9, .ref b10, .ref b11, .int 0, .int 0, .int 0]))] H := hP
    have hD : va_D A [(x, .inr (7, [.ref x0, .ref x1, .ref x2, .ref x3, .ref x4, .ref x5])), (x1, .inr (4, [.ref x0, .ref s1, .ref s2, .int 0, .int 0, .ref s5, .ref s6, .ref s7, .ref s8, .ref s9, .ref s10, .ref s11, .int 0, .int 0])), (s1, .inr (6, [.ref w0, .ref w1, .ref w2, .ref w3, .ref w4, .int 0, .int 0, .int 0, .ref w8])), (b5, .inl (cI, 8, .inl (fun _ => 0))), (w0, .inl (cI, 8, .inl (fun _ => 0))), (b1, .inl (cI, 8, .inl (fun _ => 0))), (s5, .inl (cI, 8, .inl (fun _ => 0))), (s7, .inl (cI, 8, .inl (fun _ => 0))), (x0, .inr (0, [.ref b0, .ref b1, .ref b2, .ref b3, .ref b4, .ref b5, .ref b6, .ref b7, .ref b8, .ref b9, .ref b10, .ref b11, .int 0, .int 0, .int 0]))] := hD
    refine k_iret (u := []) hx hb hr hlk (k_sub hP [] rfl) (hD.sub [] (by decide) rfl) hS dX7_count_83 ?_
    exact ⟨pz_t (by rw [c6]; decide), rfl⟩
  by_cases c9 : p0 = 5
  · skip
    refine lv_tableIn (tgt := 84) hx hb dX7_count_1 (by rw [c9]; decide) (by rw [c9]; decide) (off := 83) (by rw [c9]; rfl) (by decide) ?_
    refine lv_aload_n hx hb dX7_count_84 rfl (lv_at hl 0 rfl) ?_
    refine k_v (va_runV (As := []) (rest := []) ⟨hx, hb, hml, hown, hts⟩ (f_X7_settleAll l D cI cJ (s.heap).size x x0 x1 x2 x3 x4 x5 b0 b1 b2 b3 b4 b5 b6 b7 b8 b9 b10 b11 s1 s2 s5 s6 s7 s8 s9 s10 s11 w0 w1 w2 w3 w4 w8) (cwV 0 hts gX7_count_X7_settleAll rfl rfl rfl (by decide +kernel) ⟨Nat.le_of_ble_eq_true rfl, Nat.le_of_ble_eq_true rfl⟩) (k_preV hE hP hD [0, 1, 2, 3, 4, 5, 6, 7, 8] (by decide) rfl 0 rfl rfl) rfl rfl hl.1 rfl (lv_room (Nat.le_of_ble_eq_true rfl)) dX7_count_85 ⟨Nat.le_of_ble_eq_true rfl, Nat.le_of_ble_eq_true rfl⟩) hP hD hS hA [0, 1, 2, 3, 4, 5, 6, 7, 8] [] rfl (wr := []) rfl (by decide) (by decide) (fun u H locs hw10 hP hD hS => ?_)
    subst hw10
    have hP : va_P D vwCl [(x, .inr (7, [.ref x0, .ref x1, .ref x2, .ref x3, .ref x4, .ref x5])), (x0, .inr (0, [.ref b0, .ref b1, .ref b2, .ref b3, .ref b4, .ref b5, .ref b6, .ref b7, .ref b8, .ref b9, .ref b10, .ref b11, .int 0, .int 0, .int 0])), (x1, .inr (4, [.ref x0, .ref s1, .ref s2, .int 0, .int 0, .ref s5, .ref s6, .ref s7, .ref s8, .ref s9, .ref s10, .ref s11, .int 0, .int 0])), (s1, .inr (6, [.ref w0, .ref w1, .ref w2, .ref w3, .ref w4, .int 0, .int 0, .int 0, .ref w8])), (b5, .inl (cI, 8, .inl (fun _ => 0))), (w0, .inl (cI, 8, .inl (va_cpy (fun _ => 0) (fun _ => 0) (0 : Int32).toNatClampNeg (0 : Int32).toNatClampNeg (8 : Int32).toNatClampNeg))), (b1, .inl (cI, 8, .inl (fun _ => 0))), (s5, .inl (cI, 8, .inl (va_cpy (fun _ => 0) (fun _ => 0) (0 : Int32).toNatClampNeg (0 : Int32).toNatClampNeg (8 : Int32).toNatClampNeg))), (s7, .inl (cI, 8, .inl (fl 8 (-1) (fun _ => 0))))] H := hP
    have hD : va_D A [(x, .inr (7, [.ref x0, .ref x1, .ref x2, .ref x3, .ref x4, .ref x5])), (x0, .inr (0, [.ref b0, .ref b1, .ref b2, .ref b3, .ref b4, .ref b5, .ref b6, .ref b7, .ref b8, .ref b9, .ref b10, .ref b11, .int 0, .int 0, .int 0])), (x1, .inr (4, [.ref x0, .ref s1, .ref s2, .int 0, .int 0, .ref s5, .ref s6, .ref s7, .ref s8, .ref s9, .ref s10, .ref s11, .int 0, .int 0])), (s1, .inr (6, [.ref w0, .ref w1, .ref w2, .ref w3, .ref w4, .int 0, .int 0, .int 0, .ref w8])), (b5, .inl (cI, 8, .inl (fun _ => 0))), (w0, .inl (cI, 8, .inl (va_cpy (fun _ => 0) (fun _ => 0) (0 : Int32).toNatClampNeg (0 : Int32).toNatClampNeg (8 : Int32).toNatClampNeg))), (b1, .inl (cI, 8, .inl (fun _ => 0))), (s5, .inl (cI, 8, .inl (va_cpy (fun _ => 0) (fun _ => 0) (0 : Int32).toNatClampNeg (0 : Int32).toNatClampNeg (8 : Int32).toNatClampNeg))), (s7, .inl (cI, 8, .inl (fl 8 (-1) (fun _ => 0))))] := hD
    refine lv_aload_n hx hb dX7_count_88 rfl (lv_at hl 0 rfl) ?_
    refine va_get (D := D) (ci := 7) (v := .ref x1) (C := RX7) (T := TX7) (N := 6) hx hb hts hiX7 hown hE.1 hP 0 rfl rfl 1 (by decide) (hts _ (List.mem_of_getElem? (i := 5) rfl)) (fun _ h9 => h9) rfl dX7_count_89 ?_
    refine k_i (va_runV (As := []) (rest := []) ⟨hx, hb, hml, hown, hts⟩ (f_X4_usedUp l D cI cJ H.size x1 x0 s1 s2 s5 s6 s7 s8 s9 s10 s11) (cwV 0 hts gX7_count_X4_usedUp rfl rfl rfl (by decide +kernel) ⟨Nat.le_of_ble_eq_true rfl, Nat.le_of_ble_eq_true rfl⟩) (k_preV hE hP hD [2] (by decide) rfl 2 rfl rfl) rfl rfl hl.1 rfl (lv_room (Nat.le_of_ble_eq_true rfl)) dX7_count_92 ⟨Nat.le_of_ble_eq_true rfl, Nat.le_of_ble_eq_true rfl⟩) hP hD hS hA [2] [0, 1, 3, 4, 5, 6, 7, 8] rfl (wr := [(x, .inr (7, [.ref x0, .ref x1, .ref x2, .ref x3, .ref x4, .ref x5])), (x0, .inr (0, [.ref b0, .ref b1, .ref b2, .ref b3, .ref b4, .ref b5, .ref b6, .ref b7, .ref b8, .ref b9, .ref b10, .ref b11, .int 0, .int 0, .int 0])), (s1, .inr (6, [.ref w0, .ref w1, .ref w2, .ref w3, .ref w4, .int 0, .int 0, .int 0, .ref w8])), (b5, .inl (cI, 8, .inl (fun _ => 0))), (w0, .inl (cI, 8, .inl (va_cpy (fun _ => 0) (fun _ => 0) (0 : Int32).toNatClampNeg (0 : Int32).toNatClampNeg (8 : Int32).toNatClampNeg))), (b1, .inl (cI, 8, .inl (fun _ => 0))), (s5, .inl (cI, 8, .inl (va_cpy (fun _ => 0) (fun _ => 0) (0 : Int32).toNatClampNeg (0 : Int32).toNatClampNeg (8 : Int32).toNatClampNeg))), (s7, .inl (cI, 8, .inl (fl 8 (-1) (fun _ => 0))))]) rfl (by decide) (by decide) (fun r11 u H locs hw12 hP hD hS => ?_)
    obtain ⟨rfl, rfl⟩ := hw12
    have hP : va_P D vwCl [(x, .inr (7, [.ref x0, .ref x1, .ref x2, .ref x3, .ref x4, .ref x5])), (x0, .inr (0, [.ref b0, .ref b1, .ref b2, .ref b3, .ref b4, .ref b5, .ref b6, .ref b7, .ref b8, .ref b9, .ref b10, .ref b11, .int 0, .int 0, .int 0])), (s1, .inr (6, [.ref w0, .ref w1, .ref w2, .ref w3, .ref w4, .int 0, .int 0, .int 0, .ref w8])), (b5, .inl (cI, 8, .inl (fun _ => 0))), (w0, .inl (cI, 8, .inl (va_cpy (fun _ => 0) (fun _ => 0) (0 : Int32).toNatClampNeg (0 : Int32).toNatClampNeg (8 : Int32).toNatClampNeg))), (b1, .inl (cI, 8, .inl (fun _ => 0))), (s5, .inl (cI, 8, .inl (va_cpy (fun _ => 0) (fun _ => 0) (0 : Int32).toNatClampNeg (0 : Int32).toNatClampNeg (8 : Int32).toNatClampNeg))), (s7, .inl (cI, 8, .inl (fl 8 (-1) (fun _ => 0)))), (x1, .inr (4, [.ref x0, .ref s1, .ref s2, .int 0, .int 0, .ref s5, .ref s6, .ref s7, .ref s8, .ref s9, .ref s10, .ref s11, .int 0, .int 0]))] H := hP
    have hD : va_D A [(x, .inr (7, [.ref x0, .ref x1, .ref x2, .ref x3, .ref x4, .ref x5])), (x0, .inr (0, [.ref b0, .ref b1, .ref b2, .ref b3, .ref b4, .ref b5, .ref b6, .ref b7, .ref b8, .ref b9, .ref b10, .ref b11, .int 0, .int 0, .int 0])), (s1, .inr (6, [.ref w0, .ref w1, .ref w2, .ref w3, .ref w4, .int 0, .int 0, .int 0, .ref w8])), (b5, .inl (cI, 8, .inl (fun _ => 0))), (w0, .inl (cI, 8, .inl (va_cpy (fun _ => 0) (fun _ => 0) (0 : Int32).toNatClampNeg (0 : Int32).toNatClampNeg (8 : Int32).toNatClampNeg))), (b1, .inl (cI, 8, .inl (fun _ => 0))), (s5, .inl (cI, 8, .inl (va_cpy (fun _ => 0) (fun _ => 0) (0 : Int32).toNatClampNeg (0 : Int32).toNatClampNeg (8 : Int32).toNatClampNeg))), (s7, .inl (cI, 8, .inl (fl 8 (-1) (fun _ => 0)))), (x1, .inr (4, [.ref x0, .ref s1, .ref s2, .int 0, .int 0, .ref s5, .ref s6, .ref s7, .ref s8, .ref s9, .ref s10, .ref s11, .int 0, .int 0]))] := hD
    refine k_iret (u := []) hx hb hr hlk (k_sub hP [] rfl) (hD.sub [] (by decide) rfl) hS dX7_count_95 ?_
    exact ⟨pz_t (by rw [c9]; decide), rfl⟩
  refine lv_tableOut (tgt := 96) hx hb dX7_count_1 (sw_out6 c1 c2 c3 c4 c6 c9) (by decide) ?_
  refine lv_iconst (v := (-1)) hx hb dX7_count_96 (by decide) ?_
  refine k_iret (u := []) hx hb hr hlk (k_sub hP [] rfl) (hD.sub [] (by decide) rfl) hS dX7_count_97 ?_
  exact ⟨pz_f (no6 c1 c2 c3 c4 c6 c9), rfl⟩
