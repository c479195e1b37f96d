theorem w3 {a lo hi : Int32} {l h : Int64} (hl : Int32.toInt64 lo = l) (hh : Int32.toInt64 hi = h) : (l ≤ Int32.toInt64 a ∧ Int32.toInt64 a ≤ h) ↔ (lo ≤ a ∧ a ≤ hi) := by
  rw [← hl, ← hh]
  have e : ∀ x y : Int32, Int32.toInt64 x ≤ Int32.toInt64 y ↔ x ≤ y := fun x y => by
    rw [Int64.le_iff_toInt_le, Int32.le_iff_toInt_le, Int32.toInt_toInt64, Int32.toInt_toInt64]
  rw [e, e]
theorem nofit3 (n : Int32) : ¬ ((0 : Int64) ≤ Int32.toInt64 n ∧ Int32.toInt64 n ≤ -1) := fun h => absurd (Int64.le_trans h.1 h.2) (by decide)
theorem dX8_in_0 : decode cX8_in 0 = .ok (.lload_n 0, 1) := by decide +kernel
theorem dX8_in_1 : decode cX8_in 1 = .ok (.lload_n 2, 1) := by decide +kernel
theorem dX8_in_2 : decode cX8_in 2 = .ok (.lcmp, 1) := by decide +kernel
theorem dX8_in_3 : decode cX8_in 3 = .ok (.ifCond .lt 14, 3) := by decide +kernel
theorem dX8_in_6 : decode cX8_in 6 = .ok (.lload_n 0, 1) := by decide +kernel
theorem dX8_in_7 : decode cX8_in 7 = .ok (.lload 4, 2) := by decide +kernel
theorem dX8_in_9 : decode cX8_in 9 = .ok (.lcmp, 1) := by decide +kernel
theorem dX8_in_10 : decode cX8_in 10 = .ok (.ifCond .gt 7, 3) := by decide +kernel
theorem dX8_in_13 : decode cX8_in 13 = .ok (.iconst 1, 1) := by decide +kernel
theorem dX8_in_14 : decode cX8_in 14 = .ok (.goto 4, 3) := by decide +kernel
theorem dX8_in_17 : decode cX8_in 17 = .ok (.iconst 0, 1) := by decide +kernel
theorem dX8_in_18 : decode cX8_in 18 = .ok (.ireturn, 1) := by decide +kernel
set_option maxHeartbeats 4000000 in
set_option maxRecDepth 100000 in
theorem m_X8_in (l : Launch) (D : va_G) (cI cJ : ClassId) (sz : Nat) (n lo hi : Int64) : Met l yX8_in wsX8_in { frames := 0, cells := 0, slots := 0, locals := 0 } (cPc D cI cJ [.long n, .long lo, .long hi] sz []) (cQi D (fun r u => r = bz (lo ≤ n ∧ n ≤ hi) ∧ u = []) (va_A [] sz)) 0 0 (va_A [] sz) := by
  refine k_ofW (Qc := cQi D (fun r u => r = bz (lo ≤ n ∧ n ≤ hi) ∧ u = [])) (by decide) rfl (Nat.le_of_ble_eq_true rfl) ?_
  intro p e s m below meth c A ls hx hb hr hml hts hown hlk hnm hsz hE hP hD hS hA hl
  have hown : s.vm.findClass RX8 = some m.cls := hown
  have hl : lv_has ls 6 [(0, .long n), (2, .long lo), (4, .long hi)] := hl
  refine lv_lload_n hx hb dX8_in_0 rfl (lv_at hl 0 rfl) ?_
  refine lv_lload_n hx hb dX8_in_1 rfl (lv_at hl 1 rfl) ?_
  refine k_lcmp_lt (tgt := 17) hx hb dX8_in_2 dX8_in_3 (by decide) (fun c1 => ?_) (fun c1 => ?_)
  · skip
    refine lv_iconst (v := 0) hx hb dX8_in_17 (by decide) ?_
    refine k_zret (u := []) hx hb hr (by decide) hlk hP hD hS dX8_in_18 ?_
    exact ⟨bz_f (wl_f1 c1), rfl⟩
  · skip
    refine lv_lload_n hx hb dX8_in_6 rfl (lv_at hl 0 rfl) ?_
    refine lv_lload hx hb dX8_in_7 (lv_at hl 2 rfl) ?_
    refine k_lcmp_gt (tgt := 17) hx hb dX8_in_9 dX8_in_10 (by decide) (fun c2 => ?_) (fun c2 => ?_)
    · skip
      refine lv_iconst (v := 0) hx hb dX8_in_17 (by decide) ?_
      refine k_zret (u := []) hx hb hr (by decide) hlk hP hD hS dX8_in_18 ?_
      exact ⟨bz_f (wl_f2 c2), rfl⟩
    · skip
      refine lv_iconst (v := 1) hx hb dX8_in_13 (by decide) ?_
      refine lv_goto (tgt := 18) hx hb dX8_in_14 (by decide) ?_
      refine k_zret (u := []) hx hb hr (by decide) hlk hP hD hS dX8_in_18 ?_
      exact ⟨bz_t (wl_t c1 c2), rfl⟩
theorem dX8_isPolicy_0 : decode cX8_isPolicy 0 = .ok (.iload_n 1, 1) := by decide +kernel
theorem dX8_isPolicy_1 : decode cX8_isPolicy 1 = .ok (.i2l, 1) := by decide +kernel
theorem dX8_isPolicy_2 : decode cX8_isPolicy 2 = .ok (.lconst 0, 1) := by decide +kernel
theorem dX8_isPolicy_3 : decode cX8_isPolicy 3 = .ok (.aload_n 0, 1) := by decide +kernel
theorem dX8_isPolicy_4 : decode cX8_isPolicy 4 = .ok (.getfield 120, 3) := by decide +kernel
theorem dX8_isPolicy_7 : decode cX8_isPolicy 7 = .ok (.iconst 1, 1) := by decide +kernel
theorem dX8_isPolicy_8 : decode cX8_isPolicy 8 = .ok (.isub, 1) := by decide +kernel
theorem dX8_isPolicy_9 : decode cX8_isPolicy 9 = .ok (.i2l, 1) := by decide +kernel
theorem dX8_isPolicy_10 : decode cX8_isPolicy 10 = .ok (.invokestatic 123, 3) := by decide +kernel
theorem dX8_isPolicy_13 : decode cX8_isPolicy 13 = .ok (.ireturn, 1) := by decide +kernel
set_option maxRecDepth 20000 in
theorem ggX8_isPolicy_X8_in : GoodIn wsX8_isPolicy wsX8_in := goodIn_r _ [5] (by decide +kernel) (by decide +kernel)
set_option maxRecDepth 20000 in
theorem gX8_isPolicy_X8_in : GoodIn wsX8_isPolicy (va_wsS RX8 123 yX8_in wsX8_in) := goodIn_app (goodIn_of _ (by decide +kernel)) ggX8_isPolicy_X8_in
set_option maxHeartbeats 4000000 in
set_option maxRecDepth 100000 in
theorem f_X8_isPolicy (l : Launch) (D : va_G) (cI cJ : ClassId) (sz : Nat) (g g2 g3 g4 g5 g6 g7 g8 g9 g10 g12 g13 g15 g16 g17 g19 g20 g21 g22 g23 g24 g25 g26 g27 g28 g33 g34 g35 g36 g37 g38 g39 g41 g42 g44 g45 : Nat) (n : Int32) : Met l yX8_isPolicy wsX8_isPolicy { frames := 1, cells := 0, slots := 0, locals := 25 } (cPc D cI cJ [.ref g, .int n] sz [(g, .inr (8, [.int 0, .int 0, .ref g2, .ref g3, .ref g4, .ref g5, .ref g6, .ref g7, .ref g8, .ref g9, .ref g10, .int 0, .ref g12, .ref g13, .int 0, .ref g15, .ref g16, .ref g17, .int 0, .ref g19, .ref g20, .ref g21, .ref g22, .ref g23, .ref g24, .ref g25, .ref g26, .ref g27, .ref g28, .int 0, .int 0, .int 0, .int 0, .ref g33, .ref g34, .ref g35, .ref g36, .ref g37, .ref g38, .ref g39, .int 0, .ref g41, .ref g42, .int 0, .ref g44, .ref g45]))]) (cQi D (fun r u => r = 0 ∧ u = [(g, .inr (8, [.int 0, .int 0, .ref g2, .ref g3, .ref g4, .ref g5, .ref g6, .ref g7, .ref g8, .ref g9, .ref g10, .int 0, .ref g12, .ref g13, .int 0, .ref g15, .ref g16, .ref g17, .int 0, .ref g19, .ref g20, .ref g21, .ref g22, .ref g23, .ref g24, .ref g25, .ref g26, .ref g27, .ref g28, .int 0, .int 0, .int 0, .int 0, .ref g33, .ref g34, .ref g35, .ref g36, .ref g37, .ref g38, .ref g39, .int 0, .ref g41, .ref g42, .int 0, .ref g44, .ref g45]))]) (va_A [(g, .inr (8, [.int 0, .int 0, .ref g2, .ref g3, .ref g4, .ref g5, .ref g6, .ref g7, .ref g8, .ref g9, .ref g10, .int 0, .ref g12, .ref g13, .int 0, .ref g15, .ref g16, .ref g17, .int 0, .ref g19, .ref g20, .ref g21, .ref g22, .ref g23, .ref g24, .ref g25, .ref g26, .ref g27, .ref g28, .int 0, .int 0, .int 0, .int 0, .ref g33, .ref g34, .ref g35, .ref g36, .ref g37, .ref g38, .ref g39, .int 0, .ref g41, .ref g42, .int 0, .ref g44, .ref g45]))] sz)) 0 0 (va_A [(g, .inr (8, [.int 0, .int 0, .ref g2, .ref g3, .ref g4, .ref g5, .ref g6, .ref g7, .ref g8, .ref g9, .ref g10, .int 0, .ref g12, .ref g13, .int 0, .ref g15, .ref g16, .ref g17, .int 0, .ref g19, .ref g20, .ref g21, .ref g22, .ref g23, .ref g24, .ref g25, .ref g26, .ref g27, .ref g28, .int 0, .int 0, .int 0, .int 0, .ref g33, .ref g34, .ref g35, .ref g36, .ref g37, .ref g38, .ref g39, .int 0, .ref g41, .ref g42, .int 0, .ref g44, .ref g45]))] sz) := by
  refine k_ofW (Qc := cQi D (fun r u => r = 0 ∧ u = [(g, .inr (8, [.int 0, .int 0, .ref g2, .ref g3, .ref g4, .ref g5, .ref g6, .ref g7, .ref g8, .ref g9, .ref g10, .int 0, .ref g12, .ref g13, .int 0, .ref g15, .ref g16, .ref g17, .int 0, .ref g19, .ref g20, .ref g21, .ref g22, .ref g23, .ref g24, .ref g25, .ref g26, .ref g27, .ref g28, .int 0, .int 0, .int 0, .int 0, .ref g33, .ref g34, .ref g35, .ref g36, .ref g37, .ref g38, .ref g39, .int 0, .ref g41, .ref g42, .int 0, .ref g44, .ref g45]))])) (by decide) rfl (Nat.le_of_ble_eq_true rfl) ?_
  intro p e s m below meth c A ls hx hb hr hml hts hown hlk hnm hsz hE hP hD hS hA hl
  have hown : s.vm.findClass RX8 = some m.cls := hown
  have hiX8 : ∀ w ∈ u_ws RX8 TX8 46, w ∈ wsX8_isPolicy := fun w h => List.mem_cons_of_mem _ (List.mem_append_right _ h)
  have hl : lv_has ls 2 [(0, .ref g), (1, .int n)] := hl
  refine lv_iload_n hx hb dX8_isPolicy_0 rfl (lv_at hl 1 rfl) ?_
  refine lv_i2l hx hb dX8_isPolicy_1 rfl ?_
  refine lv_lconst (v := 0) hx hb dX8_isPolicy_2 (by decide) ?_
  refine lv_aload_n hx hb dX8_isPolicy_3 rfl (lv_at hl 0 rfl) ?_
  refine va_get (D := D) (ci := 8) (v := .int 0) (C := RX8) (T := TX8) (N := 46) hx hb hts hiX8 hown hE.1 hP 0 rfl rfl 1 (by decide) (hts _ (List.mem_of_getElem? (i := 1) rfl)) (fun _ h9 => h9) rfl dX8_isPolicy_4 ?_
  refine lv_iconst (v := 1) hx hb dX8_isPolicy_7 (by decide) ?_
  refine lv_isub hx hb dX8_isPolicy_8 ?_
  refine lv_topi (fun v1 ev1 => ?_)
  obtain rfl : v1 = (-1) := by rw [ev1]; decide
  refine lv_i2l (v := (-1)) hx hb dX8_isPolicy_9 (by decide) ?_
  refine k_i (va_runS (As := [.long (Int32.toInt64 n), .long 0, .long (-1)]) (rest := []) ⟨hx, hb, hml, hown, hts⟩ (m_X8_in l D cI cJ (s.heap).size (Int32.toInt64 n) 0 (-1)) (va_cwS 3 hts gX8_isPolicy_X8_in rfl rfl rfl (by decide +kernel) ⟨Nat.le_of_ble_eq_true rfl, Nat.le_of_ble_eq_true rfl⟩) (k_pre hE hP hD [] (by decide) rfl) rfl rfl hl.1 rfl (lv_room (Nat.le_of_ble_eq_true rfl)) dX8_isPolicy_10 ⟨Nat.le_of_ble_eq_true rfl, Nat.le_of_ble_eq_true rfl⟩) hP hD hS hA [] [0] rfl (wr := [(g, .inr (8, [.int 0, .int 0, .ref g2, .ref g3, .ref g4, .ref g5, .ref g6, .ref g7, .ref g8, .ref g9, .ref g10, .int 0, .ref g12, .ref g13, .int 0, .ref g15, .ref g16, .ref g17, .int 0, .ref g19, .ref g20, .ref g21, .ref g22, .ref g23, .ref g24, .ref g25, .ref g26, .ref g27, .ref g28, .int 0, .int 0, .int 0, .int 0, .ref g33, .ref g34, .ref g35, .ref g36, .ref g37, .ref g38, .ref g39, .int 0, .ref g41, .ref g42, .int 0, .ref g44, .ref g45]))]) rfl (by decide) (by decide) (fun r2 u H locs hw3 hP hD hS => ?_)
  obtain ⟨hw3, rfl⟩ := hw3
  obtain rfl : r2 = 0 := by rw [hw3]; exact bz_z (nofit3 _)
  have hP : va_P D vwCl [(g, .inr (8, [.int 0, .int 0, .ref g2, .ref g3, .ref g4, .ref g5, .ref g6, .ref g7, .ref g8, .ref g9, .ref g10, .int 0, .ref g12, .ref g13, .int 0, .ref g15, .ref g16, .ref g17, .int 0, .ref g19, .ref g20, .ref g21, .ref g22, .ref g23, .ref g24, .ref g25, .ref g26, .ref g27, .ref g28, .int 0, .int 0, .int 0, .int 0, .ref g33, .ref g34, .ref g35, .ref g36, .ref g37, .ref g38, .ref g39, .int 0, .ref g41, .ref g42, .int 0, .ref g44, .ref g45]))] H := hP
  have hD : va_D A [(g, .inr (8, [.int 0, .int 0, .ref g2, .ref g3, .ref g4, .ref g5, .ref g6, .ref g7, .ref g8, .ref g9, .ref g10, .int 0, .ref g12, .ref g13, .int 0, .ref g15, .ref g16, .ref g17, .int 0, .ref g19, .ref g20, .ref g21, .ref g22, .ref g23, .ref g24, .ref g25, .ref g26, .ref g27, .ref g28, .int 0, .int 0, .int 0, .int 0, .ref g33, .ref g34, .ref g35, .ref g36, .ref g37, .ref g38, .ref g39, .int 0, .ref g41, .ref g42, .int 0, .ref g44, .ref g45]))] := hD
  refine k_zret (u := [(g, .inr (8, [.int 0, .int 0, .ref g2, .ref g3, .ref g4, .ref g5, .ref g6, .ref g7, .ref g8, .ref g9, .ref g10, .int 0, .ref g12, .ref g13, .int 0, .ref g15, .ref g16, .ref g17, .int 0, .ref g19, .ref g20, .ref g21, .ref g22, .ref g23, .ref g24, .ref g25, .ref g26, .ref g27, .ref g28, .int 0, .int 0, .int 0, .int 0, .ref g33, .ref g34, .ref g35, .ref g36, .ref g37, .ref g38, .ref g39, .int 0, .ref g41, .ref g42, .int 0, .ref g44, .ref g45]))]) hx hb hr (by decide) hlk hP hD hS dX8_isPolicy_13 ?_
  exact ⟨rfl, rfl⟩
theorem dX8_isLoss_0 : decode cX8_isLoss 0 = .ok (.iload_n 1, 1) := by decide +kernel
theorem dX8_isLoss_1 : decode cX8_isLoss 1 = .ok (.i2l, 1) := by decide +kernel
theorem dX8_isLoss_2 : decode cX8_isLoss 2 = .ok (.lconst 0, 1) := by decide +kernel
theorem dX8_isLoss_3 : decode cX8_isLoss 3 = .ok (.aload_n 0, 1) := by decide +kernel
theorem dX8_isLoss_4 : decode cX8_isLoss 4 = .ok (.getfield 127, 3) := by decide +kernel
theorem dX8_isLoss_7 : decode cX8_isLoss 7 = .ok (.iconst 1, 1) := by decide +kernel
theorem dX8_isLoss_8 : decode cX8_isLoss 8 = .ok (.isub, 1) := by decide +kernel
theorem dX8_isLoss_9 : decode cX8_isLoss 9 = .ok (.i2l, 1) := by decide +kernel
theorem dX8_isLoss_10 : decode cX8_isLoss 10 = .ok (.invokestatic 123, 3) := by decide +kernel
theorem dX8_isLoss_13 : decode cX8_isLoss 13 = .ok (.ireturn, 1) := by decide +kernel
set_option maxRecDepth 20000 in
theorem ggX8_isLoss_X8_in : GoodIn wsX8_isLoss wsX8_in := goodIn_r _ [5] (by decide +kernel) (by decide +kernel)
set_option maxRecDepth 20000 in
theorem gX8_isLoss_X8_in : GoodIn wsX8_isLoss (va_wsS RX8 123 yX8_in wsX8_in) := goodIn_app (goodIn_of _ (by decide +kernel)) ggX8_isLoss_X8_in
set_option maxHeartbeats 4000000 in
set_option maxRecDepth 100000 in
theorem f_X8_isLoss (l : Launch) (D : va_G) (cI cJ : ClassId) (sz : Nat) (g g2 g3 g4 g5 g6 g7 g8 g9 g10 g12 g13 g15 g16 g17 g19 g20 g21 g22 g23 g24 g25 g26 g27 g28 g33 g34 g35 g36 g37 g38 g39 g41 g42 g44 g45 : Nat) (n : Int32) : Met l yX8_isLoss wsX8_isLoss { frames := 1, cells := 0, slots := 0, locals := 25 } (cPc D cI cJ [.ref g, .int n] sz [(g, .inr (8, [.int 0, .int 0, .ref g2, .ref g3, .ref g4, .ref g5, .ref g6, .ref g7, .ref g8, .ref g9, .ref g10, .int 0, .ref g12, .ref g13, .int 0, .ref g15, .ref g16, .ref g17, .int 0, .ref g19, .ref g20, .ref g21, .ref g22, .ref g23, .ref g24, .ref g25, .ref g26, .ref g27, .ref g28, .int 0, .int 0, .int 0, .int 0, .ref g33, .ref g34, .ref g35, .ref g36, .ref g37, .ref g38, .ref g39, .int 0, .ref g41, .ref g42, .int 0, .ref g44, .ref g45]))]) (cQi D (fun r u => r = 0 ∧ u = [(g, .inr (8, [.int 0, .int 0, .ref g2, .ref g3, .ref g4, .ref g5, .ref g6, .ref g7, .ref g8, .ref g9, .ref g10, .int 0, .ref g12, .ref g13, .int 0, .ref g15, .ref g16, .ref g17, .int 0, .ref g19, .ref g20, .ref g21, .ref g22, .ref g23, .ref g24, .ref g25, .ref g26, .ref g27, .ref g28, .int 0, .int 0, .int 0, .int 0, .ref g33, .ref g34, .ref g35, .ref g36, .ref g37, .ref g38, .ref g39, .int 0, .ref g41, .ref g42, .int 0, .ref g44, .ref g45]))]) (va_A [(g, .inr (8, [.int 0, .int 0, .ref g2, .ref g3, .ref g4, .ref g5, .ref g6, .ref g7, .ref g8, .ref g9, .ref g10, .int 0, .ref g12, .ref g13, .int 0, .ref g15, .ref g16, .ref g17, .int 0, .ref g19, .ref g20, .ref g21, .ref g22, .ref g23, .ref g24, .ref g25, .ref g26, .ref g27, .ref g28, .int 0, .int 0, .int 0, .int 0, .ref g33, .ref g34, .ref g35, .ref g36, .ref g37, .ref g38, .ref g39, .int 0, .ref g41, .ref g42, .int 0, .ref g44, .ref g45]))] sz)) 0 0 (va_A [(g, .inr (8, [.int 0, .int 0, .ref g2, .ref g3, .ref g4, .ref g5, .ref g6, .ref g7, .ref g8, .ref g9, .ref g10, .int 0, .ref g12, .ref g13, .int 0, .ref g15, .ref g16, .ref g17, .int 0, .ref g19, .ref g20, .ref g21, .ref g22, .ref g23, .ref g24, .ref g25, .ref g26, .ref g27, .ref g28, .int 0, .int 0, .int 0, .int 0, .ref g33, .ref g34, .ref g35, .ref g36, .ref g37, .ref g38, .ref g39, .int 0, .ref g41, .ref g42, .int 0, .ref g44, .ref g45]))] sz) := by
  refine k_ofW (Qc := cQi D (fun r u => r = 0 ∧ u = [(g, .inr (8, [.int 0, .int 0, .ref g2, .ref g3, .ref g4, .ref g5, .ref g6, .ref g7, .ref g8, .ref g9, .ref g10, .int 0, .ref g12, .ref g13, .int 0, .ref g15, .ref g16, .ref g17, .int 0, .ref g19, .ref g20, .ref g21, .ref g22, .ref g23, .ref g24, .ref g25, .ref g26, .ref g27, .ref g28, .int 0, .int 0, .int 0, .int 0, .ref g33, .ref g34, .ref g35, .ref g36, .ref g37, .ref g38, .ref g39, .int 0, .ref g41, .ref g42, .int 0, .ref g44, .ref g45]))])) (by decide) rfl (Nat.le_of_ble_eq_true rfl) ?_
  intro p e s m below meth c A ls hx hb hr hml hts hown hlk hnm hsz hE hP hD hS hA hl
  have hown : s.vm.findClass RX8 = some m.cls := hown
  have hiX8 : ∀ w ∈ u_ws RX8 TX8 46, w ∈ wsX8_isLoss := fun w h => List.mem_cons_of_mem _ (List.mem_append_right _ h)
  have hl : lv_has ls 2 [(0, .ref g), (1, .int n)] := hl
  refine lv_iload_n hx hb dX8_isLoss_0 rfl (lv_at hl 1 rfl) ?_
  refine lv_i2l hx hb dX8_isLoss_1 rfl ?_
  refine lv_lconst (v := 0) hx hb dX8_isLoss_2 (by decide) ?_
  refine lv_aload_n hx hb dX8_isLoss_3 rfl (lv_at hl 0 rfl) ?_
  refine va_get (D := D) (ci := 8) (v := .int 0) (C := RX8) (T := TX8) (N := 46) hx hb hts hiX8 hown hE.1 hP 0 rfl rfl 11 (by decide) (hts _ (List.mem_of_getElem? (i := 1) rfl)) (fun _ h9 => h9) rfl dX8_isLoss_4 ?_
  refine lv_iconst (v := 1) hx hb dX8_isLoss_7 (by decide) ?_
  refine lv_isub hx hb dX8_isLoss_8 ?_
  refine lv_topi (fun v1 ev1 => ?_)
  obtain rfl : v1 = (-1) := by rw [ev1]; decide
  refine lv_i2l (v := (-1)) hx hb dX8_isLoss_9 (by decide) ?_
  refine k_i (va_runS (As := [.long (Int32.toInt64 n), .long 0, .long (-1)]) (rest := []) ⟨hx, hb, hml, hown, hts⟩ (m_X8_in l D cI cJ (s.heap).size (Int32.toInt64 n) 0 (-1)) (va_cwS 3 hts gX8_isLoss_X8_in rfl rfl rfl (by decide +kernel) ⟨Nat.le_of_ble_eq_true rfl, Nat.le_of_ble_eq_true rfl⟩) (k_pre hE hP hD [] (by decide) rfl) rfl rfl hl.1 rfl (lv_room (Nat.le_of_ble_eq_true rfl)) dX8_isLoss_10 ⟨Nat.le_of_ble_eq_true rfl, Nat.le_of_ble_eq_true rfl⟩) hP hD hS hA [] [0] rfl (wr := [(g, .inr (8, [.int 0, .int 0, .ref g2, .ref g3, .ref g4, .ref g5, .ref g6, .ref g7, .ref g8, .ref g9, .ref g10, .int 0, .ref g12, .ref g13, .int 0, .ref g15, .ref g16, .ref g17, .int 0, .ref g19, .ref g20, .ref g21, .ref g22, .ref g23, .ref g24, .ref g25, .ref g26, .ref g27, .ref g28, .int 0, .int 0, .int 0, .int 0, .ref g33, .ref g34, .ref g35, .ref g36, .ref g37, .ref g38, .ref g39, .int 0, .ref g41, .ref g42, .int 0, .ref g44, .ref g45]))]) rfl (by decide) (by decide) (fun r2 u H locs hw3 hP hD hS => ?_)
  obtain ⟨hw3, rfl⟩ := hw3
  obtain rfl : r2 = 0 := by rw [hw3]; exact bz_z (nofit3 _)
  have hP : va_P D vwCl [(g, .inr (8, [.int 0, .int 0, .ref g2, .ref g3, .ref g4, .ref g5, .ref g6, .ref g7, .ref g8, .ref g9, .ref g10, .int 0, .ref g12, .ref g13, .int 0, .ref g15, .ref g16, .ref g17, .int 0, .ref g19, .ref g20, .ref g21, .ref g22, .ref g23, .ref g24, .ref g25, .ref g26, .ref g27, .ref g28, .int 0, .int 0, .int 0, .int 0, .ref g33, .ref g34, .ref g35, .ref g36, .ref g37, .ref g38, .ref g39, .int 0, .ref g41, .ref g42, .int 0, .ref g44, .ref g45]))] H := hP
  have hD : va_D A [(g, .inr (8, [.int 0, .int 0, .ref g2, .ref g3, .ref g4, .ref g5, .ref g6, .ref g7, .ref g8, .ref g9, .ref g10, .int 0, .ref g12, .ref g13, .int 0, .ref g15, .ref g16, .ref g17, .int 0, .ref g19, .ref g20, .ref g21, .ref g22, .ref g23, .ref g24, .ref g25, .ref g26, .ref g27, .ref g28, .int 0, .int 0, .int 0, .int 0, .ref g33, .ref g34, .ref g35, .ref g36, .ref g37, .ref g38, .ref g39, .int 0, .ref g41, .ref g42, .int 0, .ref g44, .ref g45]))] := hD
  refine k_zret (u := [(g, .inr (8, [.int 0, .int 0, .ref g2, .ref g3, .ref g4, .ref g5, .ref g6, .ref g7, .ref g8, .ref g9, .ref g10, .int 0, .ref g12, .ref g13, .int 0, .ref g15, .ref g16, .ref g17, .int 0, .ref g19, .ref g20, .ref g21, .ref g22, .ref g23, .ref g24, .ref g25, .ref g26, .ref g27, .ref g28, .int 0, .int 0, .int 0, .int 0, .ref g33, .ref g34, .ref g35, .ref g36, .ref g37, .ref g38, .ref g39, .int 0, .ref g41, .ref g42, .int 0, .ref g44, .ref g45]))]) hx hb hr (by decide) hlk hP hD hS dX8_isLoss_13 ?_
  exact ⟨rfl, rfl⟩
theorem dX8_isItem_0 : decode cX8_isItem 0 = .ok (.iload_n 0, 1) := by decide +kernel
theorem dX8_isItem_1 : decode cX8_isItem 1 = .ok (.i2l, 1) := by decide +kernel
theorem dX8_isItem_2 : decode cX8_isItem 2 = .ok (.lconst 0, 1) := by decide +kernel
theorem dX8_isItem_3 : decode cX8_isItem 3 = .ok (.ldc2_w 130, 3) := by decide +kernel
theorem dX8_isItem_6 : decode cX8_isItem 6 = .ok (.invokestatic 123, 3) := by decide +kernel
theorem dX8_isItem_9 : decode cX8_isItem 9 = .ok (.ireturn, 1) := by decide +kernel
set_option maxRecDepth 20000 in
theorem ggX8_isItem_X8_in : GoodIn wsX8_isItem wsX8_in := goodIn_r _ [5] (by decide +kernel) (by decide +kernel)
set_option maxRecDepth 20000 in
theorem gX8_isItem_X8_in : GoodIn wsX8_isItem (va_wsS RX8 123 yX8_in wsX8_in) := goodIn_app (goodIn_of _ (by decide +kernel)) ggX8_isItem_X8_in
set_option maxHeartbeats 4000000 in
set_option maxRecDepth 100000 in
theorem m_X8_isItem (l : Launch) (D : va_G) (cI cJ : ClassId) (sz : Nat) (n : Int32) : Met l yX8_isItem wsX8_isItem { frames := 1, cells := 0, slots := 0, locals := 25 } (cPc D cI cJ [.int n] sz []) (cQi D (fun r u => r = bz (0 ≤ n ∧ n ≤ 7) ∧ u = []) (va_A [] sz)) 0 0 (va_A [] sz) := by
  refine k_ofW (Qc := cQi D (fun r u => r = bz (0 ≤ n ∧ n ≤ 7) ∧ u = [])) (by decide) rfl (Nat.le_of_ble_eq_true rfl) ?_
  intro p e s m below meth c A ls hx hb hr hml hts hown hlk hnm hsz hE hP hD hS hA hl
  have hown : s.vm.findClass RX8 = some m.cls := hown
  have hl : lv_has ls 1 [(0, .int n)] := hl
  refine lv_iload_n hx hb dX8_isItem_0 rfl (lv_at hl 0 rfl) ?_
  refine lv_i2l hx hb dX8_isItem_1 rfl ?_
  refine lv_lconst (v := 0) hx hb dX8_isItem_2 (by decide) ?_
  refine lv_ldc2 (v := 7) hx hb hown (hts _ (List.mem_of_getElem? (i := 1) rfl)) dX8_isItem_3 ?_
  refine k_i (va_runS (As := [.long (Int32.toInt64 n), .long 0, .long 7]) (rest := []) ⟨hx, hb, hml, hown, hts⟩ (m_X8_in l D cI cJ (s.heap).size (Int32.toInt64 n) 0 7) (va_cwS 3 hts gX8_isItem_X8_in rfl rfl rfl (by decide +kernel) ⟨Nat.le_of_ble_eq_true rfl, Nat.le_of_ble_eq_true rfl⟩) (k_pre hE hP hD [] (by decide) rfl) rfl rfl hl.1 rfl (lv_room (Nat.le_of_ble_eq_true rfl)) dX8_isItem_6 ⟨Nat.le_of_ble_eq_true rfl, Nat.le_of_ble_eq_true rfl⟩) hP hD hS hA [] [] rfl (wr := []) rfl (by decide) (by decide) (fun r1 u H locs hw2 hP hD hS => ?_)
  obtain ⟨hw2, rfl⟩ := hw2
  have hw3 : r1 = bz (0 ≤ n ∧ n ≤ 7) := by rw [hw2]; exact bz_c (w3 (lo := 0) (hi := 7) (by decide) (by decide))
  have hP : va_P D vwCl [] H := hP
  have hD : va_D A [] := hD
  refine k_zret (u := []) hx hb hr (bz_01 hw3) hlk hP hD hS dX8_isItem_9 ?_
  exact ⟨hw3, rfl⟩
theorem dX8_isPlace_0 : decode cX8_isPlace 0 = .ok (.iload_n 0, 1) := by decide +kernel
theorem dX8_isPlace_1 : decode cX8_isPlace 1 = .ok (.i2l, 1) := by decide +kernel
theorem dX8_isPlace_2 : decode cX8_isPlace 2 = .ok (.lconst 0, 1) := by decide +kernel
theorem dX8_isPlace_3 : decode cX8_isPlace 3 = .ok (.ldc2_w 144, 3) := by decide +kernel
theorem dX8_isPlace_6 : decode cX8_isPlace 6 = .ok (.invokestatic 123, 3) := by decide +kernel
theorem dX8_isPlace_9 : decode cX8_isPlace 9 = .ok (.ifCond .eq 19, 3) := by decide +kernel
theorem dX8_isPlace_12 : decode cX8_isPlace 12 = .ok (.iload_n 1, 1) := by decide +kernel
theorem dX8_isPlace_13 : decode cX8_isPlace 13 = .ok (.i2l, 1) := by decide +kernel
theorem dX8_isPlace_14 : decode cX8_isPlace 14 = .ok (.lconst 0, 1) := by decide +kernel
theorem dX8_isPlace_15 : decode cX8_isPlace 15 = .ok (.ldc2_w 130, 3) := by decide +kernel
theorem dX8_isPlace_18 : decode cX8_isPlace 18 = .ok (.invokestatic 123, 3) := by decide +kernel
theorem dX8_isPlace_21 : decode cX8_isPlace 21 = .ok (.ifCond .eq 7, 3) := by decide +kernel
theorem dX8_isPlace_24 : decode cX8_isPlace 24 = .ok (.iconst 1, 1) := by decide +kernel
theorem dX8_isPlace_25 : decode cX8_isPlace 25 = .ok (.goto 4, 3) := by decide +kernel
theorem dX8_isPlace_28 : decode cX8_isPlace 28 = .ok (.iconst 0, 1) := by decide +kernel
theorem dX8_isPlace_29 : decode cX8_isPlace 29 = .ok (.ireturn, 1) := by decide +kernel
set_option maxRecDepth 20000 in
theorem ggX8_isPlace_X8_in : GoodIn wsX8_isPlace wsX8_in := goodIn_r _ [6] (by decide +kernel) (by decide +kernel)
set_option maxRecDepth 20000 in
theorem gX8_isPlace_X8_in : GoodIn wsX8_isPlace (va_wsS RX8 123 yX8_in wsX8_in) := goodIn_app (goodIn_of _ (by decide +kernel)) ggX8_isPlace_X8_in
set_option maxHeartbeats 4000000 in
set_option maxRecDepth 100000 in
theorem m_X8_isPlace (l : Launch) (D : va_G) (cI cJ : ClassId) (sz : Nat) (n k : Int32) : Met l yX8_isPlace wsX8_isPlace { frames := 1, cells := 0, slots := 0, locals := 25 } (cPc D cI cJ [.int n, .int k] sz []) (cQi D (fun r u => r = bz ((0 ≤ n ∧ n ≤ 3) ∧ 0 ≤ k ∧ k ≤ 7) ∧ u = []) (va_A [] sz)) 0 0 (va_A [] sz) := by
  refine k_ofW (Qc := cQi D (fun r u => r = bz ((0 ≤ n ∧ n ≤ 3) ∧ 0 ≤ k ∧ k ≤ 7) ∧ u = [])) (by decide) rfl (Nat.le_of_ble_eq_true rfl) ?_
  intro p e s m below meth c A ls hx hb hr hml hts hown hlk hnm hsz hE hP hD hS hA hl
  have hown : s.vm.findClass RX8 = some m.cls := hown
  have hl : lv_has ls 2 [(0, .int n), (1, .int k)] := hl
  refine lv_iload_n hx hb dX8_isPlace_0 rfl (lv_at hl 0 rfl) ?_
  refine lv_i2l hx hb dX8_isPlace_1 rfl ?_
  refine lv_lconst (v := 0) hx hb dX8_isPlace_2 (by decide) ?_
  refine lv_ldc2 (v := 3) hx hb hown (hts _ (List.mem_of_getElem? (i := 1) rfl)) dX8_isPlace_3 ?_
  refine k_i (va_runS (As := [.long (Int32.toInt64 n), .long 0, .long 3]) (rest := []) ⟨hx, hb, hml, hown, hts⟩ (m_X8_in l D cI cJ (s.heap).size (Int32.toInt64 n) 0 3) (va_cwS 3 hts gX8_isPlace_X8_in rfl rfl rfl (by decide +kernel) ⟨Nat.le_of_ble_eq_true rfl, Nat.le_of_ble_eq_true rfl⟩) (k_pre hE hP hD [] (by decide) rfl) rfl rfl hl.1 rfl (lv_room (Nat.le_of_ble_eq_true rfl)) dX8_isPlace_6 ⟨Nat.le_of_ble_eq_true rfl, Nat.le_of_ble_eq_true rfl⟩) hP hD hS hA [] [] rfl (wr := []) rfl (by decide) (by decide) (fun r1 u H locs hw2 hP hD hS => ?_)
  obtain ⟨hw2, rfl⟩ := hw2
  have hw3 : r1 = bz (0 ≤ n ∧ n ≤ 3) := by rw [hw2]; exact bz_c (w3 (lo := 0) (hi := 3) (by decide) (by decide))
  have hP : va_P D vwCl [] H := hP
  have hD : va_D A [] := hD
  refine lv_if_eq (tgt := 28) hx hb dX8_isPlace_9 (by decide) (fun c4 => ?_) (fun c4 => ?_)
  · skip
    have hc4 : ¬ (0 ≤ n ∧ n ≤ 3) := bz_0 hw3 c4
    refine lv_iconst (v := 0) hx hb dX8_isPlace_28 (by decide) ?_
    refine k_zret (u := []) hx hb hr (by decide) hlk hP hD hS dX8_isPlace_29 ?_
    exact ⟨bz_f (fun q => hc4 q.1), rfl⟩
  · skip
    have hc4 : 0 ≤ n ∧ n ≤ 3 := bz_1 hw3 c4
    refine lv_iload_n hx hb dX8_isPlace_12 rfl (lv_at hl 1 rfl) ?_
    refine lv_i2l hx hb dX8_isPlace_13 rfl ?_
    refine lv_lconst (v := 0) hx hb dX8_isPlace_14 (by decide) ?_
    refine lv_ldc2 (v := 7) hx hb hown (hts _ (List.mem_of_getElem? (i := 2) rfl)) dX8_isPlace_15 ?_
    refine k_i (va_runS (As := [.long (Int32.toInt64 k), .long 0, .long 7]) (rest := []) ⟨hx, hb, hml, hown, hts⟩ (m_X8_in l D cI cJ H.size (Int32.toInt64 k) 0 7) (va_cwS 3 hts gX8_isPlace_X8_in rfl rfl rfl (by decide +kernel) ⟨Nat.le_of_ble_eq_true rfl, Nat.le_of_ble_eq_true rfl⟩) (k_pre hE hP hD [] (by decide) rfl) rfl rfl hl.1 rfl (lv_room (Nat.le_of_ble_eq_true rfl)) dX8_isPlace_18 ⟨Nat.le_of_ble_eq_true rfl, Nat.le_of_ble_eq_true rfl⟩) hP hD hS hA [] [] rfl (wr := []) rfl (by decide) (by decide) (fun r5 u H locs hw6 hP hD hS => ?_)
    obtain ⟨hw6, rfl⟩ := hw6
    have hw7 : r5 = bz (0 ≤ k ∧ k ≤ 7) := by rw [hw6]; exact bz_c (w3 (lo := 0) (hi := 7) (by decide) (by decide))
    have hP : va_P D vwCl [] H := hP
    have hD : va_D A [] := hD
    refine lv_if_eq (tgt := 28) hx hb dX8_isPlace_21 (by decide) (fun c8 => ?_) (fun c8 => ?_)
    · skip
      have hc8 : ¬ (0 ≤ k ∧ k ≤ 7) := bz_0 hw7 c8
      refine lv_iconst (v := 0) hx hb dX8_isPlace_28 (by decide) ?_
      refine k_zret (u := []) hx hb hr (by decide) hlk hP hD hS dX8_isPlace_29 ?_
      exact ⟨bz_f (fun q => hc8 q.2), rfl⟩
    · skip
      have hc8 : 0 ≤ k ∧ k ≤ 7 := bz_1 hw7 c8
      refine lv_iconst (v := 1) hx hb dX8_isPlace_24 (by decide) ?_
      refine lv_goto (tgt := 29) hx hb dX8_isPlace_25 (by decide) ?_
      refine k_zret (u := []) hx hb hr (by decide) hlk hP hD hS dX8_isPlace_29 ?_
      exact ⟨bz_t ⟨hc4, hc8⟩, rfl⟩
theorem dX8_all_0 : decode cX8_all 0 = .ok (.iconst 1, 1) := by decide +kernel
theorem dX8_all_1 : decode cX8_all 1 = .ok (.aload_n 0, 1) := by decide +kernel
theorem dX8_all_2 : decode cX8_all 2 = .ok (.getfield 120, 3) := by decide +kernel
theorem dX8_all_5 : decode cX8_all 5 = .ok (.ishl, 1) := by decide +kernel
theorem dX8_all_6 : decode cX8_all 6 = .ok (.iconst 1, 1) := by decide +kernel
theorem dX8_all_7 : decode cX8_all 7 = .ok (.isub, 1) := by decide +kernel
theorem dX8_all_8 : decode cX8_all 8 = .ok (.ireturn, 1) := by decide +kernel
set_option maxHeartbeats 4000000 in
set_option maxRecDepth 100000 in
theorem f_X8_all (l : Launch) (D : va_G) (cI cJ : ClassId) (sz : Nat) (g g2 g3 g4 g5 g6 g7 g8 g9 g10 g12 g13 g15 g16 g17 g19 g20 g21 g22 g23 g24 g25 g26 g27 g28 g33 g34 g35 g36 g37 g38 g39 g41 g42 g44 g45 : Nat) : Met l yX8_all wsX8_all { frames := 0, cells := 0, slots := 0, locals := 0 } (cPc D cI cJ [.ref g] sz [(g, .inr (8, [.int 0, .int 0, .ref g2, .ref g3, .ref g4, .ref g5, .ref g6, .ref g7, .ref g8, .ref g9, .ref g10, .int 0, .ref g12, .ref g13, .int 0, .ref g15, .ref g16, .ref g17, .int 0, .ref g19, .ref g20, .ref g21, .ref g22, .ref g23, .ref g24, .ref g25, .ref g26, .ref g27, .ref g28, .int 0, .int 0, .int 0, .int 0, .ref g33, .ref g34, .ref g35, .ref g36, .ref g37, .ref g38, .ref g39, .int 0, .ref g41, .ref g42, .int 0, .ref g44, .ref g45]))]) (cQi D (fun r u => r = 0 ∧ u = [(g, .inr (8, [.int 0, .int 0, .ref g2, .ref g3, .ref g4, .ref g5, .ref g6, .ref g7, .ref g8, .ref g9, .ref g10, .int 0, .ref g12, .ref g13, .int 0, .ref g15, .ref g16, .ref g17, .int 0, .ref g19, .ref g20, .ref g21, .ref g22, .ref g23, .ref g24, .ref g25, .ref g26, .ref g27, .ref g28, .int 0, .int 0, .int 0, .int 0, .ref g33, .ref g34, .ref g35, .ref g36, .ref g37, .ref g38, .ref g39, .int 0, .ref g41, .ref g42, .int 0, .ref g44, .ref g45]))]) (va_A [(g, .inr (8, [.int 0, .int 0, .ref g2, .ref g3, .ref g4, .ref g5, .ref g6, .ref g7, .ref g8, .ref g9, .ref g10, .int 0, .ref g12, .ref g13, .int 0, .ref g15, .ref g16, .ref g17, .int 0, .ref g19, .ref g20, .ref g21, .ref g22, .ref g23, .ref g24, .ref g25, .ref g26, .ref g27, .ref g28, .int 0, .int 0, .int 0, .int 0, .ref g33, .ref g34, .ref g35, .ref g36, .ref g37, .ref g38, .ref g39, .int 0, .ref g41, .ref g42, .int 0, .ref g44, .ref g45]))] sz)) 0 0 (va_A [(g, .inr (8, [.int 0, .int 0, .ref g2, .ref g3, .ref g4, .ref g5, .ref g6, .ref g7, .ref g8, .ref g9, .ref g10, .int 0, .ref g12, .ref g13, .int 0, .ref g15, .ref g16, .ref g17, .int 0, .ref g19, .ref g20, .ref g21, .ref g22, .ref g23, .ref g24, .ref g25, .ref g26, .ref g27, .ref g28, .int 0, .int 0, .int 0, .int 0, .ref g33, .ref g34, .ref g35, .ref g36, .ref g37, .ref g38, .ref g39, .int 0, .ref g41, .ref g42, .int 0, .ref g44, .ref g45]))] sz) := by
  refine k_ofW (Qc := cQi D (fun r u => r = 0 ∧ u = [(g, .inr (8, [.int 0, .int 0, .ref g2, .ref g3, .ref g4, .ref g5, .ref g6, .ref g7, .ref g8, .ref g9, .ref g10, .int 0, .ref g12, .ref g13, .int 0, .ref g15, .ref g16, .ref g17, .int 0, .ref g19, .ref g20, .ref g21, .ref g22, .ref g23, .ref g24, .ref g25, .ref g26, .ref g27, .ref g28, .int 0, .int 0, .int 0, .int 0, .ref g33, .ref g34, .ref g35, .ref g36, .ref g37, .ref g38, .ref g39, .int 0, .ref g41, .ref g42, .int 0, .ref g44, .ref g45]))])) (by decide) rfl (Nat.le_of_ble_eq_true rfl) ?_
  intro p e s m below meth c A ls hx hb hr hml hts hown hlk hnm hsz hE hP hD hS hA hl
  have hown : s.vm.findClass RX8 = some m.cls := hown
  have hiX8 : ∀ w ∈ u_ws RX8 TX8 46, w ∈ wsX8_all := fun w h => List.mem_cons_of_mem _ (List.mem_append_right _ h)
  have hl : lv_has ls 1 [(0, .ref g)] := hl
  refine lv_iconst (v := 1) hx hb dX8_all_0 (by decide) ?_
  refine lv_aload_n hx hb dX8_all_1 rfl (lv_at hl 0 rfl) ?_
  refine va_get (D := D) (ci := 8) (v := .int 0) (C := RX8) (T := TX8) (N := 46) hx hb hts hiX8 hown hE.1 hP 0 rfl rfl 1 (by decide) (hts _ (List.mem_of_getElem? (i := 1) rfl)) (fun _ h9 => h9) rfl dX8_all_2 ?_
  refine lv_ishl hx hb dX8_all_5 ?_
  refine lv_topi (fun v1 ev1 => ?_)
  obtain rfl : v1 = 1 := by rw [ev1]; decide
  refine lv_iconst (v := 1) hx hb dX8_all_6 (by decide) ?_
  refine lv_isub hx hb dX8_all_7 ?_
  refine lv_topi (fun v2 ev2 => ?_)
  obtain rfl : v2 = 0 := by rw [ev2]; decide
  refine k_iret (u := [(g, .inr (8, [.int 0, .int 0, .ref g2, .ref g3, .ref g4, .ref g5, .ref g6, .ref g7, .ref g8, .ref g9, .ref g10, .int 0, .ref g12, .ref g13, .int 0, .ref g15, .ref g16, .ref g17, .int 0, .ref g19, .ref g20, .ref g21, .ref g22, .ref g23, .ref g24, .ref g25, .ref g26, .ref g27, .ref g28, .int 0, .int 0, .int 0, .int 0, .ref g33, .ref g34, .ref g35, .ref g36, .ref g37, .ref g38, .ref g39, .int 0, .ref g41, .ref g42, .int 0, .ref g44, .ref g45]))]) hx hb hr hlk hP hD hS dX8_all_8 ?_
  exact ⟨rfl, rfl⟩
theorem dX8_isBoth_0 : decode cX8_isBoth 0 = .ok (.aload_n 0, 1) := by decide +kernel
theorem dX8_isBoth_1 : decode cX8_isBoth 1 = .ok (.iconst 0, 1) := by decide +kernel
theorem dX8_isBoth_2 : decode cX8_isBoth 2 = .ok (.putfield 116, 3) := by decide +kernel
theorem dX8_isBoth_5 : decode cX8_isBoth 5 = .ok (.aload_n 0, 1) := by decide +kernel
theorem dX8_isBoth_6 : decode cX8_isBoth 6 = .ok (.iload_n 1, 1) := by decide +kernel
theorem dX8_isBoth_7 : decode cX8_isBoth 7 = .ok (.invokevirtual 252, 3) := by decide +kernel
theorem dX8_isBoth_10 : decode cX8_isBoth 10 = .ok (.ifCond .eq 11, 3) := by decide +kernel
theorem dX8_isBoth_21 : decode cX8_isBoth 21 = .ok (.iconst 0, 1) := by decide +kernel
theorem dX8_isBoth_22 : decode cX8_isBoth 22 = .ok (.ireturn, 1) := by decide +kernel
set_option maxRecDepth 20000 in
theorem ggX8_isBoth_X8_isLoss : GoodIn wsX8_isBoth wsX8_isLoss := goodIn_r _ [6, 7, 8, 9, 5, 10, 110, 111, 112, 113, 114, 115, 116, 117, 118, 119, 120, 121, 122, 123, 124, 125, 126, 127, 128, 129, 130, 131, 132, 133, 134, 135, 136, 137, 138, 139, 140, 141, 142, 143, 144, 145, 146, 147, 148, 149, 150, 151, 152, 153, 154, 155] (by decide +kernel) (by decide +kernel)
set_option maxRecDepth 20000 in
theorem gX8_isBoth_X8_isLoss : GoodIn wsX8_isBoth (wsV RX8 252 RX8 yX8_isLoss wsX8_isLoss) := goodIn_app (goodIn_of _ (by decide +kernel)) ggX8_isBoth_X8_isLoss
set_option maxHeartbeats 4000000 in
set_option maxRecDepth 100000 in
theorem f_X8_isBoth (l : Launch) (D : va_G) (cI cJ : ClassId) (sz : Nat) (g g2 g3 g4 g5 g6 g7 g8 g9 g10 g12 g13 g15 g16 g17 g19 g20 g21 g22 g23 g24 g25 g26 g27 g28 g33 g34 g35 g36 g37 g38 g39 g41 g42 g44 g45 : Nat) (n k : Int32) : Met l yX8_isBoth wsX8_isBoth { frames := 2, cells := 0, slots := 0, locals := 46 } (cPc D cI cJ [.ref g, .int n, .int k] sz [(g, .inr (8, [.int 0, .int 0, .ref g2, .ref g3, .ref g4, .ref g5, .ref g6, .ref g7, .ref g8, .ref g9, .ref g10, .int 0, .ref g12, .ref g13, .int 0, .ref g15, .ref g16, .ref g17, .int 0, .ref g19, .ref g20, .ref g21, .ref g22, .ref g23, .ref g24, .ref g25, .ref g26, .ref g27, .ref g28, .int 0, .int 0, .int 0, .int 0, .ref g33, .ref g34, .ref g35, .ref g36, .ref g37, .ref g38, .ref g39, .int 0, .ref g41, .ref g42, .int 0, .ref g44, .ref g45]))]) (cQi D (fun r u => r = 0 ∧ u = [(g, .inr (8, [.int 0, .int 0, .ref g2, .ref g3, .ref g4, .ref g5, .ref g6, .ref g7, .ref g8, .ref g9, .ref g10, .int 0, .ref g12, .ref g13, .int 0, .ref g15, .ref g16, .ref g17, .int 0, .ref g19, .ref g20, .ref g21, .ref g22, .ref g23, .ref g24, .ref g25, .ref g26, .ref g27, .ref g28, .int 0, .int 0, .int 0, .int 0, .ref g33, .ref g34, .ref g35, .ref g36, .ref g37, .ref g38, .ref g39, .int 0, .ref g41, .ref g42, .int 0, .ref g44, .ref g45]))]) (va_A [(g, .inr (8, [.int 0, .int 0, .ref g2, .ref g3, .ref g4, .ref g5, .ref g6, .ref g7, .ref g8, .ref g9, .ref g10, .int 0, .ref g12, .ref g13, .int 0, .ref g15, .ref g16, .ref g17, .int 0, .ref g19, .ref g20, .ref g21, .ref g22, .ref g23, .ref g24, .ref g25, .ref g26, .ref g27, .ref g28, .int 0, .int 0, .int 0, .int 0, .ref g33, .ref g34, .ref g35, .ref g36, .ref g37, .ref g38, .ref g39, .int 0, .ref g41, .ref g42, .int 0, .ref g44, .ref g45]))] sz)) 0 0 (va_A [(g, .inr (8, [.int 0, .int 0, .ref g2, .ref g3, .ref g4, .ref g5, .ref g6, .ref g7, .ref g8, .ref g9, .ref g10, .int 0, .ref g12, .ref g13, .int 0, .ref g15, .ref g16, .ref g17, .int 0, .ref g19, .ref g20, .ref g21, .ref g22, .ref g23, .ref g24, .ref g25, .ref g26, .ref g27, .ref g28, .int 0, .int 0, .int 0, .int 0, .ref g33, .ref g34, .ref g35, .ref g36, .ref g37, .ref g38, .ref g39, .int 0, .ref g41, .ref g42, .int 0, .ref g44, .ref g45]))] sz) := by
  refine k_ofW (Qc := cQi D (fun r u => r = 0 ∧ u = [(g, .inr (8, [.int 0, .int 0, .ref g2, .ref g3, .ref g4, .ref g5, .ref g6, .ref g7, .ref g8, .ref g9, .ref g10, .int 0, .ref g12, .ref g13, .int 0, .ref g15, .ref g16, .ref g17, .int 0, .ref g19, .ref g20, .ref g21, .ref g22, .ref g23, .ref g24, .ref g25, .ref g26, .ref g27, .ref g28, .int 0, .int 0, .int 0, .int 0, .ref g33, .ref g34, .ref g35, .ref g36, .ref g37, .ref g38, .ref g39, .int 0, .ref g41, .ref g42, .int 0, .ref g44, .ref g45]))])) (by decide) rfl (Nat.le_of_ble_eq_true rfl) ?_
  intro p e s m below meth c A ls hx hb hr hml hts hown hlk hnm hsz hE hP hD hS hA hl
  have hown : s.vm.findClass RX8 = some m.cls := hown
  have hiX8 : ∀ w ∈ u_ws RX8 TX8 46, w ∈ wsX8_isBoth := fun w h => List.mem_cons_of_mem _ (List.mem_append_right _ h)
  have hl : lv_has ls 3 [(0, .ref g), (1, .int n), (2, .int k)] := hl
  refine lv_aload_n hx hb dX8_isBoth_0 rfl (lv_at hl 0 rfl) ?_
  refine lv_iconst (v := 0) hx hb dX8_isBoth_1 (by decide) ?_
  refine va_put (D := D) (ci := 8) (v := .int 0) (ty := .int) (C := RX8) (T := TX8) (N := 46) hx hb hts hiX8 tyX8 tyX8_ok nmX8 hown hE.1 hP hD hS 0 rfl rfl 0 (by decide) (hts _ (List.mem_of_getElem? (i := 1) rfl)) (fun _ h9 => h9) rfl (by decide +kernel) rfl rfl (Nat.le_of_ble_eq_true rfl) dX8_isBoth_2 (fun H locs hP hD hS => ?_)
  have hP : va_P D vwCl [(g, .inr (8, [.int 0, .int 0, .ref g2, .ref g3, .ref g4, .ref g5, .ref g6, .ref g7, .ref g8, .ref g9, .ref g10, .int 0, .ref g12, .ref g13, .int 0, .ref g15, .ref g16, .ref g17, .int 0, .ref g19, .ref g20, .ref g21, .ref g22, .ref g23, .ref g24, .ref g25, .ref g26, .ref g27, .ref g28, .int 0, .int 0, .int 0, .int 0, .ref g33, .ref g34, .ref g35, .ref g36, .ref g37, .ref g38, .ref g39, .int 0, .ref g41, .ref g42, .int 0, .ref g44, .ref g45]))] H := hP
  have hD : va_D A [(g, .inr (8, [.int 0, .int 0, .ref g2, .ref g3, .ref g4, .ref g5, .ref g6, .ref g7, .ref g8, .ref g9, .ref g10, .int 0, .ref g12, .ref g13, .int 0, .ref g15, .ref g16, .ref g17, .int 0, .ref g19, .ref g20, .ref g21, .ref g22, .ref g23, .ref g24, .ref g25, .ref g26, .ref g27, .ref g28, .int 0, .int 0, .int 0, .int 0, .ref g33, .ref g34, .ref g35, .ref g36, .ref g37, .ref g38, .ref g39, .int 0, .ref g41, .ref g42, .int 0, .ref g44, .ref g45]))] := hD
  refine lv_aload_n hx hb dX8_isBoth_5 rfl (lv_at hl 0 rfl) ?_
  refine lv_iload_n hx hb dX8_isBoth_6 rfl (lv_at hl 1 rfl) ?_
  refine k_i (va_runV (As := [.int n]) (rest := []) ⟨hx, hb, hml, hown, hts⟩ (f_X8_isLoss l D cI cJ H.size g g2 g3 g4 g5 g6 g7 g8 g9 g10 g12 g13 g15 g16 g17 g19 g20 g21 g22 g23 g24 g25 g26 g27 g28 g33 g34 g35 g36 g37 g38 g39 g41 g42 g44 g45 n) (cwV 1 hts gX8_isBoth_X8_isLoss rfl rfl rfl (by decide +kernel) ⟨Nat.le_of_ble_eq_true rfl, Nat.le_of_ble_eq_true rfl⟩) (k_preV hE hP hD [0] (by decide) rfl 0 rfl rfl) rfl rfl hl.1 rfl (lv_room (Nat.le_of_ble_eq_true rfl)) dX8_isBoth_7 ⟨Nat.le_of_ble_eq_true rfl, Nat.le_of_ble_eq_true rfl⟩) hP hD hS hA [0] [] rfl (wr := []) rfl (by decide) (by decide) (fun r1 u H locs hw2 hP hD hS => ?_)
  obtain ⟨rfl, rfl⟩ := hw2
  have hP : va_P D vwCl [(g, .inr (8, [.int 0, .int 0, .ref g2, .ref g3, .ref g4, .ref g5, .ref g6, .ref g7, .ref g8, .ref g9, .ref g10, .int 0, .ref g12, .ref g13, .int 0, .ref g15, .ref g16, .ref g17, .int 0, .ref g19, .ref g20, .ref g21, .ref g22, .ref g23, .ref g24, .ref g25, .ref g26, .ref g27, .ref g28, .int 0, .int 0, .int 0, .int 0, .ref g33, .ref g34, .ref g35, .ref g36, .ref g37, .ref g38, .ref g39, .int 0, .ref g41, .ref g42, .int 0, .ref g44, .ref g45]))] H := hP
  have hD : va_D A [(g, .inr (8, [.int 0, .int 0, .ref g2, .ref g3, .ref g4, .ref g5, .ref g6, .ref g7, .ref g8, .ref g9, .ref g10, .int 0, .ref g12, .ref g13, .int 0, .ref g15, .ref g16, .ref g17, .int 0, .ref g19, .ref g20, .ref g21, .ref g22, .ref g23, .ref g24, .ref g25, .ref g26, .ref g27, .ref g28, .int 0, .int 0, .int 0, .int 0, .ref g33, .ref g34, .ref g35, .ref g36, .ref g37, .ref g38, .ref g39, .int 0, .ref g41, .ref g42, .int 0, .ref g44, .ref g45]))] := hD
  refine lv_if_eq (tgt := 21) hx hb dX8_isBoth_10 (by decide) (fun _ => ?_) (fun c3 => absurd (by decide) c3)
  refine lv_iconst (v := 0) hx hb dX8_isBoth_21 (by decide) ?_
  refine k_zret (u := [(g, .inr (8, [.int 0, .int 0, .ref g2, .ref g3, .ref g4, .ref g5, .ref g6, .ref g7, .ref g8, .ref g9, .ref g10, .int 0, .ref g12, .ref g13, .int 0, .ref g15, .ref g16, .ref g17, .int 0, .ref g19, .ref g20, .ref g21, .ref g22, .ref g23, .ref g24, .ref g25, .ref g26, .ref g27, .ref g28, .int 0, .int 0, .int 0, .int 0, .ref g33, .ref g34, .ref g35, .ref g36, .ref g37, .ref g38, .ref g39, .int 0, .ref g41, .ref g42, .int 0, .ref g44, .ref g45]))]) hx hb hr (by decide) hlk hP hD hS dX8_isBoth_22 ?_
  exact ⟨rfl, rfl⟩
theorem dX8_claims_0 : decode cX8_claims 0 = .ok (.aload_n 0, 1) := by decide +kernel
theorem dX8_claims_1 : decode cX8_claims 1 = .ok (.iconst 0, 1) := by decide +kernel
theorem dX8_claims_2 : decode cX8_claims 2 = .ok (.putfield 116, 3) := by decide +kernel
theorem dX8_claims_5 : decode cX8_claims 5 = .ok (.aload_n 0, 1) := by decide +kernel
theorem dX8_claims_6 : decode cX8_claims 6 = .ok (.iload_n 1, 1) := by decide +kernel
theorem dX8_claims_7 : decode cX8_claims 7 = .ok (.invokevirtual 252, 3) := by decide +kernel
theorem dX8_claims_10 : decode cX8_claims 10 = .ok (.ifCond .eq 9, 3) := by decide +kernel
theorem dX8_claims_19 : decode cX8_claims 19 = .ok (.iconst 0, 1) := by decide +kernel
theorem dX8_claims_20 : decode cX8_claims 20 = .ok (.ireturn, 1) := by decide +kernel
set_option maxRecDepth 20000 in
theorem ggX8_claims_X8_isLoss : GoodIn wsX8_claims wsX8_isLoss := goodIn_r _ [13, 14, 15, 16, 12, 17, 113, 114, 115, 116, 117, 118, 119, 120, 121, 122, 123, 124, 125, 126, 127, 128, 129, 130, 131, 132, 133, 134, 135, 136, 137, 138, 139, 140, 141, 142, 143, 144, 145, 146, 147, 148, 149, 150, 151, 152, 153, 154, 155, 156, 157, 158] (by decide +kernel) (by decide +kernel)
set_option maxRecDepth 20000 in
theorem gX8_claims_X8_isLoss : GoodIn wsX8_claims (wsV RX8 252 RX8 yX8_isLoss wsX8_isLoss) := goodIn_app (goodIn_of _ (by decide +kernel)) ggX8_claims_X8_isLoss
set_option maxHeartbeats 4000000 in
set_option maxRecDepth 100000 in
theorem f_X8_claims (l : Launch) (D : va_G) (cI cJ : ClassId) (sz : Nat) (g g2 g3 g4 g5 g6 g7 g8 g9 g10 g12 g13 g15 g16 g17 g19 g20 g21 g22 g23 g24 g25 g26 g27 g28 g33 g34 g35 g36 g37 g38 g39 g41 g42 g44 g45 : Nat) (n : Int32) (k : Int64) : Met l yX8_claims wsX8_claims { frames := 2, cells := 0, slots := 0, locals := 46 } (cPc D cI cJ [.ref g, .int n, .long k] sz [(g, .inr (8, [.int 0, .int 0, .ref g2, .ref g3, .ref g4, .ref g5, .ref g6, .ref g7, .ref g8, .ref g9, .ref g10, .int 0, .ref g12, .ref g13, .int 0, .ref g15, .ref g16, .ref g17, .int 0, .ref g19, .ref g20, .ref g21, .ref g22, .ref g23, .ref g24, .ref g25, .ref g26, .ref g27, .ref g28, .int 0, .int 0, .int 0, .int 0, .ref g33, .ref g34, .ref g35, .ref g36, .ref g37, .ref g38, .ref g39, .int 0, .ref g41, .ref g42, .int 0, .ref g44, .ref g45]))]) (cQi D (fun r u => r = 0 ∧ u = [(g, .inr (8, [.int 0, .int 0, .ref g2, .ref g3, .ref g4, .ref g5, .ref g6, .ref g7, .ref g8, .ref g9, .ref g10, .int 0, .ref g12, .ref g13, .int 0, .ref g15, .ref g16, .ref g17, .int 0, .ref g19, .ref g20, .ref g21, .ref g22, .ref g23, .ref g24, .ref g25, .ref g26, .ref g27, .ref g28, .int 0, .int 0, .int 0, .int 0, .ref g33, .ref g34, .ref g35, .ref g36, .ref g37, .ref g38, .ref g39, .int 0, .ref g41, .ref g42, .int 0, .ref g44, .ref g45]))]) (va_A [(g, .inr (8, [.int 0, .int 0, .ref g2, .ref g3, .ref g4, .ref g5, .ref g6, .ref g7, .ref g8, .ref g9, .ref g10, .int 0, .ref g12, .ref g13, .int 0, .ref g15, .ref g16, .ref g17, .int 0, .ref g19, .ref g20, .ref g21, .ref g22, .ref g23, .ref g24, .ref g25, .ref g26, .ref g27, .ref g28, .int 0, .int 0, .int 0, .int 0, .ref g33, .ref g34, .ref g35, .ref g36, .ref g37, .ref g38, .ref g39, .int 0, .ref g41, .ref g42, .int 0, .ref g44, .ref g45]))] sz)) 0 0 (va_A [(g, .inr (8, [.int 0, .int 0, .ref g2, .ref g3, .ref g4, .ref g5, .ref g6, .ref g7, .ref g8, .ref g9, .ref g10, .int 0, .ref g12, .ref g13, .int 0, .ref g15, .ref g16, .ref g17, .int 0, .ref g19, .ref g20, .ref g21, .ref g22, .ref g23, .ref g24, .ref g25, .ref g26, .ref g27, .ref g28, .int 0, .int 0, .int 0, .int 0, .ref g33, .ref g34, .ref g35, .ref g36, .ref g37, .ref g38, .ref g39, .int 0, .ref g41, .ref g42, .int 0, .ref g44, .ref g45]))] sz) := by
  refine k_ofW (Qc := cQi D (fun r u => r = 0 ∧ u = [(g, .inr (8, [.int 0, .int 0, .ref g2, .ref g3, .ref g4, .ref g5, .ref g6, .ref g7, .ref g8, .ref g9, .ref g10, .int 0, .ref g12, .ref g13, .int 0, .ref g15, .ref g16, .ref g17, .int 0, .ref g19, .ref g20, .ref g21, .ref g22, .ref g23, .ref g24, .ref g25, .ref g26, .ref g27, .ref g28, .int 0, .int 0, .int 0, .int 0, .ref g33, .ref g34, .ref g35, .ref g36, .ref g37, .ref g38, .ref g39, .int 0, .ref g41, .ref g42, .int 0, .ref g44, .ref g45]))])) (by decide) rfl (Nat.le_of_ble_eq_true rfl) ?_
  intro p e s m below meth c A ls hx hb hr hml hts hown hlk hnm hsz hE hP hD hS hA hl
  have hown : s.vm.findClass RX8 = some m.cls := hown
  have hiX8 : ∀ w ∈ u_ws RX8 TX8 46, w ∈ wsX8_claims := fun w h => List.mem_cons_of_mem _ (List.mem_append_right _ h)
  have hl : lv_has ls 8 [(0, .ref g), (1, .int n), (2, .long k)] := hl
  refine lv_aload_n hx hb dX8_claims_0 rfl (lv_at hl 0 rfl) ?_
  refine lv_iconst (v := 0) hx hb dX8_claims_1 (by decide) ?_
  refine va_put (D := D) (ci := 8) (v := .int 0) (ty := .int) (C := RX8) (T := TX8) (N := 46) hx hb hts hiX8 tyX8 tyX8_ok nmX8 hown hE.1 hP hD hS 0 rfl rfl 0 (by decide) (hts _ (List.mem_of_getElem? (i := 1) rfl)) (fun _ h9 => h9) rfl (by decide +kernel) rfl rfl (Nat.le_of_ble_eq_true rfl) dX8_claims_2 (fun H locs hP hD hS => ?_)
  have hP : va_P D vwCl [(g, .inr (8, [.int 0, .int 0, .ref g2, .ref g3, .ref g4, .ref g5, .ref g6, .ref g7, .ref g8, .ref g9, .ref g10, .int 0, .ref g12, .ref g13, .int 0, .ref g15, .ref g16, .ref g17, .int 0, .ref g19, .ref g20, .ref g21, .ref g22, .ref g23, .ref g24, .ref g25, .ref g26, .ref g27, .ref g28, .int 0, .int 0, .int 0, .int 0, .ref g33, .ref g34, .ref g35, .ref g36, .ref g37, .ref g38, .ref g39, .int 0, .ref g41, .ref g42, .int 0, .ref g44, .ref g45]))] H := hP
  have hD : va_D A [(g, .inr (8, [.int 0, .int 0, .ref g2, .ref g3, .ref g4, .ref g5, .ref g6, .ref g7, .ref g8, .ref g9, .ref g10, .int 0, .ref g12, .ref g13, .int 0, .ref g15, .ref g16, .ref g17, .int 0, .ref g19, .ref g20, .ref g21, .ref g22, .ref g23, .ref g24, .ref g25, .ref g26, .ref g27, .ref g28, .int 0, .int 0, .int 0, .int 0, .ref g33, .ref g34, .ref g35, .ref g36, .ref g37, .ref g38, .ref g39, .int 0, .ref g41, .ref g42, .int 0, .ref g44, .ref g45]))] := hD
  refine lv_aload_n hx hb dX8_claims_5 rfl (lv_at hl 0 rfl) ?_
  refine lv_iload_n hx hb dX8_claims_6 rfl (lv_at hl 1 rfl) ?_
  refine k_i (va_runV (As := [.int n]) (rest := []) ⟨hx, hb, hml, hown, hts⟩ (f_X8_isLoss l D cI cJ H.size g g2 g3 g4 g5 g6 g7 g8 g9 g10 g12 g13 g15 g16 g17 g19 g20 g21 g22 g23 g24 g25 g26 g27 g28 g33 g34 g35 g36 g37 g38 g39 g41 g42 g44 g45 n) (cwV 1 hts gX8_claims_X8_isLoss rfl rfl rfl (by decide +kernel) ⟨Nat.le_of_ble_eq_true rfl, Nat.le_of_ble_eq_true rfl⟩) (k_preV hE hP hD [0] (by decide) rfl 0 rfl rfl) rfl rfl hl.1 rfl (lv_room (Nat.le_of_ble_eq_true rfl)) dX8_claims_7 ⟨Nat.le_of_ble_eq_true rfl, Nat.le_of_ble_eq_true rfl⟩) hP hD hS hA [0] [] rfl (wr := []) rfl (by decide) (by decide) (fun r1 u H locs hw2 hP hD hS => ?_)
  obtain ⟨rfl, rfl⟩ := hw2
  have hP : va_P D vwCl [(g, .inr (8, [.int 0, .int 0, .ref g2, .ref g3, .ref g4, .ref g5, .ref g6, .ref g7, .ref g8, .ref g9, .ref g10, .int 0, .ref g12, .ref g13, .int 0, .ref g15, .ref g16, .ref g17, .int 0, .ref g19, .ref g20, .ref g21, .ref g22, .ref g23, .ref g24, .ref g25, .ref g26, .ref g27, .ref g28, .int 0, .int 0, .int 0, .int 0, .ref g33, .ref g34, .ref g35, .ref g36, .ref g37, .ref g38, .ref g39, .int 0, .ref g41, .ref g42, .int 0, .ref g44, .ref g45]))] H := hP
  have hD : va_D A [(g, .inr (8, [.int 0, .int 0, .ref g2, .ref g3, .ref g4, .ref g5, .ref g6, .ref g7, .ref g8, .ref g9, .ref g10, .int 0, .ref g12, .ref g13, .int 0, .ref g15, .ref g16, .ref g17, .int 0, .ref g19, .ref g20, .ref g21, .ref g22, .ref g23, .ref g24, .ref g25, .ref g26, .ref g27, .ref g28, .int 0, .int 0, .int 0, .int 0, .ref g33, .ref g34, .ref g35, .ref g36, .ref g37, .ref g38, .ref g39, .int 0, .ref g41, .ref g42, .int 0, .ref g44, .ref g45]))] := hD
  refine lv_if_eq (tgt := 19) hx hb dX8_claims_10 (by decide) (fun _ => ?_) (fun c3 => absurd (by decide) c3)
  refine lv_iconst (v := 0) hx hb dX8_claims_19 (by decide) ?_
  refine k_zret (u := [(g, .inr (8, [.int 0, .int 0, .ref g2, .ref g3, .ref g4, .ref g5, .ref g6, .ref g7, .ref g8, .ref g9, .ref g10, .int 0, .ref g12, .ref g13, .int 0, .ref g15, .ref g16, .ref g17, .int 0, .ref g19, .ref g20, .ref g21, .ref g22, .ref g23, .ref g24, .ref g25, .ref g26, .ref g27, .ref g28, .int 0, .int 0, .int 0, .int 0, .ref g33, .ref g34, .ref g35, .ref g36, .ref g37, .ref g38, .ref g39, .int 0, .ref g41, .ref g42, .int 0, .ref g44, .ref g45]))]) hx hb hr (by decide) hlk hP hD hS dX8_claims_20 ?_
  exact ⟨rfl, rfl⟩
theorem dX8_settled_0 : decode cX8_settled 0 = .ok (.aload_n 0, 1) := by decide +kernel
theorem dX8_settled_1 : decode cX8_settled 1 = .ok (.iconst 0, 1) := by decide +kernel
theorem dX8_settled_2 : decode cX8_settled 2 = .ok (.putfield 116, 3) := by decide +kernel
theorem dX8_settled_5 : decode cX8_settled 5 = .ok (.aload_n 0, 1) := by decide +kernel
theorem dX8_settled_6 : decode cX8_settled 6 = .ok (.iload_n 1, 1) := by decide +kernel
theorem dX8_settled_7 : decode cX8_settled 7 = .ok (.invokevirtual 252, 3) := by decide +kernel
theorem dX8_settled_10 : decode cX8_settled 10 = .ok (.ifCond .ne 5, 3) := by decide +kernel
theorem dX8_settled_13 : decode cX8_settled 13 = .ok (.iconst (-1), 1) := by decide +kernel
theorem dX8_settled_14 : decode cX8_settled 14 = .ok (.ireturn, 1) := by decide +kernel
set_option maxRecDepth 20000 in
theorem ggX8_settled_X8_isLoss : GoodIn wsX8_settled wsX8_isLoss := goodIn_r _ [12, 13, 14, 15, 11, 16, 121, 122, 123, 124, 125, 126, 127, 128, 129, 130, 131, 132, 133, 134, 135, 136, 137, 138, 139, 140, 141, 142, 143, 144, 145, 146, 147, 148, 149, 150, 151, 152, 153, 154, 155, 156, 157, 158, 159, 160, 161, 162, 163, 164, 165, 166] (by decide +kernel) (by decide +kernel)
set_option maxRecDepth 20000 in
theorem gX8_settled_X8_isLoss : GoodIn wsX8_settled (wsV RX8 252 RX8 yX8_isLoss wsX8_isLoss) := goodIn_app (goodIn_of _ (by decide +kernel)) ggX8_settled_X8_isLoss
set_option maxHeartbeats 4000000 in
set_option maxRecDepth 100000 in
theorem f_X8_settled (l : Launch) (D : va_G) (cI cJ : ClassId) (sz : Nat) (g g2 g3 g4 g5 g6 g7 g8 g9 g10 g12 g13 g15 g16 g17 g19 g20 g21 g22 g23 g24 g25 g26 g27 g28 g33 g34 g35 g36 g37 g38 g39 g41 g42 g44 g45 : Nat) (p0 p1 : Int32) : Met l yX8_settled wsX8_settled { frames := 2, cells := 0, slots := 0, locals := 46 } (cPc D cI cJ [.ref g, .int p0, .int p1] sz [(g, .inr (8, [.int 0, .int 0, .ref g2, .ref g3, .ref g4, .ref g5, .ref g6, .ref g7, .ref g8, .ref g9, .ref g10, .int 0, .ref g12, .ref g13, .int 0, .ref g15, .ref g16, .ref g17, .int 0, .ref g19, .ref g20, .ref g21, .ref g22, .ref g23, .ref g24, .ref g25, .ref g26, .ref g27, .ref g28, .int 0, .int 0, .int 0, .int 0, .ref g33, .ref g34, .ref g35, .ref g36, .ref g37, .ref g38, .ref g39, .int 0, .ref g41, .ref g42, .int 0, .ref g44, .ref g45]))]) (cQi D (fun r u => r = -1 ∧ u = []) (va_A [(g, .inr (8, [.int 0, .int 0, .ref g2, .ref g3, .ref g4, .ref g5, .ref g6, .ref g7, .ref g8, .ref g9, .ref g10, .int 0, .ref g12, .ref g13, .int 0, .ref g15, .ref g16, .ref g17, .int 0, .ref g19, .ref g20, .ref g21, .ref g22, .ref g23, .ref g24, .ref g25, .ref g26, .ref g27, .ref g28, .int 0, .int 0, .int 0, .int 0, .ref g33, .ref g34, .ref g35, .ref g36, .ref g37, .ref g38, .ref g39, .int 0, .ref g41, .ref g42, .int 0, .ref g44, .ref g45]))] sz)) 0 0 (va_A [(g, .inr (8, [.int 0, .int 0, .ref g2, .ref g3, .ref g4, .ref g5, .ref g6, .ref g7, .ref g8, .ref g9, .ref g10, .int 0, .ref g12, .ref g13, .int 0, .ref g15, .ref g16, .ref g17, .int 0, .ref g19, .ref g20, .ref g21, .ref g22, .ref g23, .ref g24, .ref g25, .ref g26, .ref g27, .ref g28, .int 0, .int 0, .int 0, .int 0, .ref g33, .ref g34, .ref g35, .ref g36, .ref g37, .ref g38, .ref g39, .int 0, .ref g41, .ref g42, .int 0, .ref g44, .ref g45]))] sz) := by
  refine k_ofW (Qc := cQi D (fun r u => r = -1 ∧ u = [])) (by decide) rfl (Nat.le_of_ble_eq_true rfl) ?_
  intro p e s m below meth c A ls hx hb hr hml hts hown hlk hnm hsz hE hP hD hS hA hl
  have hown : s.vm.findClass RX8 = some m.cls := hown
  have hiX8 : ∀ w ∈ u_ws RX8 TX8 46, w ∈ wsX8_settled := fun w h => List.mem_cons_of_mem _ (List.mem_append_right _ h)
  have hl : lv_has ls 3 [(0, .ref g), (1, .int p0), (2, .int p1)] := hl
  refine lv_aload_n hx hb dX8_settled_0 rfl (lv_at hl 0 rfl) ?_
  refine lv_iconst (v := 0) hx hb dX8_settled_1 (by decide) ?_
  refine va_put (D := D) (ci := 8) (v := .int 0) (ty := .int) (C := RX8) (T := TX8) (N := 46) hx hb hts hiX8 tyX8 tyX8_ok nmX8 hown hE.1 hP hD hS 0 rfl rfl 0 (by decide) (hts _ (List.mem_of_getElem? (i := 1) rfl)) (fun _ h9 => h9) rfl (by decide +kernel) rfl rfl (Nat.le_of_ble_eq_true rfl) dX8_settled_2 (fun H locs hP hD hS => ?_)
  have hP : va_P D vwCl [(g, .inr (8, [.int 0, .int 0, .ref g2, .ref g3, .ref g4, .ref g5, .ref g6, .ref g7, .ref g8, .ref g9, .ref g10, .int 0, .ref g12, .ref g13, .int 0, .ref g15, .ref g16, .ref g17, .int 0, .ref g19, .ref g20, .ref g21, .ref g22, .ref g23, .ref g24, .ref g25, .ref g26, .ref g27, .ref g28, .int 0, .int 0, .int 0, .int 0, .ref g33, .ref g34, .ref g35, .ref g36, .ref g37, .ref g38, .ref g39, .int 0, .ref g41, .ref g42, .int 0, .ref g44, .ref g45]))] H := hP
  have hD : va_D A [(g, .inr (8, [.int 0, .int 0, .ref g2, .ref g3, .ref g4, .ref g5, .ref g6, .ref g7, .ref g8, .ref g9, .ref g10, .int 0, .ref g12, .ref g13, .int 0, .ref g15, .ref g16, .ref g17, .int 0, .ref g19, .ref g20, .ref g21, .ref g22, .ref g23, .ref g24, .ref g25, .ref g26, .ref g27, .ref g28, .int 0, .int 0, .int 0, .int 0, .ref g33, .ref g34, .ref g35, .ref g36, .ref g37, .ref g38, .ref g39, .int 0, .ref g41, .ref g42, .int 0, .ref g44, .ref g45]))] := hD
  refine lv_aload_n hx hb dX8_settled_5 rfl (lv_at hl 0 rfl) ?_
  refine lv_iload_n hx hb dX8_settled_6 rfl (lv_at hl 1 rfl) ?_
  refine k_i (va_runV (As := [.int p0]) (rest := []) ⟨hx, hb, hml, hown, hts⟩ (f_X8_isLoss l D cI cJ H.size g g2 g3 g4 g5 g6 g7 g8 g9 g10 g12 g13 g15 g16 g17 g19 g20 g21 g22 g23 g24 g25 g26 g27 g28 g33 g34 g35 g36 g37 g38 g39 g41 g42 g44 g45 p0) (cwV 1 hts gX8_settled_X8_isLoss rfl rfl rfl (by decide +kernel) ⟨Nat.le_of_ble_eq_true rfl, Nat.le_of_ble_eq_true rfl⟩) (k_preV hE hP hD [0] (by decide) rfl 0 rfl rfl) rfl rfl hl.1 rfl (lv_room (Nat.le_of_ble_eq_true rfl)) dX8_settled_7 ⟨Nat.le_of_ble_eq_true rfl, Nat.le_of_ble_eq_true rfl⟩) hP hD hS hA [0] [] rfl (wr := []) rfl (by decide) (by decide) (fun r1 u H locs hw2 hP hD hS => ?_)
  obtain ⟨rfl, rfl⟩ := hw2
  have hP : va_P D vwCl [(g, .inr (8, [.int 0, .int 0, .ref g2, .ref g3, .ref g4, .ref g5, .ref g6, .ref g7, .ref g8, .ref g9, .ref g10, .int 0, .ref g12, .ref g13, .int 0, .ref g15, .ref g16, .ref g17, .int 0, .ref g19, .ref g20, .ref g21, .ref g22, .ref g23, .ref g24, .ref g25, .ref g26, .ref g27, .ref g28, .int 0, .int 0, .int 0, .int 0, .ref g33, .ref g34, .ref g35, .ref g36, .ref g37, .ref g38, .ref g39, .int 0, .ref g41, .ref g42, .int 0, .ref g44, .ref g45]))] H := hP
  have hD : va_D A [(g, .inr (8, [.int 0, .int 0, .ref g2, .ref g3, .ref g4, .ref g5, .ref g6, .ref g7, .ref g8, .ref g9, .ref g10, .int 0, .ref g12, .ref g13, .int 0, .ref g15, .ref g16, .ref g17, .int 0, .ref g19, .ref g20, .ref g21, .ref g22, .ref g23, .ref g24, .ref g25, .ref g26, .ref g27, .ref g28, .int 0, .int 0, .int 0, .int 0, .ref g33, .ref g34, .ref g35, .ref g36, .ref g37, .ref g38, .ref g39, .int 0, .ref g41, .ref g42, .int 0, .ref g44, .ref g45]))] := hD
  refine lv_if_ne (tgt := 15) hx hb dX8_settled_10 (by decide) (fun c3 => absurd rfl c3) (fun _ => ?_)
  refine lv_iconst (v := (-1)) hx hb dX8_settled_13 (by decide) ?_
  refine k_iret (u := []) hx hb hr hlk (k_sub hP [] rfl) (hD.sub [] (by decide) rfl) hS dX8_settled_14 ?_
  exact ⟨rfl, rfl⟩
theorem dX8_part_0 : decode cX8_part 0 = .ok (.aload_n 0, 1) := by decide +kernel
theorem dX8_part_1 : decode cX8_part 1 = .ok (.iload_n 1, 1) := by decide +kernel
theorem dX8_part_2 : decode cX8_part 2 = .ok (.iload_n 2, 1) := by decide +kernel
theorem dX8_part_3 : decode cX8_part 3 = .ok (.invokevirtual 264, 3) := by decide +kernel
theorem dX8_part_6 : decode cX8_part 6 = .ok (.ifCond .eq 10, 3) := by decide +kernel
theorem dX8_part_16 : decode cX8_part 16 = .ok (.iconst (-1), 1) := by decide +kernel
theorem dX8_part_17 : decode cX8_part 17 = .ok (.ireturn, 1) := by decide +kernel
set_option maxRecDepth 20000 in
theorem ggX8_part_X8_isBoth : GoodIn wsX8_part wsX8_isBoth := goodIn_r _ [7, 8, 9, 10, 11, 6, 12, 13, 14, 15, 16, 17, 18, 19, 20, 21, 22, 23, 24, 25, 26, 27, 28, 29, 30, 31, 32, 33, 34, 35, 36, 1, 37, 38, 39, 40, 41, 42, 2, 43, 44, 45, 46, 47, 48, 49, 50, 51, 52, 53, 54, 55, 56, 57, 58, 59, 60, 61, 62, 63, 64, 65, 66, 67, 68, 69, 70, 71, 72, 73, 74, 75, 76, 77, 78, 79, 80, 81, 82, 83, 84, 85, 86, 87, 88, 89, 90, 91, 92, 93, 94, 95, 96, 97, 98, 99, 100, 101, 102, 103, 104, 105, 106, 107, 108, 109, 110, 111, 112, 113, 126, 127, 128, 129, 130, 131, 132, 133, 134, 135, 136, 137, 138, 139, 140, 141, 142, 143, 144, 145, 146, 147, 148, 149, 150, 151, 152, 153, 154, 155, 156, 157, 158, 159, 160, 161, 162, 163, 164, 165, 166, 167, 168, 169, 170, 171] (by decide +kernel) (by decide +kernel)
set_option maxRecDepth 20000 in
theorem gX8_part_X8_isBoth : GoodIn wsX8_part (wsV RX8 264 RX8 yX8_isBoth wsX8_isBoth) := goodIn_app (goodIn_of _ (by decide +kernel)) ggX8_part_X8_isBoth
set_option maxHeartbeats 4000000 in
set_option maxRecDepth 100000 in
theorem f_X8_part (l : Launch) (D : va_G) (cI cJ : ClassId) (sz : Nat) (g g2 g3 g4 g5 g6 g7 g8 g9 g10 g12 g13 g15 g16 g17 g19 g20 g21 g22 g23 g24 g25 g26 g27 g28 g33 g34 g35 g36 g37 g38 g39 g41 g42 g44 g45 : Nat) (p0 p1 : Int32) : Met l yX8_part wsX8_part { frames := 3, cells := 0, slots := 0, locals := 68 } (cPc D cI cJ [.ref g, .int p0, .int p1] sz [(g, .inr (8, [.int 0, .int 0, .ref g2, .ref g3, .ref g4, .ref g5, .ref g6, .ref g7, .ref g8, .ref g9, .ref g10, .int 0, .ref g12, .ref g13, .int 0, .ref g15, .ref g16, .ref g17, .int 0, .ref g19, .ref g20, .ref g21, .ref g22, .ref g23, .ref g24, .ref g25, .ref g26, .ref g27, .ref g28, .int 0, .int 0, .int 0, .int 0, .ref g33, .ref g34, .ref g35, .ref g36, .ref g37, .ref g38, .ref g39, .int 0, .ref g41, .ref g42, .int 0, .ref g44, .ref g45]))]) (cQi D (fun r u => r = -1 ∧ u = []) (va_A [(g, .inr (8, [.int 0, .int 0, .ref g2, .ref g3, .ref g4, .ref g5, .ref g6, .ref g7, .ref g8, .ref g9, .ref g10, .int 0, .ref g12, .ref g13, .int 0, .ref g15, .ref g16, .ref g17, .int 0, .ref g19, .ref g20, .ref g21, .ref g22, .ref g23, .ref g24, .ref g25, .ref g26, .ref g27, .ref g28, .int 0, .int 0, .int 0, .int 0, .ref g33, .ref g34, .ref g35, .ref g36, .ref g37, .ref g38, .ref g39, .int 0, .ref g41, .ref g42, .int 0, .ref g44, .ref g45]))] sz)) 0 0 (va_A [(g, .inr (8, [.int 0, .int 0, .ref g2, .ref g3, .ref g4, .ref g5, .ref g6, .ref g7, .ref g8, .ref g9, .ref g10, .int 0, .ref g12, .ref g13, .int 0, .ref g15, .ref g16, .ref g17, .int 0, .ref g19, .ref g20, .ref g21, .ref g22, .ref g23, .ref g24, .ref g25, .ref g26, .ref g27, .ref g28, .int 0, .int 0, .int 0, .int 0, .ref g33, .ref g34, .ref g35, .ref g36, .ref g37, .ref g38, .ref g39, .int 0, .ref g41, .ref g42, .int 0, .ref g44, .ref g45]))] sz) := by
  refine k_ofW (Qc := cQi D (fun r u => r = -1 ∧ u = [])) (by decide) rfl (Nat.le_of_ble_eq_true rfl) ?_
  intro p e s m below meth c A ls hx hb hr hml hts hown hlk hnm hsz hE hP hD hS hA hl
  have hown : s.vm.findClass RX8 = some m.cls := hown
  have hl : lv_has ls 3 [(0, .ref g), (1, .int p0), (2, .int p1)] := hl
  refine lv_aload_n hx hb dX8_part_0 rfl (lv_at hl 0 rfl) ?_
  refine lv_iload_n hx hb dX8_part_1 rfl (lv_at hl 1 rfl) ?_
  refine lv_iload_n hx hb dX8_part_2 rfl (lv_at hl 2 rfl) ?_
  refine k_i (va_runV (As := [.int p0, .int p1]) (rest := []) ⟨hx, hb, hml, hown, hts⟩ (f_X8_isBoth l D cI cJ (s.heap).size g g2 g3 g4 g5 g6 g7 g8 g9 g10 g12 g13 g15 g16 g17 g19 g20 g21 g22 g23 g24 g25 g26 g27 g28 g33 g34 g35 g36 g37 g38 g39 g41 g42 g44 g45 p0 p1) (cwV 2 hts gX8_part_X8_isBoth rfl rfl rfl (by decide +kernel) ⟨Nat.le_of_ble_eq_true rfl, Nat.le_of_ble_eq_true rfl⟩) (k_preV hE hP hD [0] (by decide) rfl 0 rfl rfl) rfl rfl hl.1 rfl (lv_room (Nat.le_of_ble_eq_true rfl)) dX8_part_3 ⟨Nat.le_of_ble_eq_true rfl, Nat.le_of_ble_eq_true rfl⟩) hP hD hS hA [0] [] rfl (wr := []) rfl (by decide) (by decide) (fun r1 u H locs hw2 hP hD hS => ?_)
  obtain ⟨rfl, rfl⟩ := hw2
  have hP : va_P D vwCl [(g, .inr (8, [.int 0, .int 0, .ref g2, .ref g3, .ref g4, .ref g5, .ref g6, .ref g7, .ref g8, .ref g9, .ref g10, .int 0, .ref g12, .ref g13, .int 0, .ref g15, .ref g16, .ref g17, .int 0, .ref g19, .ref g20, .ref g21, .ref g22, .ref g23, .ref g24, .ref g25, .ref g26, .ref g27, .ref g28, .int 0, .int 0, .int 0, .int 0, .ref g33, .ref g34, .ref g35, .ref g36, .ref g37, .ref g38, .ref g39, .int 0, .ref g41, .ref g42, .int 0, .ref g44, .ref g45]))] H := hP
  have hD : va_D A [(g, .inr (8, [.int 0, .int 0, .ref g2, .ref g3, .ref g4, .ref g5, .ref g6, .ref g7, .ref g8, .ref g9, .ref g10, .int 0, .ref g12, .ref g13, .int 0, .ref g15, .ref g16, .ref g17, .int 0, .ref g19, .ref g20, .ref g21, .ref g22, .ref g23, .ref g24, .ref g25, .ref g26, .ref g27, .ref g28, .int 0, .int 0, .int 0, .int 0, .ref g33, .ref g34, .ref g35, .ref g36, .ref g37, .ref g38, .ref g39, .int 0, .ref g41, .ref g42, .int 0, .ref g44, .ref g45]))] := hD
  refine lv_if_eq (tgt := 16) hx hb dX8_part_6 (by decide) (fun _ => ?_) (fun c3 => absurd (by decide) c3)
  refine lv_iconst (v := (-1)) hx hb dX8_part_16 (by decide) ?_
  refine k_iret (u := []) hx hb hr hlk (k_sub hP [] rfl) (hD.sub [] (by decide) rfl) hS dX8_part_17 ?_
  exact ⟨rfl, rfl⟩
theorem dX8_strain_0 : decode cX8_strain 0 = .ok (.aload_n 0, 1) := by decide +kernel
theorem dX8_strain_1 : decode cX8_strain 1 = .ok (.iload_n 1, 1) := by decide +kernel
theorem dX8_strain_2 : decode cX8_strain 2 = .ok (.iload_n 2, 1) := by decide +kernel
theorem dX8_strain_3 : decode cX8_strain 3 = .ok (.invokevirtual 264, 3) := by decide +kernel
theorem dX8_strain_6 : decode cX8_strain 6 = .ok (.ifCond .ne 7, 3) := by decide +kernel
theorem dX8_strain_9 : decode cX8_strain 9 = .ok (.ldc2_w 149, 3) := by decide +kernel
theorem dX8_strain_12 : decode cX8_strain 12 = .ok (.lreturn, 1) := by decide +kernel
set_option maxRecDepth 20000 in
theorem ggX8_strain_X8_isBoth : GoodIn wsX8_strain wsX8_isBoth := goodIn_r _ [8, 9, 10, 11, 12, 7, 13, 14, 15, 16, 17, 18, 19, 20, 21, 22, 23, 24, 25, 26, 27, 28, 29, 30, 31, 32, 33, 34, 35, 36, 37, 38, 39, 40, 41, 42, 43, 44, 2, 45, 46, 47, 48, 49, 50, 51, 52, 53, 54, 55, 56, 57, 58, 3, 59, 60, 61, 62, 63, 64, 65, 66, 67, 68, 69, 70, 71, 72, 73, 74, 75, 76, 77, 78, 79, 80, 81, 82, 83, 84, 85, 86, 87, 88, 89, 90, 91, 92, 93, 94, 95, 96, 97, 98, 99, 100, 101, 1, 102, 103, 104, 105, 106, 107, 108, 109, 110, 111, 112, 113, 126, 127, 128, 129, 130, 131, 132, 133, 134, 135, 136, 137, 138, 139, 140, 141, 142, 143, 144, 145, 146, 147, 148, 149, 150, 151, 152, 153, 154, 155, 156, 157, 158, 159, 160, 161, 162, 163, 164, 165, 166, 167, 168, 169, 170, 171] (by decide +kernel) (by decide +kernel)
set_option maxRecDepth 20000 in
theorem gX8_strain_X8_isBoth : GoodIn wsX8_strain (wsV RX8 264 RX8 yX8_isBoth wsX8_isBoth) := goodIn_app (goodIn_of _ (by decide +kernel)) ggX8_strain_X8_isBoth
set_option maxHeartbeats 4000000 in
set_option maxRecDepth 100000 in
theorem f_X8_strain (l : Launch) (D : va_G) (cI cJ : ClassId) (sz : Nat) (g g2 g3 g4 g5 g6 g7 g8 g9 g10 g12 g13 g15 g16 g17 g19 g20 g21 g22 g23 g24 g25 g26 g27 g28 g33 g34 g35 g36 g37 g38 g39 g41 g42 g44 g45 : Nat) (p0 p1 : Int32) : Met l yX8_strain wsX8_strain { frames := 3, cells := 0, slots := 0, locals := 68 } (cPc D cI cJ [.ref g, .int p0, .int p1] sz [(g, .inr (8, [.int 0, .int 0, .ref g2, .ref g3, .ref g4, .ref g5, .ref g6, .ref g7, .ref g8, .ref g9, .ref g10, .int 0, .ref g12, .ref g13, .int 0, .ref g15, .ref g16, .ref g17, .int 0, .ref g19, .ref g20, .ref g21, .ref g22, .ref g23, .ref g24, .ref g25, .ref g26, .ref g27, .ref g28, .int 0, .int 0, .int 0, .int 0, .ref g33, .ref g34, .ref g35, .ref g36, .ref g37, .ref g38, .ref g39, .int 0, .ref g41, .ref g42, .int 0, .ref g44, .ref g45]))]) (cQl D (fun r u => r = -1 ∧ u = []) (va_A [(g, .inr (8, [.int 0, .int 0, .ref g2, .ref g3, .ref g4, .ref g5, .ref g6, .ref g7, .ref g8, .ref g9, .ref g10, .int 0, .ref g12, .ref g13, .int 0, .ref g15, .ref g16, .ref g17, .int 0, .ref g19, .ref g20, .ref g21, .ref g22, .ref g23, .ref g24, .ref g25, .ref g26, .ref g27, .ref g28, .int 0, .int 0, .int 0, .int 0, .ref g33, .ref g34, .ref g35, .ref g36, .ref g37, .ref g38, .ref g39, .int 0, .ref g41, .ref g42, .int 0, .ref g44, .ref g45]))] sz)) 0 0 (va_A [(g, .inr (8, [.int 0, .int 0, .ref g2, .ref g3, .ref g4, .ref g5, .ref g6, .ref g7, .ref g8, .ref g9, .ref g10, .int 0, .ref g12, .ref g13, .int 0, .ref g15, .ref g16, .ref g17, .int 0, .ref g19, .ref g20, .ref g21, .ref g22, .ref g23, .ref g24, .ref g25, .ref g26, .ref g27, .ref g28, .int 0, .int 0, .int 0, .int 0, .ref g33, .ref g34, .ref g35, .ref g36, .ref g37, .ref g38, .ref g39, .int 0, .ref g41, .ref g42, .int 0, .ref g44, .ref g45]))] sz) := by
  refine k_ofW (Qc := cQl D (fun r u => r = -1 ∧ u = [])) (by decide) rfl (Nat.le_of_ble_eq_true rfl) ?_
  intro p e s m below meth c A ls hx hb hr hml hts hown hlk hnm hsz hE hP hD hS hA hl
  have hown : s.vm.findClass RX8 = some m.cls := hown
  have hl : lv_has ls 3 [(0, .ref g), (1, .int p0), (2, .int p1)] := hl
  refine lv_aload_n hx hb dX8_strain_0 rfl (lv_at hl 0 rfl) ?_
  refine lv_iload_n hx hb dX8_strain_1 rfl (lv_at hl 1 rfl) ?_
  refine lv_iload_n hx hb dX8_strain_2 rfl (lv_at hl 2 rfl) ?_
  refine k_i (va_runV (As := [.int p0, .int p1]) (rest := []) ⟨hx, hb, hml, hown, hts⟩ (f_X8_isBoth l D cI cJ (s.heap).size g g2 g3 g4 g5 g6 g7 g8 g9 g10 g12 g13 g15 g16 g17 g19 g20 g21 g22 g23 g24 g25 g26 g27 g28 g33 g34 g35 g36 g37 g38 g39 g41 g42 g44 g45 p0 p1) (cwV 2 hts gX8_strain_X8_isBoth rfl rfl rfl (by decide +kernel) ⟨Nat.le_of_ble_eq_true rfl, Nat.le_of_ble_eq_true rfl⟩) (k_preV hE hP hD [0] (by decide) rfl 0 rfl rfl) rfl rfl hl.1 rfl (lv_room (Nat.le_of_ble_eq_true rfl)) dX8_strain_3 ⟨Nat.le_of_ble_eq_true rfl, Nat.le_of_ble_eq_true rfl⟩) hP hD hS hA [0] [] rfl (wr := []) rfl (by decide) (by decide) (fun r1 u H locs hw2 hP hD hS => ?_)
  obtain ⟨rfl, rfl⟩ := hw2
  have hP : va_P D vwCl [(g, .inr (8, [.int 0, .int 0, .ref g2, .ref g3, .ref g4, .ref g5, .ref g6, .ref g7, .ref g8, .ref g9, .ref g10, .int 0, .ref g12, .ref g13, .int 0, .ref g15, .ref g16, .ref g17, .int 0, .ref g19, .ref g20, .ref g21, .ref g22, .ref g23, .ref g24, .ref g25, .ref g26, .ref g27, .ref g28, .int 0, .int 0, .int 0, .int 0, .ref g33, .ref g34, .ref g35, .ref g36, .ref g37, .ref g38, .ref g39, .int 0, .ref g41, .ref g42, .int 0, .ref g44, .ref g45]))] H := hP
  have hD : va_D A [(g, .inr (8, [.int 0, .int 0, .ref g2, .ref g3, .ref g4, .ref g5, .ref g6, .ref g7, .ref g8, .ref g9, .ref g10, .int 0, .ref g12, .ref g13, .int 0, .ref g15, .ref g16, .ref g17, .int 0, .ref g19, .ref g20, .ref g21, .ref g22, .ref g23, .ref g24, .ref g25, .ref g26, .ref g27, .ref g28, .int 0, .int 0, .int 0, .int 0, .ref g33, .ref g34, .ref g35, .ref g36, .ref g37, .ref g38, .ref g39, .int 0, .ref g41, .ref g42, .int 0, .ref g44, .ref g45]))] := hD
  refine lv_if_ne (tgt := 13) hx hb dX8_strain_6 (by decide) (fun c3 => absurd rfl c3) (fun _ => ?_)
  refine lv_ldc2 (v := (-1)) hx hb hown (hts _ (List.mem_of_getElem? (i := 1) rfl)) dX8_strain_9 ?_
  refine k_lret (u := []) hx hb hr hlk (k_sub hP [] rfl) (hD.sub [] (by decide) rfl) hS dX8_strain_12 ?_
  exact ⟨rfl, rfl⟩
theorem dX8_step_0 : decode cX8_step 0 = .ok (.aload_n 0, 1) := by decide +kernel
theorem dX8_step_1 : decode cX8_step 1 = .ok (.iconst 0, 1) := by decide +kernel
theorem dX8_step_2 : decode cX8_step 2 = .ok (.putfield 116, 3) := by decide +kernel
theorem dX8_step_5 : decode cX8_step 5 = .ok (.aload_n 0, 1) := by decide +kernel
theorem dX8_step_6 : decode cX8_step 6 = .ok (.iload_n 1, 1) := by decide +kernel
theorem dX8_step_7 : decode cX8_step 7 = .ok (.invokevirtual 252, 3) := by decide +kernel
theorem dX8_step_10 : decode cX8_step 10 = .ok (.ifCond .ne 5, 3) := by decide +kernel
theorem dX8_step_13 : decode cX8_step 13 = .ok (.iconst (-1), 1) := by decide +kernel
theorem dX8_step_14 : decode cX8_step 14 = .ok (.ireturn, 1) := by decide +kernel
set_option maxRecDepth 20000 in
theorem ggX8_step_X8_isLoss : GoodIn wsX8_step wsX8_isLoss := goodIn_r _ [8, 9, 10, 11, 7, 12, 106, 107, 108, 109, 110, 111, 112, 113, 114, 115, 116, 117, 118, 119, 120, 121, 122, 123, 124, 125, 126, 127, 128, 129, 130, 131, 132, 133, 134, 135, 136, 137, 138, 139, 140, 141, 142, 143, 144, 145, 146, 147, 148, 149, 150, 151] (by decide +kernel) (by decide +kernel)
set_option maxRecDepth 20000 in
theorem gX8_step_X8_isLoss : GoodIn wsX8_step (wsV RX8 252 RX8 yX8_isLoss wsX8_isLoss) := goodIn_app (goodIn_of _ (by decide +kernel)) ggX8_step_X8_isLoss
set_option maxHeartbeats 4000000 in
set_option maxRecDepth 100000 in
theorem f_X8_step (l : Launch) (D : va_G) (cI cJ : ClassId) (sz : Nat) (g g2 g3 g4 g5 g6 g7 g8 g9 g10 g12 g13 g15 g16 g17 g19 g20 g21 g22 g23 g24 g25 g26 g27 g28 g33 g34 g35 g36 g37 g38 g39 g41 g42 g44 g45 : Nat) (p0 p1 : Int32) : Met l yX8_step wsX8_step { frames := 2, cells := 0, slots := 0, locals := 46 } (cPc D cI cJ [.ref g, .int p0, .int p1] sz [(g, .inr (8, [.int 0, .int 0, .ref g2, .ref g3, .ref g4, .ref g5, .ref g6, .ref g7, .ref g8, .ref g9, .ref g10, .int 0, .ref g12, .ref g13, .int 0, .ref g15, .ref g16, .ref g17, .int 0, .ref g19, .ref g20, .ref g21, .ref g22, .ref g23, .ref g24, .ref g25, .ref g26, .ref g27, .ref g28, .int 0, .int 0, .int 0, .int 0, .ref g33, .ref g34, .ref g35, .ref g36, .ref g37, .ref g38, .ref g39, .int 0, .ref g41, .ref g42, .int 0, .ref g44, .ref g45]))]) (cQi D (fun r u => r = -1 ∧ u = []) (va_A [(g, .inr (8, [.int 0, .int 0, .ref g2, .ref g3, .ref g4, .ref g5, .ref g6, .ref g7, .ref g8, .ref g9, .ref g10, .int 0, .ref g12, .ref g13, .int 0, .ref g15, .ref g16, .ref g17, .int 0, .ref g19, .ref g20, .ref g21, .ref g22, .ref g23, .ref g24, .ref g25, .ref g26, .ref g27, .ref g28, .int 0, .int 0, .int 0, .int 0, .ref g33, .ref g34, .ref g35, .ref g36, .ref g37, .ref g38, .ref g39, .int 0, .ref g41, .ref g42, .int 0, .ref g44, .ref g45]))] sz)) 0 0 (va_A [(g, .inr (8, [.int 0, .int 0, .ref g2, .ref g3, .ref g4, .ref g5, .ref g6, .ref g7, .ref g8, .ref g9, .ref g10, .int 0, .ref g12, .ref g13, .int 0, .ref g15, .ref g16, .ref g17, .int 0, .ref g19, .ref g20, .ref g21, .ref g22, .ref g23, .ref g24, .ref g25, .ref g26, .ref g27, .ref g28, .int 0, .int 0, .int 0, .int 0, .ref g33, .ref g34, .ref g35, .ref g36, .ref g37, .ref g38, .ref g39, .int 0, .ref g41, .ref g42, .int 0, .ref g44, .ref g45]))] sz) := by
  refine k_ofW (Qc := cQi D (fun r u => r = -1 ∧ u = [])) (by decide) rfl (Nat.le_of_ble_eq_true rfl) ?_
  intro p e s m below meth c A ls hx hb hr hml hts hown hlk hnm hsz hE hP hD hS hA hl
  have hown : s.vm.findClass RX8 = some m.cls := hown
  have hiX8 : ∀ w ∈ u_ws RX8 TX8 46, w ∈ wsX8_step := fun w h => List.mem_cons_of_mem _ (List.mem_append_right _ h)
  have hl : lv_has ls 3 [(0, .ref g), (1, .int p0), (2, .int p1)] := hl
  refine lv_aload_n hx hb dX8_step_0 rfl (lv_at hl 0 rfl) ?_
  refine lv_iconst (v := 0) hx hb dX8_step_1 (by decide) ?_
  refine va_put (D := D) (ci := 8) (v := .int 0) (ty := .int) (C := RX8) (T := TX8) (N := 46) hx hb hts hiX8 tyX8 tyX8_ok nmX8 hown hE.1 hP hD hS 0 rfl rfl 0 (by decide) (hts _ (List.mem_of_getElem? (i := 1) rfl)) (fun _ h9 => h9) rfl (by decide +kernel) rfl rfl (Nat.le_of_ble_eq_true rfl) dX8_step_2 (fun H locs hP hD hS => ?_)
  have hP : va_P D vwCl [(g, .inr (8, [.int 0, .int 0, .ref g2, .ref g3, .ref g4, .ref g5, .ref g6, .ref g7, .ref g8, .ref g9, .ref g10, .int 0, .ref g12, .ref g13, .int 0, .ref g15, .ref g16, .ref g17, .int 0, .ref g19, .ref g20, .ref g21, .ref g22, .ref g23, .ref g24, .ref g25, .ref g26, .ref g27, .ref g28, .int 0, .int 0, .int 0, .int 0, .ref g33, .ref g34, .ref g35, .ref g36, .ref g37, .ref g38, .ref g39, .int 0, .ref g41, .ref g42, .int 0, .ref g44, .ref g45]))] H := hP
  have hD : va_D A [(g, .inr (8, [.int 0, .int 0, .ref g2, .ref g3, .ref g4, .ref g5, .ref g6, .ref g7, .ref g8, .ref g9, .ref g10, .int 0, .ref g12, .ref g13, .int 0, .ref g15, .ref g16, .ref g17, .int 0, .ref g19, .ref g20, .ref g21, .ref g22, .ref g23, .ref g24, .ref g25, .ref g26, .ref g27, .ref g28, .int 0, .int 0, .int 0, .int 0, .ref g33, .ref g34, .ref g35, .ref g36, .ref g37, .ref g38, .ref g39, .int 0, .ref g41, .ref g42, .int 0, .ref g44, .ref g45]))] := hD
  refine lv_aload_n hx hb dX8_step_5 rfl (lv_at hl 0 rfl) ?_
  refine lv_iload_n hx hb dX8_step_6 rfl (lv_at hl 1 rfl) ?_
  refine k_i (va_runV (As := [.int p0]) (rest := []) ⟨hx, hb, hml, hown, hts⟩ (f_X8_isLoss l D cI cJ H.size g g2 g3 g4 g5 g6 g7 g8 g9 g10 g12 g13 g15 g16 g17 g19 g20 g21 g22 g23 g24 g25 g26 g27 g28 g33 g34 g35 g36 g37 g38 g39 g41 g42 g44 g45 p0) (cwV 1 hts gX8_step_X8_isLoss rfl rfl rfl (by decide +kernel) ⟨Nat.le_of_ble_eq_true rfl, Nat.le_of_ble_eq_true rfl⟩) (k_preV hE hP hD [0] (by decide) rfl 0 rfl rfl) rfl rfl hl.1 rfl (lv_room (Nat.le_of_ble_eq_true rfl)) dX8_step_7 ⟨Nat.le_of_ble_eq_true rfl, Nat.le_of_ble_eq_true rfl⟩) hP hD hS hA [0] [] rfl (wr := []) rfl (by decide) (by decide) (fun r1 u H locs hw2 hP hD hS => ?_)
  obtain ⟨rfl, rfl⟩ := hw2
  have hP : va_P D vwCl [(g, .inr (8, [.int 0, .int 0, .ref g2, .ref g3, .ref g4, .ref g5, .ref g6, .ref g7, .ref g8, .ref g9, .ref g10, .int 0, .ref g12, .ref g13, .int 0, .ref g15, .ref g16, .ref g17, .int 0, .ref g19, .ref g20, .ref g21, .ref g22, .ref g23, .ref g24, .ref g25, .ref g26, .ref g27, .ref g28, .int 0, .int 0, .int 0, .int 0, .ref g33, .ref g34, .ref g35, .ref g36, .ref g37, .ref g38, .ref g39, .int 0, .ref g41, .ref g42, .int 0, .ref g44, .ref g45]))] H := hP
  have hD : va_D A [(g, .inr (8, [.int 0, .int 0, .ref g2, .ref g3, .ref g4, .ref g5, .ref g6, .ref g7, .ref g8, .ref g9, .ref g10, .int 0, .ref g12, .ref g13, .int 0, .ref g15, .ref g16, .ref g17, .int 0, .ref g19, .ref g20, .ref g21, .ref g22, .ref g23, .ref g24, .ref g25, .ref g26, .ref g27, .ref g28, .int 0, .int 0, .int 0, .int 0, .ref g33, .ref g34, .ref g35, .ref g36, .ref g37, .ref g38, .ref g39, .int 0, .ref g41, .ref g42, .int 0, .ref g44, .ref g45]))] := hD
  refine lv_if_ne (tgt := 15) hx hb dX8_step_10 (by decide) (fun c3 => absurd rfl c3) (fun _ => ?_)
  refine lv_iconst (v := (-1)) hx hb dX8_step_13 (by decide) ?_
  refine k_iret (u := []) hx hb hr hlk (k_sub hP [] rfl) (hD.sub [] (by decide) rfl) hS dX8_step_14 ?_
  exact ⟨rfl, rfl⟩
theorem dX8_level_0 : decode cX8_level 0 = .ok (.aload_n 0, 1) := by decide +kernel
theorem dX8_level_1 : decode cX8_level 1 = .ok (.iconst 0, 1) := by decide +kernel
theorem dX8_level_2 : decode cX8_level 2 = .ok (.putfield 116, 3) := by decide +kernel
theorem dX8_level_5 : decode cX8_level 5 = .ok (.aload_n 0, 1) := by decide +kernel
theorem dX8_level_6 : decode cX8_level 6 = .ok (.iload_n 1, 1) := by decide +kernel
theorem dX8_level_7 : decode cX8_level 7 = .ok (.invokevirtual 252, 3) := by decide +kernel
theorem dX8_level_10 : decode cX8_level 10 = .ok (.ifCond .ne 5, 3) := by decide +kernel
theorem dX8_level_13 : decode cX8_level 13 = .ok (.iconst (-1), 1) := by decide +kernel
theorem dX8_level_14 : decode cX8_level 14 = .ok (.ireturn, 1) := by decide +kernel
set_option maxRecDepth 20000 in
theorem ggX8_level_X8_isLoss : GoodIn wsX8_level wsX8_isLoss := goodIn_r _ [9, 10, 11, 12, 8, 13, 106, 107, 108, 109, 110, 111, 112, 113, 114, 115, 116, 117, 118, 119, 120, 121, 122, 123, 124, 125, 126, 127, 128, 129, 130, 131, 132, 133, 134, 135, 136, 137, 138, 139, 140, 141, 142, 143, 144, 145, 146, 147, 148, 149, 150, 151] (by decide +kernel) (by decide +kernel)
set_option maxRecDepth 20000 in
theorem gX8_level_X8_isLoss : GoodIn wsX8_level (wsV RX8 252 RX8 yX8_isLoss wsX8_isLoss) := goodIn_app (goodIn_of _ (by decide +kernel)) ggX8_level_X8_isLoss
set_option maxHeartbeats 4000000 in
set_option maxRecDepth 100000 in
theorem f_X8_level (l : Launch) (D : va_G) (cI cJ : ClassId) (sz : Nat) (g g2 g3 g4 g5 g6 g7 g8 g9 g10 g12 g13 g15 g16 g17 g19 g20 g21 g22 g23 g24 g25 g26 g27 g28 g33 g34 g35 g36 g37 g38 g39 g41 g42 g44 g45 : Nat) (p0 p1 : Int32) : Met l yX8_level wsX8_level { frames := 2, cells := 0, slots := 0, locals := 46 } (cPc D cI cJ [.ref g, .int p0, .int p1] sz [(g, .inr (8, [.int 0, .int 0, .ref g2, .ref g3, .ref g4, .ref g5, .ref g6, .ref g7, .ref g8, .ref g9, .ref g10, .int 0, .ref g12, .ref g13, .int 0, .ref g15, .ref g16, .ref g17, .int 0, .ref g19, .ref g20, .ref g21, .ref g22, .ref g23, .ref g24, .ref g25, .ref g26, .ref g27, .ref g28, .int 0, .int 0, .int 0, .int 0, .ref g33, .ref g34, .ref g35, .ref g36, .ref g37, .ref g38, .ref g39, .int 0, .ref g41, .ref g42, .int 0, .ref g44, .ref g45]))]) (cQi D (fun r u => r = -1 ∧ u = []) (va_A [(g, .inr (8, [.int 0, .int 0, .ref g2, .ref g3, .ref g4, .ref g5, .ref g6, .ref g7, .ref g8, .ref g9, .ref g10, .int 0, .ref g12, .ref g13, .int 0, .ref g15, .ref g16, .ref g17, .int 0, .ref g19, .ref g20, .ref g21, .ref g22, .ref g23, .ref g24, .ref g25, .ref g26, .ref g27, .ref g28, .int 0, .int 0, .int 0, .int 0, .ref g33, .ref g34, .ref g35, .ref g36, .ref g37, .ref g38, .ref g39, .int 0, .ref g41, .ref g42, .int 0, .ref g44, .ref g45]))] sz)) 0 0 (va_A [(g, .inr (8, [.int 0, .int 0, .ref g2, .ref g3, .ref g4, .ref g5, .ref g6, .ref g7, .ref g8, .ref g9, .ref g10, .int 0, .ref g12, .ref g13, .int 0, .ref g15, .ref g16, .ref g17, .int 0, .ref g19, .ref g20, .ref g21, .ref g22, .ref g23, .ref g24, .ref g25, .ref g26, .ref g27, .ref g28, .int 0, .int 0, .int 0, .int 0, .ref g33, .ref g34, .ref g35, .ref g36, .ref g37, .ref g38, .ref g39, .int 0, .ref g41, .ref g42, .int 0, .ref g44, .ref g45]))] sz) := by
  refine k_ofW (Qc := cQi D (fun r u => r = -1 ∧ u = [])) (by decide) rfl (Nat.le_of_ble_eq_true rfl) ?_
  intro p e s m below meth c A ls hx hb hr hml hts hown hlk hnm hsz hE hP hD hS hA hl
  have hown : s.vm.findClass RX8 = some m.cls := hown
  have hiX8 : ∀ w ∈ u_ws RX8 TX8 46, w ∈ wsX8_level := fun w h => List.mem_cons_of_mem _ (List.mem_append_right _ h)
  have hl : lv_has ls 5 [(0, .ref g), (1, .int p0), (2, .int p1)] := hl
  refine lv_aload_n hx hb dX8_level_0 rfl (lv_at hl 0 rfl) ?_
  refine lv_iconst (v := 0) hx hb dX8_level_1 (by decide) ?_
  refine va_put (D := D) (ci := 8) (v := .int 0) (ty := .int) (C := RX8) (T := TX8) (N := 46) hx hb hts hiX8 tyX8 tyX8_ok nmX8 hown hE.1 hP hD hS 0 rfl rfl 0 (by decide) (hts _ (List.mem_of_getElem? (i := 1) rfl)) (fun _ h9 => h9) rfl (by decide +kernel) rfl rfl (Nat.le_of_ble_eq_true rfl) dX8_level_2 (fun H locs hP hD hS => ?_)
  have hP : va_P D vwCl [(g, .inr (8, [.int 0, .int 0, .ref g2, .ref g3, .ref g4, .ref g5, .ref g6, .ref g7, .ref g8, .ref g9, .ref g10, .int 0, .ref g12, .ref g13, .int 0, .ref g15, .ref g16, .ref g17, .int 0, .ref g19, .ref g20, .ref g21, .ref g22, .ref g23, .ref g24, .ref g25, .ref g26, .ref g27, .ref g28, .int 0, .int 0, .int 0, .int 0, .ref g33, .ref g34, .ref g35, .ref g36, .ref g37, .ref g38, .ref g39, .int 0, .ref g41, .ref g42, .int 0, .ref g44, .ref g45]))] H := hP
  have hD : va_D A [(g, .inr (8, [.int 0, .int 0, .ref g2, .ref g3, .ref g4, .ref g5, .ref g6, .ref g7, .ref g8, .ref g9, .ref g10, .int 0, .ref g12, .ref g13, .int 0, .ref g15, .ref g16, .ref g17, .int 0, .ref g19, .ref g20, .ref g21, .ref g22, .ref g23, .ref g24, .ref g25, .ref g26, .ref g27, .ref g28, .int 0, .int 0, .int 0, .int 0, .ref g33, .ref g34, .ref g35, .ref g36, .ref g37, .ref g38, .ref g39, .int 0, .ref g41, .ref g42, .int 0, .ref g44, .ref g45]))] := hD
  refine lv_aload_n hx hb dX8_level_5 rfl (lv_at hl 0 rfl) ?_
  refine lv_iload_n hx hb dX8_level_6 rfl (lv_at hl 1 rfl) ?_
  refine k_i (va_runV (As := [.int p0]) (rest := []) ⟨hx, hb, hml, hown, hts⟩ (f_X8_isLoss l D cI cJ H.size g g2 g3 g4 g5 g6 g7 g8 g9 g10 g12 g13 g15 g16 g17 g19 g20 g21 g22 g23 g24 g25 g26 g27 g28 g33 g34 g35 g36 g37 g38 g39 g41 g42 g44 g45 p0) (cwV 1 hts gX8_level_X8_isLoss rfl rfl rfl (by decide +kernel) ⟨Nat.le_of_ble_eq_true rfl, Nat.le_of_ble_eq_true rfl⟩) (k_preV hE hP hD [0] (by decide) rfl 0 rfl rfl) rfl rfl hl.1 rfl (lv_room (Nat.le_of_ble_eq_true rfl)) dX8_level_7 ⟨Nat.le_of_ble_eq_true rfl, Nat.le_of_ble_eq_true rfl⟩) hP hD hS hA [0] [] rfl (wr := []) rfl (by decide) (by decide) (fun r1 u H locs hw2 hP hD hS => ?_)
  obtain ⟨rfl, rfl⟩ := hw2
  have hP : va_P D vwCl [(g, .inr (8, [.int 0, .int 0, .ref g2, .ref g3, .ref g4, .ref g5, .ref g6, .ref g7, .ref g8, .ref g9, .ref g10, .int 0, .ref g12, .ref g13, .int 0, .ref g15, .ref g16, .ref g17, .int 0, .ref g19, .ref g20, .ref g21, .ref g22, .ref g23, .ref g24, .ref g25, .ref g26, .ref g27, .ref g28, .int 0, .int 0, .int 0, .int 0, .ref g33, .ref g34, .ref g35, .ref g36, .ref g37, .ref g38, .ref g39, .int 0, .ref g41, .ref g42, .int 0, .ref g44, .ref g45]))] H := hP
  have hD : va_D A [(g, .inr (8, [.int 0, .int 0, .ref g2, .ref g3, .ref g4, .ref g5, .ref g6, .ref g7, .ref g8, .ref g9, .ref g10, .int 0, .ref g12, .ref g13, .int 0, .ref g15, .ref g16, .ref g17, .int 0, .ref g19, .ref g20, .ref g21, .ref g22, .ref g23, .ref g24, .ref g25, .ref g26, .ref g27, .ref g28, .int 0, .int 0, .int 0, .int 0, .ref g33, .ref g34, .ref g35, .ref g36, .ref g37, .ref g38, .ref g39, .int 0, .ref g41, .ref g42, .int 0, .ref g44, .ref g45]))] := hD
  refine lv_if_ne (tgt := 15) hx hb dX8_level_10 (by decide) (fun c3 => absurd rfl c3) (fun _ => ?_)
  refine lv_iconst (v := (-1)) hx hb dX8_level_13 (by decide) ?_
  refine k_iret (u := []) hx hb hr hlk (k_sub hP [] rfl) (hD.sub [] (by decide) rfl) hS dX8_level_14 ?_
  exact ⟨rfl, rfl⟩
theorem dX8_ring_0 : decode cX8_ring 0 = .ok (.aload_n 0, 1) := by decide +kernel
theorem dX8_ring_1 : decode cX8_ring 1 = .ok (.iconst 0, 1) := by decide +kernel
theorem dX8_ring_2 : decode cX8_ring 2 = .ok (.putfield 116, 3) := by decide +kernel
theorem dX8_ring_5 : decode cX8_ring 5 = .ok (.aload_n 0, 1) := by decide +kernel
theorem dX8_ring_6 : decode cX8_ring 6 = .ok (.iload_n 1, 1) := by decide +kernel
theorem dX8_ring_7 : decode cX8_ring 7 = .ok (.invokevirtual 252, 3) := by decide +kernel
theorem dX8_ring_10 : decode cX8_ring 10 = .ok (.ifCond .ne 5, 3) := by decide +kernel
theorem dX8_ring_13 : decode cX8_ring 13 = .ok (.iconst (-1), 1) := by decide +kernel
theorem dX8_ring_14 : decode cX8_ring 14 = .ok (.ireturn, 1) := by decide +kernel
set_option maxRecDepth 20000 in
theorem ggX8_ring_X8_isLoss : GoodIn wsX8_ring wsX8_isLoss := goodIn_r _ [7, 8, 9, 10, 6, 11, 110, 111, 112, 113, 114, 115, 116, 117, 118, 119, 120, 121, 122, 123, 124, 125, 126, 127, 128, 129, 130, 131, 132, 133, 134, 135, 136, 137, 138, 139, 140, 141, 142, 143, 144, 145, 146, 147, 148, 149, 150, 151, 152, 153, 154, 155] (by decide +kernel) (by decide +kernel)
set_option maxRecDepth 20000 in
theorem gX8_ring_X8_isLoss : GoodIn wsX8_ring (wsV RX8 252 RX8 yX8_isLoss wsX8_isLoss) := goodIn_app (goodIn_of _ (by decide +kernel)) ggX8_ring_X8_isLoss
set_option maxHeartbeats 4000000 in
set_option maxRecDepth 100000 in
theorem f_X8_ring (l : Launch) (D : va_G) (cI cJ : ClassId) (sz : Nat) (g g2 g3 g4 g5 g6 g7 g8 g9 g10 g12 g13 g15 g16 g17 g19 g20 g21 g22 g23 g24 g25 g26 g27 g28 g33 g34 g35 g36 g37 g38 g39 g41 g42 g44 g45 : Nat) (p0 p1 : Int32) : Met l yX8_ring wsX8_ring { frames := 2, cells := 0, slots := 0, locals := 46 } (cPc D cI cJ [.ref g, .int p0, .int p1] sz [(g, .inr (8, [.int 0, .int 0, .ref g2, .ref g3, .ref g4, .ref g5, .ref g6, .ref g7, .ref g8, .ref g9, .ref g10, .int 0, .ref g12, .ref g13, .int 0, .ref g15, .ref g16, .ref g17, .int 0, .ref g19, .ref g20, .ref g21, .ref g22, .ref g23, .ref g24, .ref g25, .ref g26, .ref g27, .ref g28, .int 0, .int 0, .int 0, .int 0, .ref g33, .ref g34, .ref g35, .ref g36, .ref g37, .ref g38, .ref g39, .int 0, .ref g41, .ref g42, .int 0, .ref g44, .ref g45]))]) (cQi D (fun r u => r = -1 ∧ u = []) (va_A [(g, .inr (8, [.int 0, .int 0, .ref g2, .ref g3, .ref g4, .ref g5, .ref g6, .ref g7, .ref g8, .ref g9, .ref g10, .int 0, .ref g12, .ref g13, .int 0, .ref g15, .ref g16, .ref g17, .int 0, .ref g19, .ref g20, .ref g21, .ref g22, .ref g23, .ref g24, .ref g25, .ref g26, .ref g27, .ref g28, .int 0, .int 0, .int 0, .int 0, .ref g33, .ref g34, .ref g35, .ref g36, .ref g37, .ref g38, .ref g39, .int 0, .ref g41, .ref g42, .int 0, .ref g44, .ref g45]))] sz)) 0 0 (va_A [(g, .inr (8, [.int 0, .int 0, .ref g2, .ref g3, .ref g4, .ref g5, .ref g6, .ref g7, .ref g8, .ref g9, .ref g10, .int 0, .ref g12, .ref g13, .int 0, .ref g15, .ref g16, .ref g17, .int 0, .ref g19, .ref g20, .ref g21, .ref g22, .ref g23, .ref g24, .ref g25, .ref g26, .ref g27, .ref g28, .int 0, .int 0, .int 0, .int 0, .ref g33, .ref g34, .ref g35, .ref g36, .ref g37, .ref g38, .ref g39, .int 0, .ref g41, .ref g42, .int 0, .ref g44, .ref g45]))] sz) := by
  refine k_ofW (Qc := cQi D (fun r u => r = -1 ∧ u = [])) (by decide) rfl (Nat.le_of_ble_eq_true rfl) ?_
  intro p e s m below meth c A ls hx hb hr hml hts hown hlk hnm hsz hE hP hD hS hA hl
  have hown : s.vm.findClass RX8 = some m.cls := hown
  have hiX8 : ∀ w ∈ u_ws RX8 TX8 46, w ∈ wsX8_ring := fun w h => List.mem_cons_of_mem _ (List.mem_append_right _ h)
  have hl : lv_has ls 5 [(0, .ref g), (1, .int p0), (2, .int p1)] := hl
  refine lv_aload_n hx hb dX8_ring_0 rfl (lv_at hl 0 rfl) ?_
  refine lv_iconst (v := 0) hx hb dX8_ring_1 (by decide) ?_
  refine va_put (D := D) (ci := 8) (v := .int 0) (ty := .int) (C := RX8) (T := TX8) (N := 46) hx hb hts hiX8 tyX8 tyX8_ok nmX8 hown hE.1 hP hD hS 0 rfl rfl 0 (by decide) (hts _ (List.mem_of_getElem? (i := 1) rfl)) (fun _ h9 => h9) rfl (by decide +kernel) rfl rfl (Nat.le_of_ble_eq_true rfl) dX8_ring_2 (fun H locs hP hD hS => ?_)
  have hP : va_P D vwCl [(g, .inr (8, [.int 0, .int 0, .ref g2, .ref g3, .ref g4, .ref g5, .ref g6, .ref g7, .ref g8, .ref g9, .ref g10, .int 0, .ref g12, .ref g13, .int 0, .ref g15, .ref g16, .ref g17, .int 0, .ref g19, .ref g20, .ref g21, .ref g22, .ref g23, .ref g24, .ref g25, .ref g26, .ref g27, .ref g28, .int 0, .int 0, .int 0, .int 0, .ref g33, .ref g34, .ref g35, .ref g36, .ref g37, .ref g38, .ref g39, .int 0, .ref g41, .ref g42, .int 0, .ref g44, .ref g45]))] H := hP
  have hD : va_D A [(g, .inr (8, [.int 0, .int 0, .ref g2, .ref g3, .ref g4, .ref g5, .ref g6, .ref g7, .ref g8, .ref g9, .ref g10, .int 0, .ref g12, .ref g13, .int 0, .ref g15, .ref g16, .ref g17, .int 0, .ref g19, .ref g20, .ref g21, .ref g22, .ref g23, .ref g24, .ref g25, .ref g26, .ref g27, .ref g28, .int 0, .int 0, .int 0, .int 0, .ref g33, .ref g34, .ref g35, .ref g36, .ref g37, .ref g38, .ref g39, .int 0, .ref g41, .ref g42, .int 0, .ref g44, .ref g45]))] := hD
  refine lv_aload_n hx hb dX8_ring_5 rfl (lv_at hl 0 rfl) ?_
  refine lv_iload_n hx hb dX8_ring_6 rfl (lv_at hl 1 rfl) ?_
  refine k_i (va_runV (As := [.int p0]) (rest := []) ⟨hx, hb, hml, hown, hts⟩ (f_X8_isLoss l D cI cJ H.size g g2 g3 g4 g5 g6 g7 g8 g9 g10 g12 g13 g15 g16 g17 g19 g20 g21 g22 g23 g24 g25 g26 g27 g28 g33 g34 g35 g36 g37 g38 g39 g41 g42 g44 g45 p0) (cwV 1 hts gX8_ring_X8_isLoss rfl rfl rfl (by decide +kernel) ⟨Nat.le_of_ble_eq_true rfl, Nat.le_of_ble_eq_true rfl⟩) (k_preV hE hP hD [0] (by decide) rfl 0 rfl rfl) rfl rfl hl.1 rfl (lv_room (Nat.le_of_ble_eq_true rfl)) dX8_ring_7 ⟨Nat.le_of_ble_eq_true rfl, Nat.le_of_ble_eq_true rfl⟩) hP hD hS hA [0] [] rfl (wr := []) rfl (by decide) (by decide) (fun r1 u H locs hw2 hP hD hS => ?_)
  obtain ⟨rfl, rfl⟩ := hw2
  have hP : va_P D vwCl [(g, .inr (8, [.int 0, .int 0, .ref g2, .ref g3, .ref g4, .ref g5, .ref g6, .ref g7, .ref g8, .ref g9, .ref g10, .int 0, .ref g12, .ref g13, .int 0, .ref g15, .ref g16, .ref g17, .int 0, .ref g19, .ref g20, .ref g21, .ref g22, .ref g23, .ref g24, .ref g25, .ref g26, .ref g27, .ref g28, .int 0, .int 0, .int 0, .int 0, .ref g33, .ref g34, .ref g35, .ref g36, .ref g37, .ref g38, .ref g39, .int 0, .ref g41, .ref g42, .int 0, .ref g44, .ref g45]))] H := hP
  have hD : va_D A [(g, .inr (8, [.int 0, .int 0, .ref g2, .ref g3, .ref g4, .ref g5, .ref g6, .ref g7, .ref g8, .ref g9, .ref g10, .int 0, .ref g12, .ref g13, .int 0, .ref g15, .ref g16, .ref g17, .int 0, .ref g19, .ref g20, .ref g21, .ref g22, .ref g23, .ref g24, .ref g25, .ref g26, .ref g27, .ref g28, .int 0, .int 0, .int 0, .int 0, .ref g33, .ref g34, .ref g35, .ref g36, .ref g37, .ref g38, .ref g39, .int 0, .ref g41, .ref g42, .int 0, .ref g44, .ref g45]))] := hD
  refine lv_if_ne (tgt := 15) hx hb dX8_ring_10 (by decide) (fun c3 => absurd rfl c3) (fun _ => ?_)
  refine lv_iconst (v := (-1)) hx hb dX8_ring_13 (by decide) ?_
  refine k_iret (u := []) hx hb hr hlk (k_sub hP [] rfl) (hD.sub [] (by decide) rfl) hS dX8_ring_14 ?_
  exact ⟨rfl, rfl⟩
theorem dX8_way_0 : decode cX8_way 0 = .ok (.aload_n 0, 1) := by decide +kernel
theorem dX8_way_1 : decode cX8_way 1 = .ok (.iload_n 1, 1) := by decide +kernel
theorem dX8_way_2 : decode cX8_way 2 = .ok (.iload_n 2, 1) := by decide +kernel
theorem dX8_way_3 : decode cX8_way 3 = .ok (.invokevirtual 264, 3) := by decide +kernel
theorem dX8_way_6 : decode cX8_way 6 = .ok (.ifCond .eq 16, 3) := by decide +kernel
theorem dX8_way_22 : decode cX8_way 22 = .ok (.iconst (-1), 1) := by decide +kernel
theorem dX8_way_23 : decode cX8_way 23 = .ok (.ireturn, 1) := by decide +kernel
set_option maxRecDepth 20000 in
theorem ggX8_way_X8_isBoth : GoodIn wsX8_way wsX8_isBoth := goodIn_r _ [7, 8, 9, 10, 11, 6, 12, 13, 14, 15, 16, 17, 18, 19, 20, 21, 22, 23, 24, 25, 26, 27, 28, 29, 30, 31, 32, 33, 34, 35, 36, 37, 38, 39, 40, 41, 42, 43, 44, 2, 45, 46, 47, 48, 49, 50, 51, 52, 53, 54, 55, 56, 57, 58, 59, 60, 61, 62, 63, 64, 65, 66, 67, 68, 69, 70, 71, 72, 73, 74, 75, 76, 77, 78, 79, 80, 81, 82, 83, 84, 85, 86, 87, 88, 89, 90, 91, 92, 93, 94, 95, 96, 97, 98, 99, 100, 101, 102, 103, 104, 105, 106, 107, 108, 109, 110, 111, 112, 113, 114, 119, 120, 121, 122, 123, 124, 125, 126, 127, 128, 129, 130, 131, 132, 133, 134, 135, 136, 137, 138, 139, 140, 141, 142, 143, 144, 145, 146, 147, 148, 149, 150, 151, 152, 153, 154, 155, 156, 157, 158, 159, 160, 161, 162, 163, 164] (by decide +kernel) (by decide +kernel)
set_option maxRecDepth 20000 in
theorem gX8_way_X8_isBoth : GoodIn wsX8_way (wsV RX8 264 RX8 yX8_isBoth wsX8_isBoth) := goodIn_app (goodIn_of _ (by decide +kernel)) ggX8_way_X8_isBoth
set_option maxHeartbeats 4000000 in
set_option maxRecDepth 100000 in
theorem f_X8_way (l : Launch) (D : va_G) (cI cJ : ClassId) (sz : Nat) (g g2 g3 g4 g5 g6 g7 g8 g9 g10 g12 g13 g15 g16 g17 g19 g20 g21 g22 g23 g24 g25 g26 g27 g28 g33 g34 g35 g36 g37 g38 g39 g41 g42 g44 g45 : Nat) (p0 p1 p2 p3 : Int32) : Met l yX8_way wsX8_way { frames := 3, cells := 0, slots := 0, locals := 68 } (cPc D cI cJ [.ref g, .int p0, .int p1, .int p2, .int p3] sz [(g, .inr (8, [.int 0, .int 0, .ref g2, .ref g3, .ref g4, .ref g5, .ref g6, .ref g7, .ref g8, .ref g9, .ref g10, .int 0, .ref g12, .ref g13, .int 0, .ref g15, .ref g16, .ref g17, .int 0, .ref g19, .ref g20, .ref g21, .ref g22, .ref g23, .ref g24, .ref g25, .ref g26, .ref g27, .ref g28, .int 0, .int 0, .int 0, .int 0, .ref g33, .ref g34, .ref g35, .ref g36, .ref g37, .ref g38, .ref g39, .int 0, .ref g41, .ref g42, .int 0, .ref g44, .ref g45]))]) (cQi D (fun r u => r = -1 ∧ u = []) (va_A [(g, .inr (8, [.int 0, .int 0, .ref g2, .ref g3, .ref g4, .ref g5, .ref g6, .ref g7, .ref g8, .ref g9, .ref g10, .int 0, .ref g12, .ref g13, .int 0, .ref g15, .ref g16, .ref g17, .int 0, .ref g19, .ref g20, .ref g21, .ref g22, .ref g23, .ref g24, .ref g25, .ref g26, .ref g27, .ref g28, .int 0, .int 0, .int 0, .int 0, .ref g33, .ref g34, .ref g35, .ref g36, .ref g37, .ref g38, .ref g39, .int 0, .ref g41, .ref g42, .int 0, .ref g44, .ref g45]))] sz)) 0 0 (va_A [(g, .inr (8, [.int 0, .int 0, .ref g2, .ref g3, .ref g4, .ref g5, .ref g6, .ref g7, .ref g8, .ref g9, .ref g10, .int 0, .ref g12, .ref g13, .int 0, .ref g15, .ref g16, .ref g17, .int 0, .ref g19, .ref g20, .ref g21, .ref g22, .ref g23, .ref g24, .ref g25, .ref g26, .ref g27, .ref g28, .int 0, .int 0, .int 0, .int 0, .ref g33, .ref g34, .ref g35, .ref g36, .ref g37, .ref g38, .ref g39, .int 0, .ref g41, .ref g42, .int 0, .ref g44, .ref g45]))] sz) := by
  refine k_ofW (Qc := cQi D (fun r u => r = -1 ∧ u = [])) (by decide) rfl (Nat.le_of_ble_eq_true rfl) ?_
  intro p e s m below meth c A ls hx hb hr hml hts hown hlk hnm hsz hE hP hD hS hA hl
  have hown : s.vm.findClass RX8 = some m.cls := hown
  have hl : lv_has ls 8 [(0, .ref g), (1, .int p0), (2, .int p1), (3, .int p2), (4, .int p3)] := hl
  refine lv_aload_n hx hb dX8_way_0 rfl (lv_at hl 0 rfl) ?_
  refine lv_iload_n hx hb dX8_way_1 rfl (lv_at hl 1 rfl) ?_
  refine lv_iload_n hx hb dX8_way_2 rfl (lv_at hl 2 rfl) ?_
  refine k_i (va_runV (As := [.int p0, .int p1]) (rest := []) ⟨hx, hb, hml, hown, hts⟩ (f_X8_isBoth l D cI cJ (s.heap).size g g2 g3 g4 g5 g6 g7 g8 g9 g10 g12 g13 g15 g16 g17 g19 g20 g21 g22 g23 g24 g25 g26 g27 g28 g33 g34 g35 g36 g37 g38 g39 g41 g42 g44 g45 p0 p1) (cwV 2 hts gX8_way_X8_isBoth rfl rfl rfl (by decide +kernel) ⟨Nat.le_of_ble_eq_true rfl, Nat.le_of_ble_eq_true rfl⟩) (k_preV hE hP hD [0] (by decide) rfl 0 rfl rfl) rfl rfl hl.1 rfl (lv_room (Nat.le_of_ble_eq_true rfl)) dX8_way_3 ⟨Nat.le_of_ble_eq_true rfl, Nat.le_of_ble_eq_true rfl⟩) hP hD hS hA [0] [] rfl (wr := []) rfl (by decide) (by decide) (fun r1 u H locs hw2 hP hD hS => ?_)
  obtain ⟨rfl, rfl⟩ := hw2
  have hP : va_P D vwCl [(g, .inr (8, [.int 0, .int 0, .ref g2, .ref g3, .ref g4, .ref g5, .ref g6, .ref g7, .ref g8, .ref g9, .ref g10, .int 0, .ref g12, .ref g13, .int 0, .ref g15, .ref g16, .ref g17, .int 0, .ref g19, .ref g20, .ref g21, .ref g22, .ref g23, .ref g24, .ref g25, .ref g26, .ref g27, .ref g28, .int 0, .int 0, .int 0, .int 0, .ref g33, .ref g34, .ref g35, .ref g36, .ref g37, .ref g38, .ref g39, .int 0, .ref g41, .ref g42, .int 0, .ref g44, .ref g45]))] H := hP
  have hD : va_D A [(g, .inr (8, [.int 0, .int 0, .ref g2, .ref g3, .ref g4, .ref g5, .ref g6, .ref g7, .ref g8, .ref g9, .ref g10, .int 0, .ref g12, .ref g13, .int 0, .ref g15, .ref g16, .ref g17, .int 0, .ref g19, .ref g20, .ref g21, .ref g22, .ref g23, .ref g24, .ref g25, .ref g26, .ref g27, .ref g28, .int 0, .int 0, .int 0, .int 0, .ref g33, .ref g34, .ref g35, .ref g36, .ref g37, .ref g38, .ref g39, .int 0, .ref g41, .ref g42, .int 0, .ref g44, .ref g45]))] := hD
  refine lv_if_eq (tgt := 22) hx hb dX8_way_6 (by decide) (fun _ => ?_) (fun c3 => absurd (by decide) c3)
  refine lv_iconst (v := (-1)) hx hb dX8_way_22 (by decide) ?_
  refine k_iret (u := []) hx hb hr hlk (k_sub hP [] rfl) (hD.sub [] (by decide) rfl) hS dX8_way_23 ?_
  exact ⟨rfl, rfl⟩
theorem dX8_claimed_0 : decode cX8_claimed 0 = .ok (.iload 4, 2) := by decide +kernel
theorem dX8_claimed_2 : decode cX8_claimed 2 = .ok (.iconst (-1), 1) := by decide +kernel
theorem dX8_claimed_3 : decode cX8_claimed 3 = .ok (.if_icmp .eq 12, 3) := by decide +kernel
theorem dX8_claimed_6 : decode cX8_claimed 6 = .ok (.aload_n 0, 1) := by decide +kernel
theorem dX8_claimed_7 : decode cX8_claimed 7 = .ok (.iload 4, 2) := by decide +kernel
theorem dX8_claimed_9 : decode cX8_claimed 9 = .ok (.invokevirtual 140, 3) := by decide +kernel
theorem dX8_claimed_12 : decode cX8_claimed 12 = .ok (.ifCond .eq 12, 3) := by decide +kernel
theorem dX8_claimed_15 : decode cX8_claimed 15 = .ok (.aload_n 0, 1) := by decide +kernel
theorem dX8_claimed_16 : decode cX8_claimed 16 = .ok (.iload_n 1, 1) := by decide +kernel
theorem dX8_claimed_17 : decode cX8_claimed 17 = .ok (.lload_n 2, 1) := by decide +kernel
theorem dX8_claimed_18 : decode cX8_claimed 18 = .ok (.invokevirtual 287, 3) := by decide +kernel
theorem dX8_claimed_21 : decode cX8_claimed 21 = .ok (.ifCond .ne 10, 3) := by decide +kernel
theorem dX8_claimed_24 : decode cX8_claimed 24 = .ok (.aload_n 0, 1) := by decide +kernel
theorem dX8_claimed_25 : decode cX8_claimed 25 = .ok (.iconst 0, 1) := by decide +kernel
theorem dX8_claimed_26 : decode cX8_claimed 26 = .ok (.putfield 116, 3) := by decide +kernel
theorem dX8_claimed_29 : decode cX8_claimed 29 = .ok (.iconst (-1), 1) := by decide +kernel
theorem dX8_claimed_30 : decode cX8_claimed 30 = .ok (.ireturn, 1) := by decide +kernel
set_option maxRecDepth 20000 in
theorem ggX8_claimed_X8_claims : GoodIn wsX8_claimed wsX8_claims := goodIn_r _ [16, 1, 3, 2, 17, 18, 19, 20, 21, 22, 23, 24, 7, 25, 26, 10, 11, 12, 27, 28, 29, 30, 9, 31, 32, 33, 34, 35, 36, 37, 38, 39, 40, 41, 42, 43, 44, 45, 46, 47, 48, 49, 50, 51, 52, 53, 54, 55, 56, 57, 58, 59, 60, 61, 62, 63, 64, 65, 66, 67, 68, 69, 70, 71, 72, 73, 74, 75, 76, 77, 78, 79, 80, 81, 82, 83, 84, 85, 86, 87, 88, 89, 90, 91, 92, 93, 94, 95, 96, 97, 98, 99, 100, 101, 102, 103, 104, 105, 106, 107, 108, 109, 110, 111, 112, 113, 114, 115, 116, 4, 5, 6, 8, 117, 118, 119, 120, 121, 122, 123, 124, 125, 126, 127, 128, 129, 130, 131, 132, 133, 134, 135, 136, 137, 138, 139, 140, 141, 142, 143, 144, 145, 146, 147, 148, 149, 150, 151, 152, 153, 154, 155, 156, 157, 158, 159, 160, 161, 162] (by decide +kernel) (by decide +kernel)
set_option maxRecDepth 20000 in
theorem gX8_claimed_X8_claims : GoodIn wsX8_claimed (wsV RX8 287 RX8 yX8_claims wsX8_claims) := goodIn_app (goodIn_of _ (by decide +kernel)) ggX8_claimed_X8_claims
set_option maxRecDepth 20000 in
theorem ggX8_claimed_X8_isPolicy : GoodIn wsX8_claimed wsX8_isPolicy := goodIn_r _ [8, 9, 10, 11, 7, 12, 117, 118, 119, 120, 121, 122, 123, 124, 125, 126, 127, 128, 129, 130, 131, 132, 133, 134, 135, 136, 137, 138, 139, 140, 141, 142, 143, 144, 145, 146, 147, 148, 149, 150, 151, 152, 153, 154, 155, 156, 157, 158, 159, 160, 161, 162] (by decide +kernel) (by decide +kernel)
set_option maxRecDepth 20000 in
theorem gX8_claimed_X8_isPolicy : GoodIn wsX8_claimed (wsV RX8 140 RX8 yX8_isPolicy wsX8_isPolicy) := goodIn_app (goodIn_of _ (by decide +kernel)) ggX8_claimed_X8_isPolicy
set_option maxHeartbeats 4000000 in
set_option maxRecDepth 100000 in
theorem f_X8_claimed (l : Launch) (D : va_G) (cI cJ : ClassId) (sz : Nat) (g g2 g3 g4 g5 g6 g7 g8 g9 g10 g12 g13 g15 g16 g17 g19 g20 g21 g22 g23 g24 g25 g26 g27 g28 g33 g34 g35 g36 g37 g38 g39 g41 g42 g44 g45 : Nat) (p0 p2 : Int32) (p1 : Int64) : Met l yX8_claimed wsX8_claimed { frames := 3, cells := 0, slots := 0, locals := 73 } (cPc D cI cJ [.ref g, .int p0, .long p1, .int p2] sz [(g, .inr (8, [.int 0, .int 0, .ref g2, .ref g3, .ref g4, .ref g5, .ref g6, .ref g7, .ref g8, .ref g9, .ref g10, .int 0, .ref g12, .ref g13, .int 0, .ref g15, .ref g16, .ref g17, .int 0, .ref g19, .ref g20, .ref g21, .ref g22, .ref g23, .ref g24, .ref g25, .ref g26, .ref g27, .ref g28, .int 0, .int 0, .int 0, .int 0, .ref g33, .ref g34, .ref g35, .ref g36, .ref g37, .ref g38, .ref g39, .int 0, .ref g41, .ref g42, .int 0, .ref g44, .ref g45]))]) (cQi D (fun r u => r = -1 ∧ u = []) (va_A [(g, .inr (8, [.int 0, .int 0, .ref g2, .ref g3, .ref g4, .ref g5, .ref g6, .ref g7, .ref g8, .ref g9, .ref g10, .int 0, .ref g12, .ref g13, .int 0, .ref g15, .ref g16, .ref g17, .int 0, .ref g19, .ref g20, .ref g21, .ref g22, .ref g23, .ref g24, .ref g25, .ref g26, .ref g27, .ref g28, .int 0, .int 0, .int 0, .int 0, .ref g33, .ref g34, .ref g35, .ref g36, .ref g37, .ref g38, .ref g39, .int 0, .ref g41, .ref g42, .int 0, .ref g44, .ref g45]))] sz)) 0 0 (va_A [(g, .inr (8, [.int 0, .int 0, .ref g2, .ref g3, .ref g4, .ref g5, .ref g6, .ref g7, .ref g8, .ref g9, .ref g10, .int 0, .ref g12, .ref g13, .int 0, .ref g15, .ref g16, .ref g17, .int 0, .ref g19, .ref g20, .ref g21, .ref g22, .ref g23, .ref g24, .ref g25, .ref g26, .ref g27, .ref g28, .int 0, .int 0, .int 0, .int 0, .ref g33, .ref g34, .ref g35, .ref g36, .ref g37, .ref g38, .ref g39, .int 0, .ref g41, .ref g42, .int 0, .ref g44, .ref g45]))] sz) := by
  refine k_ofW (Qc := cQi D (fun r u => r = -1 ∧ u = [])) (by decide) rfl (Nat.le_of_ble_eq_true rfl) ?_
  intro p e s m below meth c A ls hx hb hr hml hts hown hlk hnm hsz hE hP hD hS hA hl
  have hown : s.vm.findClass RX8 = some m.cls := hown
  have hiX8 : ∀ w ∈ u_ws RX8 TX8 46, w ∈ wsX8_claimed := fun w h => List.mem_cons_of_mem _ (List.mem_append_right _ h)
  have hl : lv_has ls 5 [(0, .ref g), (1, .int p0), (2, .long p1), (4, .int p2)] := hl
  refine lv_iload hx hb dX8_claimed_0 (lv_at hl 3 rfl) ?_
  refine lv_iconst (v := (-1)) hx hb dX8_claimed_2 (by decide) ?_
  refine lv_icmp_eq (tgt := 15) hx hb dX8_claimed_3 (by decide) (fun c1 => ?_) (fun c1 => ?_)
  · skip
    refine lv_aload_n hx hb dX8_claimed_15 rfl (lv_at hl 0 rfl) ?_
    refine lv_iload_n hx hb dX8_claimed_16 rfl (lv_at hl 1 rfl) ?_
    refine lv_lload_n hx hb dX8_claimed_17 rfl (lv_at hl 2 rfl) ?_
    refine k_i (va_runV (As := [.int p0, .long p1]) (rest := []) ⟨hx, hb, hml, hown, hts⟩ (f_X8_claims l D cI cJ (s.heap).size g g2 g3 g4 g5 g6 g7 g8 g9 g10 g12 g13 g15 g16 g17 g19 g20 g21 g22 g23 g24 g25 g26 g27 g28 g33 g34 g35 g36 g37 g38 g39 g41 g42 g44 g45 p0 p1) (cwV 2 hts gX8_claimed_X8_claims rfl rfl rfl (by decide +kernel) ⟨Nat.le_of_ble_eq_true rfl, Nat.le_of_ble_eq_true rfl⟩) (k_preV hE hP hD [0] (by decide) rfl 0 rfl rfl) rfl rfl hl.1 rfl (lv_room (Nat.le_of_ble_eq_true rfl)) dX8_claimed_18 ⟨Nat.le_of_ble_eq_true rfl, Nat.le_of_ble_eq_true rfl⟩) hP hD hS hA [0] [] rfl (wr := []) rfl (by decide) (by decide) (fun r2 u H locs hw3 hP hD hS => ?_)
    obtain ⟨rfl, rfl⟩ := hw3
    have hP : va_P D vwCl [(g, .inr (8, [.int 0, .int 0, .ref g2, .ref g3, .ref g4, .ref g5, .ref g6, .ref g7, .ref g8, .ref g9, .ref g10, .int 0, .ref g12, .ref g13, .int 0, .ref g15, .ref g16, .ref g17, .int 0, .ref g19, .ref g20, .ref g21, .ref g22, .ref g23, .ref g24, .ref g25, .ref g26, .ref g27, .ref g28, .int 0, .int 0, .int 0, .int 0, .ref g33, .ref g34, .ref g35, .ref g36, .ref g37, .ref g38, .ref g39, .int 0, .ref g41, .ref g42, .int 0, .ref g44, .ref g45]))] H := hP
    have hD : va_D A [(g, .inr (8, [.int 0, .int 0, .ref g2, .ref g3, .ref g4, .ref g5, .ref g6, .ref g7, .ref g8, .ref g9, .ref g10, .int 0, .ref g12, .ref g13, .int 0, .ref g15, .ref g16, .ref g17, .int 0, .ref g19, .ref g20, .ref g21, .ref g22, .ref g23, .ref g24, .ref g25, .ref g26, .ref g27, .ref g28, .int 0, .int 0, .int 0, .int 0, .ref g33, .ref g34, .ref g35, .ref g36, .ref g37, .ref g38, .ref g39, .int 0, .ref g41, .ref g42, .int 0, .ref g44, .ref g45]))] := hD
    refine lv_if_ne (tgt := 31) hx hb dX8_claimed_21 (by decide) (fun c4 => absurd rfl c4) (fun _ => ?_)
    refine lv_aload_n hx hb dX8_claimed_24 rfl (lv_at hl 0 rfl) ?_
    refine lv_iconst (v := 0) hx hb dX8_claimed_25 (by decide) ?_
    refine va_put (D := D) (ci := 8) (v := .int 0) (ty := .int) (C := RX8) (T := TX8) (N := 46) hx hb hts hiX8 tyX8 tyX8_ok nmX8 hown hE.1 hP hD hS 0 rfl rfl 0 (by decide) (hts _ (List.mem_of_getElem? (i := 1) rfl)) (fun _ h9 => h9) rfl (by decide +kernel) rfl rfl (Nat.le_of_ble_eq_true rfl) dX8_claimed_26 (fun H locs hP hD hS => ?_)
    have hP : va_P D vwCl [(g, .inr (8, [.int 0, .int 0, .ref g2, .ref g3, .ref g4, .ref g5, .ref g6, .ref g7, .ref g8, .ref g9, .ref g10, .int 0, .ref g12, .ref g13, .int 0, .ref g15, .ref g16, .ref g17, .int 0, .ref g19, .ref g20, .ref g21, .ref g22, .ref g23, .ref g24, .ref g25, .ref g26, .ref g27, .ref g28, .int 0, .int 0, .int 0, .int 0, .ref g33, .ref g34, .ref g35, .ref g36, .ref g37, .ref g38, .ref g39, .int 0, .ref g41, .ref g42, .int 0, .ref g44, .ref g45]))] H := hP
    have hD : va_D A [(g, .inr (8, [.int 0, .int 0, .ref g2, .ref g3, .ref g4, .ref g5, .ref g6, .ref g7, .ref g8, .ref g9, .ref g10, .int 0, .ref g12, .ref g13, .int 0, .ref g15, .ref g16, .ref g17, .int 0, .ref g19, .ref g20, .ref g21, .ref g22, .ref g23, .ref g24, .ref g25, .ref g26, .ref g27, .ref g28, .int 0, .int 0, .int 0, .int 0, .ref g33, .ref g34, .ref g35, .ref g36, .ref g37, .ref g38, .ref g39, .int 0, .ref g41, .ref g42, .int 0, .ref g44, .ref g45]))] := hD
    refine lv_iconst (v := (-1)) hx hb dX8_claimed_29 (by decide) ?_
    refine k_iret (u := []) hx hb hr hlk (k_sub hP [] rfl) (hD.sub [] (by decide) rfl) hS dX8_claimed_30 ?_
    exact ⟨rfl, rfl⟩
  · skip
    refine lv_aload_n hx hb dX8_claimed_6 rfl (lv_at hl 0 rfl) ?_
    refine lv_iload hx hb dX8_claimed_7 (lv_at hl 3 rfl) ?_
    refine k_i (va_runV (As := [.int p2]) (rest := []) ⟨hx, hb, hml, hown, hts⟩ (f_X8_isPolicy l D cI cJ (s.heap).size g g2 g3 g4 g5 g6 g7 g8 g9 g10 g12 g13 g15 g16 g17 g19 g20 g21 g22 g23 g24 g25 g26 g27 g28 g33 g34 g35 g36 g37 g38 g39 g41 g42 g44 g45 p2) (cwV 1 hts gX8_claimed_X8_isPolicy rfl rfl rfl (by decide +kernel) ⟨Nat.le_of_ble_eq_true rfl, Nat.le_of_ble_eq_true rfl⟩) (k_preV hE hP hD [0] (by decide) rfl 0 rfl rfl) rfl rfl hl.1 rfl (lv_room (Nat.le_of_ble_eq_true rfl)) dX8_claimed_9 ⟨Nat.le_of_ble_eq_true rfl, Nat.le_of_ble_eq_true rfl⟩) hP hD hS hA [0] [] rfl (wr := []) rfl (by decide) (by decide) (fun r5 u H locs hw6 hP hD hS => ?_)
    obtain ⟨rfl, rfl⟩ := hw6
    have hP : va_P D vwCl [(g, .inr (8, [.int 0, .int 0, .ref g2, .ref g3, .ref g4, .ref g5, .ref g6, .ref g7, .ref g8, .ref g9, .ref g10, .int 0, .ref g12, .ref g13, .int 0, .ref g15, .ref g16, .ref g17, .int 0, .ref g19, .ref g20, .ref g21, .ref g22, .ref g23, .ref g24, .ref g25, .ref g26, .ref g27, .ref g28, .int 0, .int 0, .int 0, .int 0, .ref g33, .ref g34, .ref g35, .ref g36, .ref g37, .ref g38, .ref g39, .int 0, .ref g41, .ref g42, .int 0, .ref g44, .ref g45]))] H := hP
    have hD : va_D A [(g, .inr (8, [.int 0, .int 0, .ref g2, .ref g3, .ref g4, .ref g5, .ref g6, .ref g7, .ref g8, .ref g9, .ref g10, .int 0, .ref g12, .ref g13, .int 0, .ref g15, .ref g16, .ref g17, .int 0, .ref g19, .ref g20, .ref g21, .ref g22, .ref g23, .ref g24, .ref g25, .ref g26, .ref g27, .ref g28, .int 0, .int 0, .int 0, .int 0, .ref g33, .ref g34, .ref g35, .ref g36, .ref g37, .ref g38, .ref g39, .int 0, .ref g41, .ref g42, .int 0, .ref g44, .ref g45]))] := hD
    refine lv_if_eq (tgt := 24) hx hb dX8_claimed_12 (by decide) (fun _ => ?_) (fun c7 => absurd (by decide) c7)
    refine lv_aload_n hx hb dX8_claimed_24 rfl (lv_at hl 0 rfl) ?_
    refine lv_iconst (v := 0) hx hb dX8_claimed_25 (by decide) ?_
    refine va_put (D := D) (ci := 8) (v := .int 0) (ty := .int) (C := RX8) (T := TX8) (N := 46) hx hb hts hiX8 tyX8 tyX8_ok nmX8 hown hE.1 hP hD hS 0 rfl rfl 0 (by decide) (hts _ (List.mem_of_getElem? (i := 1) rfl)) (fun _ h9 => h9) rfl (by decide +kernel) rfl rfl (Nat.le_of_ble_eq_true rfl) dX8_claimed_26 (fun H locs hP hD hS => ?_)
    have hP : va_P D vwCl [(g, .inr (8, [.int 0, .int 0, .ref g2, .ref g3, .ref g4, .ref g5, .ref g6, .ref g7, .ref g8, .ref g9, .ref g10, .int 0, .ref g12, .ref g13, .int 0, .ref g15, .ref g16, .ref g17, .int 0, .ref g19, .ref g20, .ref g21, .ref g22, .ref g23, .ref g24, .ref g25, .ref g26, .ref g27, .ref g28, .int 0, .int 0, .int 0, .int 0, .ref g33, .ref g34, .ref g35, .ref g36, .ref g37, .ref g38, .ref g39, .int 0, .ref g41, .ref g42, .int 0, .ref g44, .ref g45]))] H := hP
    have hD : va_D A [(g, .inr (8, [.int 0, .int 0, .ref g2, .ref g3, .ref g4, .ref g5, .ref g6, .ref g7, .ref g8, .ref g9, .ref g10, .int 0, .ref g12, .ref g13, .int 0, .ref g15, .ref g16, .ref g17, .int 0, .ref g19, .ref g20, .ref g21, .ref g22, .ref g23, .ref g24, .ref g25, .ref g26, .ref g27, .ref g28, .int 0, .int 0, .int 0, .int 0, .ref g33, .ref g34, .ref g35, .ref g36, .ref g37, .ref g38, .ref g39, .int 0, .ref g41, .ref g42, .int 0, .ref g44, .ref g45]))] := hD
    refine lv_iconst (v := (-1)) hx hb dX8_claimed_29 (by decide) ?_
    refine k_iret (u := []) hx hb hr hlk (k_sub hP [] rfl) (hD.sub [] (by decide) rfl) hS dX8_claimed_30 ?_
    exact ⟨rfl, rfl⟩
theorem dX8_recovery_0 : decode cX8_recovery 0 = .ok (.aload_n 0, 1) := by decide +kernel
theorem dX8_recovery_1 : decode cX8_recovery 1 = .ok (.iload_n 1, 1) := by decide +kernel
theorem dX8_recovery_2 : decode cX8_recovery 2 = .ok (.lload_n 2, 1) := by decide +kernel
theorem dX8_recovery_3 : decode cX8_recovery 3 = .ok (.invokevirtual 287, 3) := by decide +kernel
theorem dX8_recovery_6 : decode cX8_recovery 6 = .ok (.ifCond .ne 5, 3) := by decide +kernel
theorem dX8_recovery_9 : decode cX8_recovery 9 = .ok (.iconst (-1), 1) := by decide +kernel
theorem dX8_recovery_10 : decode cX8_recovery 10 = .ok (.ireturn, 1) := by decide +kernel
set_option maxRecDepth 20000 in
theorem ggX8_recovery_X8_claims : GoodIn wsX8_recovery wsX8_claims := goodIn_r _ [8, 9, 10, 11, 12, 13, 14, 15, 16, 17, 18, 19, 7, 20, 21, 22, 23, 24, 25, 26, 27, 28, 29, 30, 31, 32, 33, 34, 35, 36, 37, 38, 39, 40, 41, 42, 43, 44, 45, 46, 47, 48, 49, 50, 51, 52, 53, 54, 55, 56, 57, 58, 59, 60, 61, 62, 63, 64, 65, 66, 67, 68, 69, 70, 71, 72, 73, 74, 75, 76, 77, 78, 79, 80, 81, 82, 83, 84, 85, 86, 87, 88, 89, 90, 91, 92, 93, 94, 95, 96, 97, 98, 99, 100, 101, 102, 103, 104, 105, 106, 107, 108, 109, 110, 111, 112, 113, 114, 115, 116, 117, 118, 119, 129, 130, 131, 132, 133, 134, 135, 136, 137, 138, 139, 140, 141, 142, 143, 144, 145, 146, 147, 148, 149, 150, 151, 152, 153, 154, 155, 156, 157, 158, 159, 160, 161, 162, 163, 164, 165, 166, 167, 168, 169, 170, 171, 172, 173, 174] (by decide +kernel) (by decide +kernel)
set_option maxRecDepth 20000 in
theorem gX8_recovery_X8_claims : GoodIn wsX8_recovery (wsV RX8 287 RX8 yX8_claims wsX8_claims) := goodIn_app (goodIn_of _ (by decide +kernel)) ggX8_recovery_X8_claims
set_option maxHeartbeats 4000000 in
set_option maxRecDepth 100000 in
theorem f_X8_recovery (l : Launch) (D : va_G) (cI cJ : ClassId) (sz : Nat) (g g2 g3 g4 g5 g6 g7 g8 g9 g10 g12 g13 g15 g16 g17 g19 g20 g21 g22 g23 g24 g25 g26 g27 g28 g33 g34 g35 g36 g37 g38 g39 g41 g42 g44 g45 : Nat) (p0 p2 p3 : Int32) (p1 : Int64) : Met l yX8_recovery wsX8_recovery { frames := 3, cells := 0, slots := 0, locals := 73 } (cPc D cI cJ [.ref g, .int p0, .long p1, .int p2, .int p3] sz [(g, .inr (8, [.int 0, .int 0, .ref g2, .ref g3, .ref g4, .ref g5, .ref g6, .ref g7, .ref g8, .ref g9, .ref g10, .int 0, .ref g12, .ref g13, .int 0, .ref g15, .ref g16, .ref g17, .int 0, .ref g19, .ref g20, .ref g21, .ref g22, .ref g23, .ref g24, .ref g25, .ref g26, .ref g27, .ref g28, .int 0, .int 0, .int 0, .int 0, .ref g33, .ref g34, .ref g35, .ref g36, .ref g37, .ref g38, .ref g39, .int 0, .ref g41, .ref g42, .int 0, .ref g44, .ref g45]))]) (cQi D (fun r u => r = -1 ∧ u = []) (va_A [(g, .inr (8, [.int 0, .int 0, .ref g2, .ref g3, .ref g4, .ref g5, .ref g6, .ref g7, .ref g8, .ref g9, .ref g10, .int 0, .ref g12, .ref g13, .int 0, .ref g15, .ref g16, .ref g17, .int 0, .ref g19, .ref g20, .ref g21, .ref g22, .ref g23, .ref g24, .ref g25, .ref g26, .ref g27, .ref g28, .int 0, .int 0, .int 0, .int 0, .ref g33, .ref g34, .ref g35, .ref g36, .ref g37, .ref g38, .ref g39, .int 0, .ref g41, .ref g42, .int 0, .ref g44, .ref g45]))] sz)) 0 0 (va_A [(g, .inr (8, [.int 0, .int 0, .ref g2, .ref g3, .ref g4, .ref g5, .ref g6, .ref g7, .ref g8, .ref g9, .ref g10, .int 0, .ref g12, .ref g13, .int 0, .ref g15, .ref g16, .ref g17, .int 0, .ref g19, .ref g20, .ref g21, .ref g22, .ref g23, .ref g24, .ref g25, .ref g26, .ref g27, .ref g28, .int 0, .int 0, .int 0, .int 0, .ref g33, .ref g34, .ref g35, .ref g36, .ref g37, .ref g38, .ref g39, .int 0, .ref g41, .ref g42, .int 0, .ref g44, .ref g45]))] sz) := by
  refine k_ofW (Qc := cQi D (fun r u => r = -1 ∧ u = [])) (by decide) rfl (Nat.le_of_ble_eq_true rfl) ?_
  intro p e s m below meth c A ls hx hb hr hml hts hown hlk hnm hsz hE hP hD hS hA hl
  have hown : s.vm.findClass RX8 = some m.cls := hown
  have hl : lv_has ls 6 [(0, .ref g), (1, .int p0), (2, .long p1), (4, .int p2), (5, .int p3)] := hl
  refine lv_aload_n hx hb dX8_recovery_0 rfl (lv_at hl 0 rfl) ?_
  refine lv_iload_n hx hb dX8_recovery_1 rfl (lv_at hl 1 rfl) ?_
  refine lv_lload_n hx hb dX8_recovery_2 rfl (lv_at hl 2 rfl) ?_
  refine k_i (va_runV (As := [.int p0, .long p1]) (rest := []) ⟨hx, hb, hml, hown, hts⟩ (f_X8_claims l D cI cJ (s.heap).size g g2 g3 g4 g5 g6 g7 g8 g9 g10 g12 g13 g15 g16 g17 g19 g20 g21 g22 g23 g24 g25 g26 g27 g28 g33 g34 g35 g36 g37 g38 g39 g41 g42 g44 g45 p0 p1) (cwV 2 hts gX8_recovery_X8_claims rfl rfl rfl (by decide +kernel) ⟨Nat.le_of_ble_eq_true rfl, Nat.le_of_ble_eq_true rfl⟩) (k_preV hE hP hD [0] (by decide) rfl 0 rfl rfl) rfl rfl hl.1 rfl (lv_room (Nat.le_of_ble_eq_true rfl)) dX8_recovery_3 ⟨Nat.le_of_ble_eq_true rfl, Nat.le_of_ble_eq_true rfl⟩) hP hD hS hA [0] [] rfl (wr := []) rfl (by decide) (by decide) (fun r1 u H locs hw2 hP hD hS => ?_)
  obtain ⟨rfl, rfl⟩ := hw2
  have hP : va_P D vwCl [(g, .inr (8, [.int 0, .int 0, .ref g2, .ref g3, .ref g4, .ref g5, .ref g6, .ref g7, .ref g8, .ref g9, .ref g10, .int 0, .ref g12, .ref g13, .int 0, .ref g15, .ref g16, .ref g17, .int 0, .ref g19, .ref g20, .ref g21, .ref g22, .ref g23, .ref g24, .ref g25, .ref g26, .ref g27, .ref g28, .int 0, .int 0, .int 0, .int 0, .ref g33, .ref g34, .ref g35, .ref g36, .ref g37, .ref g38, .ref g39, .int 0, .ref g41, .ref g42, .int 0, .ref g44, .ref g45]))] H := hP
  have hD : va_D A [(g, .inr (8, [.int 0, .int 0, .ref g2, .ref g3, .ref g4, .ref g5, .ref g6, .ref g7, .ref g8, .ref g9, .ref g10, .int 0, .ref g12, .ref g13, .int 0, .ref g15, .ref g16, .ref g17, .int 0, .ref g19, .ref g20, .ref g21, .ref g22, .ref g23, .ref g24, .ref g25, .ref g26, .ref g27, .ref g28, .int 0, .int 0, .int 0, .int 0, .ref g33, .ref g34, .ref g35, .ref g36, .ref g37, .ref g38, .ref g39, .int 0, .ref g41, .ref g42, .int 0, .ref g44, .ref g45]))] := hD
  refine lv_if_ne (tgt := 11) hx hb dX8_recovery_6 (by decide) (fun c3 => absurd rfl c3) (fun _ => ?_)
  refine lv_iconst (v := (-1)) hx hb dX8_recovery_9 (by decide) ?_
  refine k_iret (u := []) hx hb hr hlk (k_sub hP [] rfl) (hD.sub [] (by decide) rfl) hS dX8_recovery_10 ?_
  exact ⟨rfl, rfl⟩
theorem dX8_broke_0 : decode cX8_broke 0 = .ok (.aload_n 0, 1) := by decide +kernel
theorem dX8_broke_1 : decode cX8_broke 1 = .ok (.iconst 0, 1) := by decide +kernel
theorem dX8_broke_2 : decode cX8_broke 2 = .ok (.putfield 116, 3) := by decide +kernel
theorem dX8_broke_5 : decode cX8_broke 5 = .ok (.aload_n 0, 1) := by decide +kernel
theorem dX8_broke_6 : decode cX8_broke 6 = .ok (.iload_n 1, 1) := by decide +kernel
theorem dX8_broke_7 : decode cX8_broke 7 = .ok (.invokevirtual 252, 3) := by decide +kernel
theorem dX8_broke_10 : decode cX8_broke 10 = .ok (.ifCond .eq 30, 3) := by decide +kernel
theorem dX8_broke_40 : decode cX8_broke 40 = .ok (.iconst (-1), 1) := by decide +kernel
theorem dX8_broke_41 : decode cX8_broke 41 = .ok (.ireturn, 1) := by decide +kernel
set_option maxRecDepth 20000 in
theorem ggX8_broke_X8_isLoss : GoodIn wsX8_broke wsX8_isLoss := goodIn_r _ [11, 12, 13, 14, 10, 15, 110, 111, 112, 113, 114, 115, 116, 117, 118, 119, 120, 121, 122, 123, 124, 125, 126, 127, 128, 129, 130, 131, 132, 133, 134, 135, 136, 137, 138, 139, 140, 141, 142, 143, 144, 145, 146, 147, 148, 149, 150, 151, 152, 153, 154, 155] (by decide +kernel) (by decide +kernel)
set_option maxRecDepth 20000 in
theorem gX8_broke_X8_isLoss : GoodIn wsX8_broke (wsV RX8 252 RX8 yX8_isLoss wsX8_isLoss) := goodIn_app (goodIn_of _ (by decide +kernel)) ggX8_broke_X8_isLoss
set_option maxHeartbeats 4000000 in
set_option maxRecDepth 100000 in
theorem f_X8_broke (l : Launch) (D : va_G) (cI cJ : ClassId) (sz : Nat) (g g2 g3 g4 g5 g6 g7 g8 g9 g10 g12 g13 g15 g16 g17 g19 g20 g21 g22 g23 g24 g25 g26 g27 g28 g33 g34 g35 g36 g37 g38 g39 g41 g42 g44 g45 : Nat) (p0 p1 p2 : Int32) : Met l yX8_broke wsX8_broke { frames := 2, cells := 0, slots := 0, locals := 46 } (cPc D cI cJ [.ref g, .int p0, .int p1, .int p2] sz [(g, .inr (8, [.int 0, .int 0, .ref g2, .ref g3, .ref g4, .ref g5, .ref g6, .ref g7, .ref g8, .ref g9, .ref g10, .int 0, .ref g12, .ref g13, .int 0, .ref g15, .ref g16, .ref g17, .int 0, .ref g19, .ref g20, .ref g21, .ref g22, .ref g23, .ref g24, .ref g25, .ref g26, .ref g27, .ref g28, .int 0, .int 0, .int 0, .int 0, .ref g33, .ref g34, .ref g35, .ref g36, .ref g37, .ref g38, .ref g39, .int 0, .ref g41, .ref g42, .int 0, .ref g44, .ref g45]))]) (cQi D (fun r u => r = -1 ∧ u = []) (va_A [(g, .inr (8, [.int 0, .int 0, .ref g2, .ref g3, .ref g4, .ref g5, .ref g6, .ref g7, .ref g8, .ref g9, .ref g10, .int 0, .ref g12, .ref g13, .int 0, .ref g15, .ref g16, .ref g17, .int 0, .ref g19, .ref g20, .ref g21, .ref g22, .ref g23, .ref g24, .ref g25, .ref g26, .ref g27, .ref g28, .int 0, .int 0, .int 0, .int 0, .ref g33, .ref g34, .ref g35, .ref g36, .ref g37, .ref g38, .ref g39, .int 0, .ref g41, .ref g42, .int 0, .ref g44, .ref g45]))] sz)) 0 0 (va_A [(g, .inr (8, [.int 0, .int 0, .ref g2, .ref g3, .ref g4, .ref g5, .ref g6, .ref g7, .ref g8, .ref g9, .ref g10, .int 0, .ref g12, .ref g13, .int 0, .ref g15, .ref g16, .ref g17, .int 0, .ref g19, .ref g20, .ref g21, .ref g22, .ref g23, .ref g24, .ref g25, .ref g26, .ref g27, .ref g28, .int 0, .int 0, .int 0, .int 0, .ref g33, .ref g34, .ref g35, .ref g36, .ref g37, .ref g38, .ref g39, .int 0, .ref g41, .ref g42, .int 0, .ref g44, .ref g45]))] sz) := by
  refine k_ofW (Qc := cQi D (fun r u => r = -1 ∧ u = [])) (by decide) rfl (Nat.le_of_ble_eq_true rfl) ?_
  intro p e s m below meth c A ls hx hb hr hml hts hown hlk hnm hsz hE hP hD hS hA hl
  have hown : s.vm.findClass RX8 = some m.cls := hown
  have hiX8 : ∀ w ∈ u_ws RX8 TX8 46, w ∈ wsX8_broke := fun w h => List.mem_cons_of_mem _ (List.mem_append_right _ h)
  have hl : lv_has ls 6 [(0, .ref g), (1, .int p0), (2, .int p1), (3, .int p2)] := hl
  refine lv_aload_n hx hb dX8_broke_0 rfl (lv_at hl 0 rfl) ?_
  refine lv_iconst (v := 0) hx hb dX8_broke_1 (by decide) ?_
  refine va_put (D := D) (ci := 8) (v := .int 0) (ty := .int) (C := RX8) (T := TX8) (N := 46) hx hb hts hiX8 tyX8 tyX8_ok nmX8 hown hE.1 hP hD hS 0 rfl rfl 0 (by decide) (hts _ (List.mem_of_getElem? (i := 1) rfl)) (fun _ h9 => h9) rfl (by decide +kernel) rfl rfl (Nat.le_of_ble_eq_true rfl) dX8_broke_2 (fun H locs hP hD hS => ?_)
  have hP : va_P D vwCl [(g, .inr (8, [.int 0, .int 0, .ref g2, .ref g3, .ref g4, .ref g5, .ref g6, .ref g7, .ref g8, .ref g9, .ref g10, .int 0, .ref g12, .ref g13, .int 0, .ref g15, .ref g16, .ref g17, .int 0, .ref g19, .ref g20, .ref g21, .ref g22, .ref g23, .ref g24, .ref g25, .ref g26, .ref g27, .ref g28, .int 0, .int 0, .int 0, .int 0, .ref g33, .ref g34, .ref g35, .ref g36, .ref g37, .ref g38, .ref g39, .int 0, .ref g41, .ref g42, .int 0, .ref g44, .ref g45]))] H := hP
  have hD : va_D A [(g, .inr (8, [.int 0, .int 0, .ref g2, .ref g3, .ref g4, .ref g5, .ref g6, .ref g7, .ref g8, .ref g9, .ref g10, .int 0, .ref g12, .ref g13, .int 0, .ref g15, .ref g16, .ref g17, .int 0, .ref g19, .ref g20, .ref g21, .ref g22, .ref g23, .ref g24, .ref g25, .ref g26, .ref g27, .ref g28, .int 0, .int 0, .int 0, .int 0, .ref g33, .ref g34, .ref g35, .ref g36, .ref g37, .ref g38, .ref g39, .int 0, .ref g41, .ref g42, .int 0, .ref g44, .ref g45]))] := hD
  refine lv_aload_n hx hb dX8_broke_5 rfl (lv_at hl 0 rfl) ?_
  refine lv_iload_n hx hb dX8_broke_6 rfl (lv_at hl 1 rfl) ?_
  refine k_i (va_runV (As := [.int p0]) (rest := []) ⟨hx, hb, hml, hown, hts⟩ (f_X8_isLoss l D cI cJ H.size g g2 g3 g4 g5 g6 g7 g8 g9 g10 g12 g13 g15 g16 g17 g19 g20 g21 g22 g23 g24 g25 g26 g27 g28 g33 g34 g35 g36 g37 g38 g39 g41 g42 g44 g45 p0) (cwV 1 hts gX8_broke_X8_isLoss rfl rfl rfl (by decide +kernel) ⟨Nat.le_of_ble_eq_true rfl, Nat.le_of_ble_eq_true rfl⟩) (k_preV hE hP hD [0] (by decide) rfl 0 rfl rfl) rfl rfl hl.1 rfl (lv_room (Nat.le_of_ble_eq_true rfl)) dX8_broke_7 ⟨Nat.le_of_ble_eq_true rfl, Nat.le_of_ble_eq_true rfl⟩) hP hD hS hA [0] [] rfl (wr := []) rfl (by decide) (by decide) (fun r1 u H locs hw2 hP hD hS => ?_)
  obtain ⟨rfl, rfl⟩ := hw2
  have hP : va_P D vwCl [(g, .inr (8, [.int 0, .int 0, .ref g2, .ref g3, .ref g4, .ref g5, .ref g6, .ref g7, .ref g8, .ref g9, .ref g10, .int 0, .ref g12, .ref g13, .int 0, .ref g15, .ref g16, .ref g17, .int 0, .ref g19, .ref g20, .ref g21, .ref g22, .ref g23, .ref g24, .ref g25, .ref g26, .ref g27, .ref g28, .int 0, .int 0, .int 0, .int 0, .ref g33, .ref g34, .ref g35, .ref g36, .ref g37, .ref g38, .ref g39, .int 0, .ref g41, .ref g42, .int 0, .ref g44, .ref g45]))] H := hP
  have hD : va_D A [(g, .inr (8, [.int 0, .int 0, .ref g2, .ref g3, .ref g4, .ref g5, .ref g6, .ref g7, .ref g8, .ref g9, .ref g10, .int 0, .ref g12, .ref g13, .int 0, .ref g15, .ref g16, .ref g17, .int 0, .ref g19, .ref g20, .ref g21, .ref g22, .ref g23, .ref g24, .ref g25, .ref g26, .ref g27, .ref g28, .int 0, .int 0, .int 0, .int 0, .ref g33, .ref g34, .ref g35, .ref g36, .ref g37, .ref g38, .ref g39, .int 0, .ref g41, .ref g42, .int 0, .ref g44, .ref g45]))] := hD
  refine lv_if_eq (tgt := 40) hx hb dX8_broke_10 (by decide) (fun _ => ?_) (fun c3 => absurd (by decide) c3)
  refine lv_iconst (v := (-1)) hx hb dX8_broke_40 (by decide) ?_
  refine k_iret (u := []) hx hb hr hlk (k_sub hP [] rfl) (hD.sub [] (by decide) rfl) hS dX8_broke_41 ?_
  exact ⟨rfl, rfl⟩
theorem dX8_without_0 : decode cX8_without 0 = .ok (.aload_n 0, 1) := by decide +kernel
theorem dX8_without_1 : decode cX8_without 1 = .ok (.iload_n 1, 1) := by decide +kernel
theorem dX8_without_2 : decode cX8_without 2 = .ok (.iload_n 2, 1) := by decide +kernel
theorem dX8_without_3 : decode cX8_without 3 = .ok (.invokevirtual 264, 3) := by decide +kernel
theorem dX8_without_6 : decode cX8_without 6 = .ok (.ifCond .ne 5, 3) := by decide +kernel
theorem dX8_without_9 : decode cX8_without 9 = .ok (.iconst (-1), 1) := by decide +kernel
theorem dX8_without_10 : decode cX8_without 10 = .ok (.ireturn, 1) := by decide +kernel
set_option maxRecDepth 20000 in
theorem ggX8_without_X8_isBoth : GoodIn wsX8_without wsX8_isBoth := goodIn_r _ [6, 7, 8, 9, 10, 5, 11, 12, 13, 14, 15, 16, 17, 18, 19, 20, 21, 22, 23, 24, 25, 26, 27, 28, 29, 30, 31, 32, 33, 34, 35, 1, 36, 37, 38, 39, 40, 41, 42, 43, 44, 45, 46, 47, 48, 49, 50, 51, 52, 53, 54, 55, 56, 57, 58, 59, 60, 61, 62, 63, 64, 65, 66, 67, 68, 69, 70, 71, 72, 73, 74, 75, 76, 77, 78, 79, 80, 81, 82, 83, 84, 85, 86, 87, 88, 89, 90, 91, 92, 93, 94, 95, 96, 97, 98, 99, 100, 101, 102, 103, 104, 105, 106, 107, 108, 109, 110, 111, 112, 113, 114, 115, 116, 117, 118, 119, 120, 121, 122, 123, 124, 125, 126, 127, 128, 129, 130, 131, 132, 133, 134, 135, 136, 137, 138, 139, 140, 141, 142, 143, 144, 145, 146, 147, 148, 149, 150, 151, 152, 153, 154, 155, 156, 157, 158, 159] (by decide +kernel) (by decide +kernel)
set_option maxRecDepth 20000 in
theorem gX8_without_X8_isBoth : GoodIn wsX8_without (wsV RX8 264 RX8 yX8_isBoth wsX8_isBoth) := goodIn_app (goodIn_of _ (by decide +kernel)) ggX8_without_X8_isBoth
set_option maxHeartbeats 4000000 in
set_option maxRecDepth 100000 in
theorem f_X8_without (l : Launch) (D : va_G) (cI cJ : ClassId) (sz : Nat) (g g2 g3 g4 g5 g6 g7 g8 g9 g10 g12 g13 g15 g16 g17 g19 g20 g21 g22 g23 g24 g25 g26 g27 g28 g33 g34 g35 g36 g37 g38 g39 g41 g42 g44 g45 : Nat) (p0 p1 : Int32) : Met l yX8_without wsX8_without { frames := 3, cells := 0, slots := 0, locals := 68 } (cPc D cI cJ [.ref g, .int p0, .int p1] sz [(g, .inr (8, [.int 0, .int 0, .ref g2, .ref g3, .ref g4, .ref g5, .ref g6, .ref g7, .ref g8, .ref g9, .ref g10, .int 0, .ref g12, .ref g13, .int 0, .ref g15, .ref g16, .ref g17, .int 0, .ref g19, .ref g20, .ref g21, .ref g22, .ref g23, .ref g24, .ref g25, .ref g26, .ref g27, .ref g28, .int 0, .int 0, .int 0, .int 0, .ref g33, .ref g34, .ref g35, .ref g36, .ref g37, .ref g38, .ref g39, .int 0, .ref g41, .ref g42, .int 0, .ref g44, .ref g45]))]) (cQi D (fun r u => r = -1 ∧ u = []) (va_A [(g, .inr (8, [.int 0, .int 0, .ref g2, .ref g3, .ref g4, .ref g5, .ref g6, .ref g7, .ref g8, .ref g9, .ref g10, .int 0, .ref g12, .ref g13, .int 0, .ref g15, .ref g16, .ref g17, .int 0, .ref g19, .ref g20, .ref g21, .ref g22, .ref g23, .ref g24, .ref g25, .ref g26, .ref g27, .ref g28, .int 0, .int 0, .int 0, .int 0, .ref g33, .ref g34, .ref g35, .ref g36, .ref g37, .ref g38, .ref g39, .int 0, .ref g41, .ref g42, .int 0, .ref g44, .ref g45]))] sz)) 0 0 (va_A [(g, .inr (8, [.int 0, .int 0, .ref g2, .ref g3, .ref g4, .ref g5, .ref g6, .ref g7, .ref g8, .ref g9, .ref g10, .int 0, .ref g12, .ref g13, .int 0, .ref g15, .ref g16, .ref g17, .int 0, .ref g19, .ref g20, .ref g21, .ref g22, .ref g23, .ref g24, .ref g25, .ref g26, .ref g27, .ref g28, .int 0, .int 0, .int 0, .int 0, .ref g33, .ref g34, .ref g35, .ref g36, .ref g37, .ref g38, .ref g39, .int 0, .ref g41, .ref g42, .int 0, .ref g44, .ref g45]))] sz) := by
  refine k_ofW (Qc := cQi D (fun r u => r = -1 ∧ u = [])) (by decide) rfl (Nat.le_of_ble_eq_true rfl) ?_
  intro p e s m below meth c A ls hx hb hr hml hts hown hlk hnm hsz hE hP hD hS hA hl
  have hown : s.vm.findClass RX8 = some m.cls := hown
  have hl : lv_has ls 3 [(0, .ref g), (1, .int p0), (2, .int p1)] := hl
  refine lv_aload_n hx hb dX8_without_0 rfl (lv_at hl 0 rfl) ?_
  refine lv_iload_n hx hb dX8_without_1 rfl (lv_at hl 1 rfl) ?_
  refine lv_iload_n hx hb dX8_without_2 rfl (lv_at hl 2 rfl) ?_
  refine k_i (va_runV (As := [.int p0, .int p1]) (rest := []) ⟨hx, hb, hml, hown, hts⟩ (f_X8_isBoth l D cI cJ (s.heap).size g g2 g3 g4 g5 g6 g7 g8 g9 g10 g12 g13 g15 g16 g17 g19 g20 g21 g22 g23 g24 g25 g26 g27 g28 g33 g34 g35 g36 g37 g38 g39 g41 g42 g44 g45 p0 p1) (cwV 2 hts gX8_without_X8_isBoth rfl rfl rfl (by decide +kernel) ⟨Nat.le_of_ble_eq_true rfl, Nat.le_of_ble_eq_true rfl⟩) (k_preV hE hP hD [0] (by decide) rfl 0 rfl rfl) rfl rfl hl.1 rfl (lv_room (Nat.le_of_ble_eq_true rfl)) dX8_without_3 ⟨Nat.le_of_ble_eq_true rfl, Nat.le_of_ble_eq_true rfl⟩) hP hD hS hA [0] [] rfl (wr := []) rfl (by decide) (by decide) (fun r1 u H locs hw2 hP hD hS => ?_)
  obtain ⟨rfl, rfl⟩ := hw2
  have hP : va_P D vwCl [(g, .inr (8, [.int 0, .int 0, .ref g2, .ref g3, .ref g4, .ref g5, .ref g6, .ref g7, .ref g8, .ref g9, .ref g10, .int 0, .ref g12, .ref g13, .int 0, .ref g15, .ref g16, .ref g17, .int 0, .ref g19, .ref g20, .ref g21, .ref g22, .ref g23, .ref g24, .ref g25, .ref g26, .ref g27, .ref g28, .int 0, .int 0, .int 0, .int 0, .ref g33, .ref g34, .ref g35, .ref g36, .ref g37, .ref g38, .ref g39, .int 0, .ref g41, .ref g42, .int 0, .ref g44, .ref g45]))] H := hP
  have hD : va_D A [(g, .inr (8, [.int 0, .int 0, .ref g2, .ref g3, .ref g4, .ref g5, .ref g6, .ref g7, .ref g8, .ref g9, .ref g10, .int 0, .ref g12, .ref g13, .int 0, .ref g15, .ref g16, .ref g17, .int 0, .ref g19, .ref g20, .ref g21, .ref g22, .ref g23, .ref g24, .ref g25, .ref g26, .ref g27, .ref g28, .int 0, .int 0, .int 0, .int 0, .ref g33, .ref g34, .ref g35, .ref g36, .ref g37, .ref g38, .ref g39, .int 0, .ref g41, .ref g42, .int 0, .ref g44, .ref g45]))] := hD
  refine lv_if_ne (tgt := 11) hx hb dX8_without_6 (by decide) (fun c3 => absurd rfl c3) (fun _ => ?_)
  refine lv_iconst (v := (-1)) hx hb dX8_without_9 (by decide) ?_
  refine k_iret (u := []) hx hb hr hlk (k_sub hP [] rfl) (hD.sub [] (by decide) rfl) hS dX8_without_10 ?_
  exact ⟨rfl, rfl⟩
theorem dX8_other_0 : decode cX8_other 0 = .ok (.aload_n 0, 1) := by decide +kernel
theorem dX8_other_1 : decode cX8_other 1 = .ok (.iload_n 1, 1) := by decide +kernel
theorem dX8_other_2 : decode cX8_other 2 = .ok (.iload_n 2, 1) := by decide +kernel
theorem dX8_other_3 : decode cX8_other 3 = .ok (.invokevirtual 264, 3) := by decide +kernel
theorem dX8_other_6 : decode cX8_other 6 = .ok (.ifCond .ne 5, 3) := by decide +kernel
theorem dX8_other_9 : decode cX8_other 9 = .ok (.iconst (-1), 1) := by decide +kernel
theorem dX8_other_10 : decode cX8_other 10 = .ok (.ireturn, 1) := by decide +kernel
set_option maxRecDepth 20000 in
theorem ggX8_other_X8_isBoth : GoodIn wsX8_other wsX8_isBoth := goodIn_r _ [7, 8, 9, 10, 11, 6, 12, 13, 14, 15, 16, 17, 18, 19, 20, 21, 22, 23, 24, 25, 26, 27, 28, 29, 30, 31, 32, 33, 34, 35, 36, 37, 38, 39, 40, 41, 42, 43, 2, 44, 45, 46, 47, 48, 49, 50, 51, 52, 53, 54, 55, 56, 57, 58, 59, 60, 61, 62, 63, 64, 65, 66, 67, 68, 69, 70, 71, 72, 73, 74, 75, 76, 77, 78, 79, 80, 81, 82, 83, 84, 85, 86, 87, 88, 89, 90, 91, 1, 92, 93, 94, 95, 96, 97, 98, 99, 100, 101, 102, 103, 104, 105, 106, 107, 108, 109, 110, 111, 112, 113, 114, 115, 116, 117, 118, 119, 120, 121, 122, 123, 124, 125, 126, 127, 128, 129, 130, 131, 132, 133, 134, 135, 136, 137, 138, 139, 140, 141, 142, 143, 144, 145, 146, 147, 148, 149, 150, 151, 152, 153, 154, 155, 156, 157, 158, 159] (by decide +kernel) (by decide +kernel)
set_option maxRecDepth 20000 in
theorem gX8_other_X8_isBoth : GoodIn wsX8_other (wsV RX8 264 RX8 yX8_isBoth wsX8_isBoth) := goodIn_app (goodIn_of _ (by decide +kernel)) ggX8_other_X8_isBoth
set_option maxHeartbeats 4000000 in
set_option maxRecDepth 100000 in
theorem f_X8_other (l : Launch) (D : va_G) (cI cJ : ClassId) (sz : Nat) (g g2 g3 g4 g5 g6 g7 g8 g9 g10 g12 g13 g15 g16 g17 g19 g20 g21 g22 g23 g24 g25 g26 g27 g28 g33 g34 g35 g36 g37 g38 g39 g41 g42 g44 g45 : Nat) (p0 p1 : Int32) : Met l yX8_other wsX8_other { frames := 3, cells := 0, slots := 0, locals := 68 } (cPc D cI cJ [.ref g, .int p0, .int p1] sz [(g, .inr (8, [.int 0, .int 0, .ref g2, .ref g3, .ref g4, .ref g5, .ref g6, .ref g7, .ref g8, .ref g9, .ref g10, .int 0, .ref g12, .ref g13, .int 0, .ref g15, .ref g16, .ref g17, .int 0, .ref g19, .ref g20, .ref g21, .ref g22, .ref g23, .ref g24, .ref g25, .ref g26, .ref g27, .ref g28, .int 0, .int 0, .int 0, .int 0, .ref g33, .ref g34, .ref g35, .ref g36, .ref g37, .ref g38, .ref g39, .int 0, .ref g41, .ref g42, .int 0, .ref g44, .ref g45]))]) (cQi D (fun r u => r = -1 ∧ u = []) (va_A [(g, .inr (8, [.int 0, .int 0, .ref g2, .ref g3, .ref g4, .ref g5, .ref g6, .ref g7, .ref g8, .ref g9, .ref g10, .int 0, .ref g12, .ref g13, .int 0, .ref g15, .ref g16, .ref g17, .int 0, .ref g19, .ref g20, .ref g21, .ref g22, .ref g23, .ref g24, .ref g25, .ref g26, .ref g27, .ref g28, .int 0, .int 0, .int 0, .int 0, .ref g33, .ref g34, .ref g35, .ref g36, .ref g37, .ref g38, .ref g39, .int 0, .ref g41, .ref g42, .int 0, .ref g44, .ref g45]))] sz)) 0 0 (va_A [(g, .inr (8, [.int 0, .int 0, .ref g2, .ref g3, .ref g4, .ref g5, .ref g6, .ref g7, .ref g8, .ref g9, .ref g10, .int 0, .ref g12, .ref g13, .int 0, .ref g15, .ref g16, .ref g17, .int 0, .ref g19, .ref g20, .ref g21, .ref g22, .ref g23, .ref g24, .ref g25, .ref g26, .ref g27, .ref g28, .int 0, .int 0, .int 0, .int 0, .ref g33, .ref g34, .ref g35, .ref g36, .ref g37, .ref g38, .ref g39, .int 0, .ref g41, .ref g42, .int 0, .ref g44, .ref g45]))] sz) := by
  refine k_ofW (Qc := cQi D (fun r u => r = -1 ∧ u = [])) (by decide) rfl (Nat.le_of_ble_eq_true rfl) ?_
  intro p e s m below meth c A ls hx hb hr hml hts hown hlk hnm hsz hE hP hD hS hA hl
  have hown : s.vm.findClass RX8 = some m.cls := hown
  have hl : lv_has ls 3 [(0, .ref g), (1, .int p0), (2, .int p1)] := hl
  refine lv_aload_n hx hb dX8_other_0 rfl (lv_at hl 0 rfl) ?_
  refine lv_iload_n hx hb dX8_other_1 rfl (lv_at hl 1 rfl) ?_
  refine lv_iload_n hx hb dX8_other_2 rfl (lv_at hl 2 rfl) ?_
  refine k_i (va_runV (As := [.int p0, .int p1]) (rest := []) ⟨hx, hb, hml, hown, hts⟩ (f_X8_isBoth l D cI cJ (s.heap).size g g2 g3 g4 g5 g6 g7 g8 g9 g10 g12 g13 g15 g16 g17 g19 g20 g21 g22 g23 g24 g25 g26 g27 g28 g33 g34 g35 g36 g37 g38 g39 g41 g42 g44 g45 p0 p1) (cwV 2 hts gX8_other_X8_isBoth rfl rfl rfl (by decide +kernel) ⟨Nat.le_of_ble_eq_true rfl, Nat.le_of_ble_eq_true rfl⟩) (k_preV hE hP hD [0] (by decide) rfl 0 rfl rfl) rfl rfl hl.1 rfl (lv_room (Nat.le_of_ble_eq_true rfl)) dX8_other_3 ⟨Nat.le_of_ble_eq_true rfl, Nat.le_of_ble_eq_true rfl⟩) hP hD hS hA [0] [] rfl (wr := []) rfl (by decide) (by decide) (fun r1 u H locs hw2 hP hD hS => ?_)
  obtain ⟨rfl, rfl⟩ := hw2
  have hP : va_P D vwCl [(g, .inr (8, [.int 0, .int 0, .ref g2, .ref g3, .ref g4, .ref g5, .ref g6, .ref g7, .ref g8, .ref g9, .ref g10, .int 0, .ref g12, .ref g13, .int 0, .ref g15, .ref g16, .ref g17, .int 0, .ref g19, .ref g20, .ref g21, .ref g22, .ref g23, .ref g24, .ref g25, .ref g26, .ref g27, .ref g28, .int 0, .int 0, .int 0, .int 0, .ref g33, .ref g34, .ref g35, .ref g36, .ref g37, .ref g38, .ref g39, .int 0, .ref g41, .ref g42, .int 0, .ref g44, .ref g45]))] H := hP
  have hD : va_D A [(g, .inr (8, [.int 0, .int 0, .ref g2, .ref g3, .ref g4, .ref g5, .ref g6, .ref g7, .ref g8, .ref g9, .ref g10, .int 0, .ref g12, .ref g13, .int 0, .ref g15, .ref g16, .ref g17, .int 0, .ref g19, .ref g20, .ref g21, .ref g22, .ref g23, .ref g24, .ref g25, .ref g26, .ref g27, .ref g28, .int 0, .int 0, .int 0, .int 0, .ref g33, .ref g34, .ref g35, .ref g36, .ref g37, .ref g38, .ref g39, .int 0, .ref g41, .ref g42, .int 0, .ref g44, .ref g45]))] := hD
  refine lv_if_ne (tgt := 11) hx hb dX8_other_6 (by decide) (fun c3 => absurd rfl c3) (fun _ => ?_)
  refine lv_iconst (v := (-1)) hx hb dX8_other_9 (by decide) ?_
  refine k_iret (u := []) hx hb hr hlk (k_sub hP [] rfl) (hD.sub [] (by decide) rfl) hS dX8_other_10 ?_
  exact ⟨rfl, rfl⟩
theorem dX8_set_0 : decode cX8_set 0 = .ok (.aload_n 0, 1) := by decide +kernel
theorem dX8_set_1 : decode cX8_set 1 = .ok (.iconst 0, 1) := by decide +kernel
theorem dX8_set_2 : decode cX8_set 2 = .ok (.putfield 116, 3) := by decide +kernel
theorem dX8_set_5 : decode cX8_set 5 = .ok (.aload_n 0, 1) := by decide +kernel
theorem dX8_set_6 : decode cX8_set 6 = .ok (.iload_n 1, 1) := by decide +kernel
theorem dX8_set_7 : decode cX8_set 7 = .ok (.invokevirtual 252, 3) := by decide +kernel
theorem dX8_set_10 : decode cX8_set 10 = .ok (.ifCond .eq 26, 3) := by decide +kernel
theorem dX8_set_36 : decode cX8_set 36 = .ok (.iconst (-1), 1) := by decide +kernel
theorem dX8_set_37 : decode cX8_set 37 = .ok (.ireturn, 1) := by decide +kernel
set_option maxRecDepth 20000 in
theorem ggX8_set_X8_isLoss : GoodIn wsX8_set wsX8_isLoss := goodIn_r _ [6, 7, 8, 9, 5, 10, 110, 111, 112, 113, 114, 115, 116, 117, 118, 119, 120, 121, 122, 123, 124, 125, 126, 127, 128, 129, 130, 131, 132, 133, 134, 135, 136, 137, 138, 139, 140, 141, 142, 143, 144, 145, 146, 147, 148, 149, 150, 151, 152, 153, 154, 155] (by decide +kernel) (by decide +kernel)
set_option maxRecDepth 20000 in
theorem gX8_set_X8_isLoss : GoodIn wsX8_set (wsV RX8 252 RX8 yX8_isLoss wsX8_isLoss) := goodIn_app (goodIn_of _ (by decide +kernel)) ggX8_set_X8_isLoss
set_option maxHeartbeats 4000000 in
set_option maxRecDepth 100000 in
theorem f_X8_set (l : Launch) (D : va_G) (cI cJ : ClassId) (sz : Nat) (g g2 g3 g4 g5 g6 g7 g8 g9 g10 g12 g13 g15 g16 g17 g19 g20 g21 g22 g23 g24 g25 g26 g27 g28 g33 g34 g35 g36 g37 g38 g39 g41 g42 g44 g45 : Nat) (p0 p1 : Int32) : Met l yX8_set wsX8_set { frames := 2, cells := 0, slots := 0, locals := 46 } (cPc D cI cJ [.ref g, .int p0, .int p1] sz [(g, .inr (8, [.int 0, .int 0, .ref g2, .ref g3, .ref g4, .ref g5, .ref g6, .ref g7, .ref g8, .ref g9, .ref g10, .int 0, .ref g12, .ref g13, .int 0, .ref g15, .ref g16, .ref g17, .int 0, .ref g19, .ref g20, .ref g21, .ref g22, .ref g23, .ref g24, .ref g25, .ref g26, .ref g27, .ref g28, .int 0, .int 0, .int 0, .int 0, .ref g33, .ref g34, .ref g35, .ref g36, .ref g37, .ref g38, .ref g39, .int 0, .ref g41, .ref g42, .int 0, .ref g44, .ref g45]))]) (cQi D (fun r u => r = -1 ∧ u = []) (va_A [(g, .inr (8, [.int 0, .int 0, .ref g2, .ref g3, .ref g4, .ref g5, .ref g6, .ref g7, .ref g8, .ref g9, .ref g10, .int 0, .ref g12, .ref g13, .int 0, .ref g15, .ref g16, .ref g17, .int 0, .ref g19, .ref g20, .ref g21, .ref g22, .ref g23, .ref g24, .ref g25, .ref g26, .ref g27, .ref g28, .int 0, .int 0, .int 0, .int 0, .ref g33, .ref g34, .ref g35, .ref g36, .ref g37, .ref g38, .ref g39, .int 0, .ref g41, .ref g42, .int 0, .ref g44, .ref g45]))] sz)) 0 0 (va_A [(g, .inr (8, [.int 0, .int 0, .ref g2, .ref g3, .ref g4, .ref g5, .ref g6, .ref g7, .ref g8, .ref g9, .ref g10, .int 0, .ref g12, .ref g13, .int 0, .ref g15, .ref g16, .ref g17, .int 0, .ref g19, .ref g20, .ref g21, .ref g22, .ref g23, .ref g24, .ref g25, .ref g26, .ref g27, .ref g28, .int 0, .int 0, .int 0, .int 0, .ref g33, .ref g34, .ref g35, .ref g36, .ref g37, .ref g38, .ref g39, .int 0, .ref g41, .ref g42, .int 0, .ref g44, .ref g45]))] sz) := by
  refine k_ofW (Qc := cQi D (fun r u => r = -1 ∧ u = [])) (by decide) rfl (Nat.le_of_ble_eq_true rfl) ?_
  intro p e s m below meth c A ls hx hb hr hml hts hown hlk hnm hsz hE hP hD hS hA hl
  have hown : s.vm.findClass RX8 = some m.cls := hown
  have hiX8 : ∀ w ∈ u_ws RX8 TX8 46, w ∈ wsX8_set := fun w h => List.mem_cons_of_mem _ (List.mem_append_right _ h)
  have hl : lv_has ls 3 [(0, .ref g), (1, .int p0), (2, .int p1)] := hl
  refine lv_aload_n hx hb dX8_set_0 rfl (lv_at hl 0 rfl) ?_
  refine lv_iconst (v := 0) hx hb dX8_set_1 (by decide) ?_
  refine va_put (D := D) (ci := 8) (v := .int 0) (ty := .int) (C := RX8) (T := TX8) (N := 46) hx hb hts hiX8 tyX8 tyX8_ok nmX8 hown hE.1 hP hD hS 0 rfl rfl 0 (by decide) (hts _ (List.mem_of_getElem? (i := 1) rfl)) (fun _ h9 => h9) rfl (by decide +kernel) rfl rfl (Nat.le_of_ble_eq_true rfl) dX8_set_2 (fun H locs hP hD hS => ?_)
  have hP : va_P D vwCl [(g, .inr (8, [.int 0, .int 0, .ref g2, .ref g3, .ref g4, .ref g5, .ref g6, .ref g7, .ref g8, .ref g9, .ref g10, .int 0, .ref g12, .ref g13, .int 0, .ref g15, .ref g16, .ref g17, .int 0, .ref g19, .ref g20, .ref g21, .ref g22, .ref g23, .ref g24, .ref g25, .ref g26, .ref g27, .ref g28, .int 0, .int 0, .int 0, .int 0, .ref g33, .ref g34, .ref g35, .ref g36, .ref g37, .ref g38, .ref g39, .int 0, .ref g41, .ref g42, .int 0, .ref g44, .ref g45]))] H := hP
  have hD : va_D A [(g, .inr (8, [.int 0, .int 0, .ref g2, .ref g3, .ref g4, .ref g5, .ref g6, .ref g7, .ref g8, .ref g9, .ref g10, .int 0, .ref g12, .ref g13, .int 0, .ref g15, .ref g16, .ref g17, .int 0, .ref g19, .ref g20, .ref g21, .ref g22, .ref g23, .ref g24, .ref g25, .ref g26, .ref g27, .ref g28, .int 0, .int 0, .int 0, .int 0, .ref g33, .ref g34, .ref g35, .ref g36, .ref g37, .ref g38, .ref g39, .int 0, .ref g41, .ref g42, .int 0, .ref g44, .ref g45]))] := hD
  refine lv_aload_n hx hb dX8_set_5 rfl (lv_at hl 0 rfl) ?_
  refine lv_iload_n hx hb dX8_set_6 rfl (lv_at hl 1 rfl) ?_
  refine k_i (va_runV (As := [.int p0]) (rest := []) ⟨hx, hb, hml, hown, hts⟩ (f_X8_isLoss l D cI cJ H.size g g2 g3 g4 g5 g6 g7 g8 g9 g10 g12 g13 g15 g16 g17 g19 g20 g21 g22 g23 g24 g25 g26 g27 g28 g33 g34 g35 g36 g37 g38 g39 g41 g42 g44 g45 p0) (cwV 1 hts gX8_set_X8_isLoss rfl rfl rfl (by decide +kernel) ⟨Nat.le_of_ble_eq_true rfl, Nat.le_of_ble_eq_true rfl⟩) (k_preV hE hP hD [0] (by decide) rfl 0 rfl rfl) rfl rfl hl.1 rfl (lv_room (Nat.le_of_ble_eq_true rfl)) dX8_set_7 ⟨Nat.le_of_ble_eq_true rfl, Nat.le_of_ble_eq_true rfl⟩) hP hD hS hA [0] [] rfl (wr := []) rfl (by decide) (by decide) (fun r1 u H locs hw2 hP hD hS => ?_)
  obtain ⟨rfl, rfl⟩ := hw2
  have hP : va_P D vwCl [(g, .inr (8, [.int 0, .int 0, .ref g2, .ref g3, .ref g4, .ref g5, .ref g6, .ref g7, .ref g8, .ref g9, .ref g10, .int 0, .ref g12, .ref g13, .int 0, .ref g15, .ref g16, .ref g17, .int 0, .ref g19, .ref g20, .ref g21, .ref g22, .ref g23, .ref g24, .ref g25, .ref g26, .ref g27, .ref g28, .int 0, .int 0, .int 0, .int 0, .ref g33, .ref g34, .ref g35, .ref g36, .ref g37, .ref g38, .ref g39, .int 0, .ref g41, .ref g42, .int 0, .ref g44, .ref g45]))] H := hP
  have hD : va_D A [(g, .inr (8, [.int 0, .int 0, .ref g2, .ref g3, .ref g4, .ref g5, .ref g6, .ref g7, .ref g8, .ref g9, .ref g10, .int 0, .ref g12, .ref g13, .int 0, .ref g15, .ref g16, .ref g17, .int 0, .ref g19, .ref g20, .ref g21, .ref g22, .ref g23, .ref g24, .ref g25, .ref g26, .ref g27, .ref g28, .int 0, .int 0, .int 0, .int 0, .ref g33, .ref g34, .ref g35, .ref g36, .ref g37, .ref g38, .ref g39, .int 0, .ref g41, .ref g42, .int 0, .ref g44, .ref g45]))] := hD
  refine lv_if_eq (tgt := 36) hx hb dX8_set_10 (by decide) (fun _ => ?_) (fun c3 => absurd (by decide) c3)
  refine lv_iconst (v := (-1)) hx hb dX8_set_36 (by decide) ?_
  refine k_iret (u := []) hx hb hr hlk (k_sub hP [] rfl) (hD.sub [] (by decide) rfl) hS dX8_set_37 ?_
  exact ⟨rfl, rfl⟩
theorem dX8_shapley_0 : decode cX8_shapley 0 = .ok (.aload_n 0, 1) := by decide +kernel
theorem dX8_shapley_1 : decode cX8_shapley 1 = .ok (.iload_n 1, 1) := by decide +kernel
theorem dX8_shapley_2 : decode cX8_shapley 2 = .ok (.iload_n 2, 1) := by decide +kernel
theorem dX8_shapley_3 : decode cX8_shapley 3 = .ok (.invokevirtual 264, 3) := by decide +kernel
theorem dX8_shapley_6 : decode cX8_shapley 6 = .ok (.ifCond .ne 7, 3) := by decide +kernel
theorem dX8_shapley_9 : decode cX8_shapley 9 = .ok (.ldc2_w 149, 3) := by decide +kernel
theorem dX8_shapley_12 : decode cX8_shapley 12 = .ok (.lreturn, 1) := by decide +kernel
set_option maxRecDepth 20000 in
theorem ggX8_shapley_X8_isBoth : GoodIn wsX8_shapley wsX8_isBoth := goodIn_r _ [7, 8, 9, 10, 11, 6, 12, 13, 14, 15, 16, 17, 18, 19, 20, 2, 21, 22, 23, 24, 25, 26, 27, 28, 29, 30, 31, 32, 33, 34, 35, 36, 37, 38, 39, 40, 41, 42, 43, 44, 45, 46, 47, 48, 49, 50, 51, 52, 53, 54, 55, 56, 57, 58, 59, 60, 61, 62, 63, 64, 65, 66, 67, 68, 69, 70, 71, 72, 73, 74, 75, 76, 77, 78, 79, 80, 81, 82, 83, 84, 85, 86, 87, 88, 89, 90, 91, 92, 93, 94, 95, 96, 97, 98, 99, 100, 101, 1, 102, 103, 104, 105, 106, 107, 108, 109, 110, 111, 112, 113, 124, 125, 126, 127, 128, 129, 130, 131, 132, 133, 134, 135, 136, 137, 138, 139, 140, 141, 142, 143, 144, 145, 146, 147, 148, 149, 150, 151, 152, 153, 154, 155, 156, 157, 158, 159, 160, 161, 162, 163, 164, 165, 166, 167, 168, 169] (by decide +kernel) (by decide +kernel)
set_option maxRecDepth 20000 in
theorem gX8_shapley_X8_isBoth : GoodIn wsX8_shapley (wsV RX8 264 RX8 yX8_isBoth wsX8_isBoth) := goodIn_app (goodIn_of _ (by decide +kernel)) ggX8_shapley_X8_isBoth
set_option maxHeartbeats 4000000 in
set_option maxRecDepth 100000 in
theorem f_X8_shapley (l : Launch) (D : va_G) (cI cJ : ClassId) (sz : Nat) (g g2 g3 g4 g5 g6 g7 g8 g9 g10 g12 g13 g15 g16 g17 g19 g20 g21 g22 g23 g24 g25 g26 g27 g28 g33 g34 g35 g36 g37 g38 g39 g41 g42 g44 g45 : Nat) (p0 p1 : Int32) : Met l yX8_shapley wsX8_shapley { frames := 3, cells := 0, slots := 0, locals := 68 } (cPc D cI cJ [.ref g, .int p0, .int p1] sz [(g, .inr (8, [.int 0, .int 0, .ref g2, .ref g3, .ref g4, .ref g5, .ref g6, .ref g7, .ref g8, .ref g9, .ref g10, .int 0, .ref g12, .ref g13, .int 0, .ref g15, .ref g16, .ref g17, .int 0, .ref g19, .ref g20, .ref g21, .ref g22, .ref g23, .ref g24, .ref g25, .ref g26, .ref g27, .ref g28, .int 0, .int 0, .int 0, .int 0, .ref g33, .ref g34, .ref g35, .ref g36, .ref g37, .ref g38, .ref g39, .int 0, .ref g41, .ref g42, .int 0, .ref g44, .ref g45]))]) (cQl D (fun r u => r = -1 ∧ u = []) (va_A [(g, .inr (8, [.int 0, .int 0, .ref g2, .ref g3, .ref g4, .ref g5, .ref g6, .ref g7, .ref g8, .ref g9, .ref g10, .int 0, .ref g12, .ref g13, .int 0, .ref g15, .ref g16, .ref g17, .int 0, .ref g19, .ref g20, .ref g21, .ref g22, .ref g23, .ref g24, .ref g25, .ref g26, .ref g27, .ref g28, .int 0, .int 0, .int 0, .int 0, .ref g33, .ref g34, .ref g35, .ref g36, .ref g37, .ref g38, .ref g39, .int 0, .ref g41, .ref g42, .int 0, .ref g44, .ref g45]))] sz)) 0 0 (va_A [(g, .inr (8, [.int 0, .int 0, .ref g2, .ref g3, .ref g4, .ref g5, .ref g6, .ref g7, .ref g8, .ref g9, .ref g10, .int 0, .ref g12, .ref g13, .int 0, .ref g15, .ref g16, .ref g17, .int 0, .ref g19, .ref g20, .ref g21, .ref g22, .ref g23, .ref g24, .ref g25, .ref g26, .ref g27, .ref g28, .int 0, .int 0, .int 0, .int 0, .ref g33, .ref g34, .ref g35, .ref g36, .ref g37, .ref g38, .ref g39, .int 0, .ref g41, .ref g42, .int 0, .ref g44, .ref g45]))] sz) := by
  refine k_ofW (Qc := cQl D (fun r u => r = -1 ∧ u = [])) (by decide) rfl (Nat.le_of_ble_eq_true rfl) ?_
  intro p e s m below meth c A ls hx hb hr hml hts hown hlk hnm hsz hE hP hD hS hA hl
  have hown : s.vm.findClass RX8 = some m.cls := hown
  have hl : lv_has ls 7 [(0, .ref g), (1, .int p0), (2, .int p1)] := hl
  refine lv_aload_n hx hb dX8_shapley_0 rfl (lv_at hl 0 rfl) ?_
  refine lv_iload_n hx hb dX8_shapley_1 rfl (lv_at hl 1 rfl) ?_
  refine lv_iload_n hx hb dX8_shapley_2 rfl (lv_at hl 2 rfl) ?_
  refine k_i (va_runV (As := [.int p0, .int p1]) (rest := []) ⟨hx, hb, hml, hown, hts⟩ (f_X8_isBoth l D cI cJ (s.heap).size g g2 g3 g4 g5 g6 g7 g8 g9 g10 g12 g13 g15 g16 g17 g19 g20 g21 g22 g23 g24 g25 g26 g27 g28 g33 g34 g35 g36 g37 g38 g39 g41 g42 g44 g45 p0 p1) (cwV 2 hts gX8_shapley_X8_isBoth rfl rfl rfl (by decide +kernel) ⟨Nat.le_of_ble_eq_true rfl, Nat.le_of_ble_eq_true rfl⟩) (k_preV hE hP hD [0] (by decide) rfl 0 rfl rfl) rfl rfl hl.1 rfl (lv_room (Nat.le_of_ble_eq_true rfl)) dX8_shapley_3 ⟨Nat.le_of_ble_eq_true rfl, Nat.le_of_ble_eq_true rfl⟩) hP hD hS hA [0] [] rfl (wr := []) rfl (by decide) (by decide) (fun r1 u H locs hw2 hP hD hS => ?_)
  obtain ⟨rfl, rfl⟩ := hw2
  have hP : va_P D vwCl [(g, .inr (8, [.int 0, .int 0, .ref g2, .ref g3, .ref g4, .ref g5, .ref g6, .ref g7, .ref g8, .ref g9, .ref g10, .int 0, .ref g12, .ref g13, .int 0, .ref g15, .ref g16, .ref g17, .int 0, .ref g19, .ref g20, .ref g21, .ref g22, .ref g23, .ref g24, .ref g25, .ref g26, .ref g27, .ref g28, .int 0, .int 0, .int 0, .int 0, .ref g33, .ref g34, .ref g35, .ref g36, .ref g37, .ref g38, .ref g39, .int 0, .ref g41, .ref g42, .int 0, .ref g44, .ref g45]))] H := hP
  have hD : va_D A [(g, .inr (8, [.int 0, .int 0, .ref g2, .ref g3, .ref g4, .ref g5, .ref g6, .ref g7, .ref g8, .ref g9, .ref g10, .int 0, .ref g12, .ref g13, .int 0, .ref g15, .ref g16, .ref g17, .int 0, .ref g19, .ref g20, .ref g21, .ref g22, .ref g23, .ref g24, .ref g25, .ref g26, .ref g27, .ref g28, .int 0, .int 0, .int 0, .int 0, .ref g33, .ref g34, .ref g35, .ref g36, .ref g37, .ref g38, .ref g39, .int 0, .ref g41, .ref g42, .int 0, .ref g44, .ref g45]))] := hD
  refine lv_if_ne (tgt := 13) hx hb dX8_shapley_6 (by decide) (fun c3 => absurd rfl c3) (fun _ => ?_)
  refine lv_ldc2 (v := (-1)) hx hb hown (hts _ (List.mem_of_getElem? (i := 1) rfl)) dX8_shapley_9 ?_
  refine k_lret (u := []) hx hb hr hlk (k_sub hP [] rfl) (hD.sub [] (by decide) rfl) hS dX8_shapley_12 ?_
  exact ⟨rfl, rfl⟩
theorem dX8_ringless_0 : decode cX8_ringless 0 = .ok (.aload_n 0, 1) := by decide +kernel
theorem dX8_ringless_1 : decode cX8_ringless 1 = .ok (.iconst 0, 1) := by decide +kernel
theorem dX8_ringless_2 : decode cX8_ringless 2 = .ok (.putfield 116, 3) := by decide +kernel
theorem dX8_ringless_5 : decode cX8_ringless 5 = .ok (.aload_n 0, 1) := by decide +kernel
theorem dX8_ringless_6 : decode cX8_ringless 6 = .ok (.iload_n 1, 1) := by decide +kernel
theorem dX8_ringless_7 : decode cX8_ringless 7 = .ok (.invokevirtual 252, 3) := by decide +kernel
theorem dX8_ringless_10 : decode cX8_ringless 10 = .ok (.ifCond .ne 5, 3) := by decide +kernel
theorem dX8_ringless_13 : decode cX8_ringless 13 = .ok (.iconst (-1), 1) := by decide +kernel
theorem dX8_ringless_14 : decode cX8_ringless 14 = .ok (.ireturn, 1) := by decide +kernel
set_option maxRecDepth 20000 in
theorem ggX8_ringless_X8_isLoss : GoodIn wsX8_ringless wsX8_isLoss := goodIn_r _ [8, 9, 10, 11, 7, 12, 114, 115, 116, 117, 118, 119, 120, 121, 122, 123, 124, 125, 126, 127, 128, 129, 130, 131, 132, 133, 134, 135, 136, 137, 138, 139, 140, 141, 142, 143, 144, 145, 146, 147, 148, 149, 150, 151, 152, 153, 154, 155, 156, 157, 158, 159] (by decide +kernel) (by decide +kernel)
set_option maxRecDepth 20000 in
theorem gX8_ringless_X8_isLoss : GoodIn wsX8_ringless (wsV RX8 252 RX8 yX8_isLoss wsX8_isLoss) := goodIn_app (goodIn_of _ (by decide +kernel)) ggX8_ringless_X8_isLoss
set_option maxHeartbeats 4000000 in
set_option maxRecDepth 100000 in
theorem f_X8_ringless (l : Launch) (D : va_G) (cI cJ : ClassId) (sz : Nat) (g g2 g3 g4 g5 g6 g7 g8 g9 g10 g12 g13 g15 g16 g17 g19 g20 g21 g22 g23 g24 g25 g26 g27 g28 g33 g34 g35 g36 g37 g38 g39 g41 g42 g44 g45 : Nat) (p0 p1 : Int32) : Met l yX8_ringless wsX8_ringless { frames := 2, cells := 0, slots := 0, locals := 46 } (cPc D cI cJ [.ref g, .int p0, .int p1] sz [(g, .inr (8, [.int 0, .int 0, .ref g2, .ref g3, .ref g4, .ref g5, .ref g6, .ref g7, .ref g8, .ref g9, .ref g10, .int 0, .ref g12, .ref g13, .int 0, .ref g15, .ref g16, .ref g17, .int 0, .ref g19, .ref g20, .ref g21, .ref g22, .ref g23, .ref g24, .ref g25, .ref g26, .ref g27, .ref g28, .int 0, .int 0, .int 0, .int 0, .ref g33, .ref g34, .ref g35, .ref g36, .ref g37, .ref g38, .ref g39, .int 0, .ref g41, .ref g42, .int 0, .ref g44, .ref g45]))]) (cQi D (fun r u => r = -1 ∧ u = []) (va_A [(g, .inr (8, [.int 0, .int 0, .ref g2, .ref g3, .ref g4, .ref g5, .ref g6, .ref g7, .ref g8, .ref g9, .ref g10, .int 0, .ref g12, .ref g13, .int 0, .ref g15, .ref g16, .ref g17, .int 0, .ref g19, .ref g20, .ref g21, .ref g22, .ref g23, .ref g24, .ref g25, .ref g26, .ref g27, .ref g28, .int 0, .int 0, .int 0, .int 0, .ref g33, .ref g34, .ref g35, .ref g36, .ref g37, .ref g38, .ref g39, .int 0, .ref g41, .ref g42, .int 0, .ref g44, .ref g45]))] sz)) 0 0 (va_A [(g, .inr (8, [.int 0, .int 0, .ref g2, .ref g3, .ref g4, .ref g5, .ref g6, .ref g7, .ref g8, .ref g9, .ref g10, .int 0, .ref g12, .ref g13, .int 0, .ref g15, .ref g16, .ref g17, .int 0, .ref g19, .ref g20, .ref g21, .ref g22, .ref g23, .ref g24, .ref g25, .ref g26, .ref g27, .ref g28, .int 0, .int 0, .int 0, .int 0, .ref g33, .ref g34, .ref g35, .ref g36, .ref g37, .ref g38, .ref g39, .int 0, .ref g41, .ref g42, .int 0, .ref g44, .ref g45]))] sz) := by
  refine k_ofW (Qc := cQi D (fun r u => r = -1 ∧ u = [])) (by decide) rfl (Nat.le_of_ble_eq_true rfl) ?_
  intro p e s m below meth c A ls hx hb hr hml hts hown hlk hnm hsz hE hP hD hS hA hl
  have hown : s.vm.findClass RX8 = some m.cls := hown
  have hiX8 : ∀ w ∈ u_ws RX8 TX8 46, w ∈ wsX8_ringless := fun w h => List.mem_cons_of_mem _ (List.mem_append_right _ h)
  have hl : lv_has ls 5 [(0, .ref g), (1, .int p0), (2, .int p1)] := hl
  refine lv_aload_n hx hb dX8_ringless_0 rfl (lv_at hl 0 rfl) ?_
  refine lv_iconst (v := 0) hx hb dX8_ringless_1 (by decide) ?_
  refine va_put (D := D) (ci := 8) (v := .int 0) (ty := .int) (C := RX8) (T := TX8) (N := 46) hx hb hts hiX8 tyX8 tyX8_ok nmX8 hown hE.1 hP hD hS 0 rfl rfl 0 (by decide) (hts _ (List.mem_of_getElem? (i := 1) rfl)) (fun _ h9 => h9) rfl (by decide +kernel) rfl rfl (Nat.le_of_ble_eq_true rfl) dX8_ringless_2 (fun H locs hP hD hS => ?_)
  have hP : va_P D vwCl [(g, .inr (8, [.int 0, .int 0, .ref g2, .ref g3, .ref g4, .ref g5, .ref g6, .ref g7, .ref g8, .ref g9, .ref g10, .int 0, .ref g12, .ref g13, .int 0, .ref g15, .ref g16, .ref g17, .int 0, .ref g19, .ref g20, .ref g21, .ref g22, .ref g23, .ref g24, .ref g25, .ref g26, .ref g27, .ref g28, .int 0, .int 0, .int 0, .int 0, .ref g33, .ref g34, .ref g35, .ref g36, .ref g37, .ref g38, .ref g39, .int 0, .ref g41, .ref g42, .int 0, .ref g44, .ref g45]))] H := hP
  have hD : va_D A [(g, .inr (8, [.int 0, .int 0, .ref g2, .ref g3, .ref g4, .ref g5, .ref g6, .ref g7, .ref g8, .ref g9, .ref g10, .int 0, .ref g12, .ref g13, .int 0, .ref g15, .ref g16, .ref g17, .int 0, .ref g19, .ref g20, .ref g21, .ref g22, .ref g23, .ref g24, .ref g25, .ref g26, .ref g27, .ref g28, .int 0, .int 0, .int 0, .int 0, .ref g33, .ref g34, .ref g35, .ref g36, .ref g37, .ref g38, .ref g39, .int 0, .ref g41, .ref g42, .int 0, .ref g44, .ref g45]))] := hD
  refine lv_aload_n hx hb dX8_ringless_5 rfl (lv_at hl 0 rfl) ?_
  refine lv_iload_n hx hb dX8_ringless_6 rfl (lv_at hl 1 rfl) ?_
  refine k_i (va_runV (As := [.int p0]) (rest := []) ⟨hx, hb, hml, hown, hts⟩ (f_X8_isLoss l D cI cJ H.size g g2 g3 g4 g5 g6 g7 g8 g9 g10 g12 g13 g15 g16 g17 g19 g20 g21 g22 g23 g24 g25 g26 g27 g28 g33 g34 g35 g36 g37 g38 g39 g41 g42 g44 g45 p0) (cwV 1 hts gX8_ringless_X8_isLoss rfl rfl rfl (by decide +kernel) ⟨Nat.le_of_ble_eq_true rfl, Nat.le_of_ble_eq_true rfl⟩) (k_preV hE hP hD [0] (by decide) rfl 0 rfl rfl) rfl rfl hl.1 rfl (lv_room (Nat.le_of_ble_eq_true rfl)) dX8_ringless_7 ⟨Nat.le_of_ble_eq_true rfl, Nat.le_of_ble_eq_true rfl⟩) hP hD hS hA [0] [] rfl (wr := []) rfl (by decide) (by decide) (fun r1 u H locs hw2 hP hD hS => ?_)
  obtain ⟨rfl, rfl⟩ := hw2
  have hP : va_P D vwCl [(g, .inr (8, [.int 0, .int 0, .ref g2, .ref g3, .ref g4, .ref g5, .ref g6, .ref g7, .ref g8, .ref g9, .ref g10, .int 0, .ref g12, .ref g13, .int 0, .ref g15, .ref g16, .ref g17, .int 0, .ref g19, .ref g20, .ref g21, .ref g22, .ref g23, .ref g24, .ref g25, .ref g26, .ref g27, .ref g28, .int 0, .int 0, .int 0, .int 0, .ref g33, .ref g34, .ref g35, .ref g36, .ref g37, .ref g38, .ref g39, .int 0, .ref g41, .ref g42, .int 0, .ref g44, .ref g45]))] H := hP
  have hD : va_D A [(g, .inr (8, [.int 0, .int 0, .ref g2, .ref g3, .ref g4, .ref g5, .ref g6, .ref g7, .ref g8, .ref g9, .ref g10, .int 0, .ref g12, .ref g13, .int 0, .ref g15, .ref g16, .ref g17, .int 0, .ref g19, .ref g20, .ref g21, .ref g22, .ref g23, .ref g24, .ref g25, .ref g26, .ref g27, .ref g28, .int 0, .int 0, .int 0, .int 0, .ref g33, .ref g34, .ref g35, .ref g36, .ref g37, .ref g38, .ref g39, .int 0, .ref g41, .ref g42, .int 0, .ref g44, .ref g45]))] := hD
  refine lv_if_ne (tgt := 15) hx hb dX8_ringless_10 (by decide) (fun c3 => absurd rfl c3) (fun _ => ?_)
  refine lv_iconst (v := (-1)) hx hb dX8_ringless_13 (by decide) ?_
  refine k_iret (u := []) hx hb hr hlk (k_sub hP [] rfl) (hD.sub [] (by decide) rfl) hS dX8_ringless_14 ?_
  exact ⟨rfl, rfl⟩
theorem dX8_fewest_0 : decode cX8_fewest 0 = .ok (.aload_n 0, 1) := by decide +kernel
theorem dX8_fewest_1 : decode cX8_fewest 1 = .ok (.iconst 0, 1) := by decide +kernel
theorem dX8_fewest_2 : decode cX8_fewest 2 = .ok (.putfield 116, 3) := by decide +kernel
theorem dX8_fewest_5 : decode cX8_fewest 5 = .ok (.aload_n 0, 1) := by decide +kernel
theorem dX8_fewest_6 : decode cX8_fewest 6 = .ok (.iload_n 1, 1) := by decide +kernel
theorem dX8_fewest_7 : decode cX8_fewest 7 = .ok (.invokevirtual 252, 3) := by decide +kernel
theorem dX8_fewest_10 : decode cX8_fewest 10 = .ok (.ifCond .ne 5, 3) := by decide +kernel
theorem dX8_fewest_13 : decode cX8_fewest 13 = .ok (.iconst (-1), 1) := by decide +kernel
theorem dX8_fewest_14 : decode cX8_fewest 14 = .ok (.ireturn, 1) := by decide +kernel
set_option maxRecDepth 20000 in
theorem ggX8_fewest_X8_isLoss : GoodIn wsX8_fewest wsX8_isLoss := goodIn_r _ [11, 12, 13, 14, 10, 15, 109, 110, 111, 112, 113, 114, 115, 116, 117, 118, 119, 120, 121, 122, 123, 124, 125, 126, 127, 128, 129, 130, 131, 132, 133, 134, 135, 136, 137, 138, 139, 140, 141, 142, 143, 144, 145, 146, 147, 148, 149, 150, 151, 152, 153, 154] (by decide +kernel) (by decide +kernel)
set_option maxRecDepth 20000 in
theorem gX8_fewest_X8_isLoss : GoodIn wsX8_fewest (wsV RX8 252 RX8 yX8_isLoss wsX8_isLoss) := goodIn_app (goodIn_of _ (by decide +kernel)) ggX8_fewest_X8_isLoss
set_option maxHeartbeats 4000000 in
set_option maxRecDepth 100000 in
theorem f_X8_fewest (l : Launch) (D : va_G) (cI cJ : ClassId) (sz : Nat) (g g2 g3 g4 g5 g6 g7 g8 g9 g10 g12 g13 g15 g16 g17 g19 g20 g21 g22 g23 g24 g25 g26 g27 g28 g33 g34 g35 g36 g37 g38 g39 g41 g42 g44 g45 : Nat) (p0 p1 : Int32) : Met l yX8_fewest wsX8_fewest { frames := 2, cells := 0, slots := 0, locals := 46 } (cPc D cI cJ [.ref g, .int p0, .int p1] sz [(g, .inr (8, [.int 0, .int 0, .ref g2, .ref g3, .ref g4, .ref g5, .ref g6, .ref g7, .ref g8, .ref g9, .ref g10, .int 0, .ref g12, .ref g13, .int 0, .ref g15, .ref g16, .ref g17, .int 0, .ref g19, .ref g20, .ref g21, .ref g22, .ref g23, .ref g24, .ref g25, .ref g26, .ref g27, .ref g28, .int 0, .int 0, .int 0, .int 0, .ref g33, .ref g34, .ref g35, .ref g36, .ref g37, .ref g38, .ref g39, .int 0, .ref g41, .ref g42, .int 0, .ref g44, .ref g45]))]) (cQi D (fun r u => r = -1 ∧ u = []) (va_A [(g, .inr (8, [.int 0, .int 0, .ref g2, .ref g3, .ref g4, .ref g5, .ref g6, .ref g7, .ref g8, .ref g9, .ref g10, .int 0, .ref g12, .ref g13, .int 0, .ref g15, .ref g16, .ref g17, .int 0, .ref g19, .ref g20, .ref g21, .ref g22, .ref g23, .ref g24, .ref g25, .ref g26, .ref g27, .ref g28, .int 0, .int 0, .int 0, .int 0, .ref g33, .ref g34, .ref g35, .ref g36, .ref g37, .ref g38, .ref g39, .int 0, .ref g41, .ref g42, .int 0, .ref g44, .ref g45]))] sz)) 0 0 (va_A [(g, .inr (8, [.int 0, .int 0, .ref g2, .ref g3, .ref g4, .ref g5, .ref g6, .ref g7, .ref g8, .ref g9, .ref g10, .int 0, .ref g12, .ref g13, .int 0, .ref g15, .ref g16, .ref g17, .int 0, .ref g19, .ref g20, .ref g21, .ref g22, .ref g23, .ref g24, .ref g25, .ref g26, .ref g27, .ref g28, .int 0, .int 0, .int 0, .int 0, .ref g33, .ref g34, .ref g35, .ref g36, .ref g37, .ref g38, .ref g39, .int 0, .ref g41, .ref g42, .int 0, .ref g44, .ref g45]))] sz) := by
  refine k_ofW (Qc := cQi D (fun r u => r = -1 ∧ u = [])) (by decide) rfl (Nat.le_of_ble_eq_true rfl) ?_
  intro p e s m below meth c A ls hx hb hr hml hts hown hlk hnm hsz hE hP hD hS hA hl
  have hown : s.vm.findClass RX8 = some m.cls := hown
  have hiX8 : ∀ w ∈ u_ws RX8 TX8 46, w ∈ wsX8_fewest := fun w h => List.mem_cons_of_mem _ (List.mem_append_right _ h)
  have hl : lv_has ls 8 [(0, .ref g), (1, .int p0), (2, .int p1)] := hl
  refine lv_aload_n hx hb dX8_fewest_0 rfl (lv_at hl 0 rfl) ?_
  refine lv_iconst (v := 0) hx hb dX8_fewest_1 (by decide) ?_
  refine va_put (D := D) (ci := 8) (v := .int 0) (ty := .int) (C := RX8) (T := TX8) (N := 46) hx hb hts hiX8 tyX8 tyX8_ok nmX8 hown hE.1 hP hD hS 0 rfl rfl 0 (by decide) (hts _ (List.mem_of_getElem? (i := 1) rfl)) (fun _ h9 => h9) rfl (by decide +kernel) rfl rfl (Nat.le_of_ble_eq_true rfl) dX8_fewest_2 (fun H locs hP hD hS => ?_)
  have hP : va_P D vwCl [(g, .inr (8, [.int 0, .int 0, .ref g2, .ref g3, .ref g4, .ref g5, .ref g6, .ref g7, .ref g8, .ref g9, .ref g10, .int 0, .ref g12, .ref g13, .int 0, .ref g15, .ref g16, .ref g17, .int 0, .ref g19, .ref g20, .ref g21, .ref g22, .ref g23, .ref g24, .ref g25, .ref g26, .ref g27, .ref g28, .int 0, .int 0, .int 0, .int 0, .ref g33, .ref g34, .ref g35, .ref g36, .ref g37, .ref g38, .ref g39, .int 0, .ref g41, .ref g42, .int 0, .ref g44, .ref g45]))] H := hP
  have hD : va_D A [(g, .inr (8, [.int 0, .int 0, .ref g2, .ref g3, .ref g4, .ref g5, .ref g6, .ref g7, .ref g8, .ref g9, .ref g10, .int 0, .ref g12, .ref g13, .int 0, .ref g15, .ref g16, .ref g17, .int 0, .ref g19, .ref g20, .ref g21, .ref g22, .ref g23, .ref g24, .ref g25, .ref g26, .ref g27, .ref g28, .int 0, .int 0, .int 0, .int 0, .ref g33, .ref g34, .ref g35, .ref g36, .ref g37, .ref g38, .ref g39, .int 0, .ref g41, .ref g42, .int 0, .ref g44, .ref g45]))] := hD
  refine lv_aload_n hx hb dX8_fewest_5 rfl (lv_at hl 0 rfl) ?_
  refine lv_iload_n hx hb dX8_fewest_6 rfl (lv_at hl 1 rfl) ?_
  refine k_i (va_runV (As := [.int p0]) (rest := []) ⟨hx, hb, hml, hown, hts⟩ (f_X8_isLoss l D cI cJ H.size g g2 g3 g4 g5 g6 g7 g8 g9 g10 g12 g13 g15 g16 g17 g19 g20 g21 g22 g23 g24 g25 g26 g27 g28 g33 g34 g35 g36 g37 g38 g39 g41 g42 g44 g45 p0) (cwV 1 hts gX8_fewest_X8_isLoss rfl rfl rfl (by decide +kernel) ⟨Nat.le_of_ble_eq_true rfl, Nat.le_of_ble_eq_true rfl⟩) (k_preV hE hP hD [0] (by decide) rfl 0 rfl rfl) rfl rfl hl.1 rfl (lv_room (Nat.le_of_ble_eq_true rfl)) dX8_fewest_7 ⟨Nat.le_of_ble_eq_true rfl, Nat.le_of_ble_eq_true rfl⟩) hP hD hS hA [0] [] rfl (wr := []) rfl (by decide) (by decide) (fun r1 u H locs hw2 hP hD hS => ?_)
  obtain ⟨rfl, rfl⟩ := hw2
  have hP : va_P D vwCl [(g, .inr (8, [.int 0, .int 0, .ref g2, .ref g3, .ref g4, .ref g5, .ref g6, .ref g7, .ref g8, .ref g9, .ref g10, .int 0, .ref g12, .ref g13, .int 0, .ref g15, .ref g16, .ref g17, .int 0, .ref g19, .ref g20, .ref g21, .ref g22, .ref g23, .ref g24, .ref g25, .ref g26, .ref g27, .ref g28, .int 0, .int 0, .int 0, .int 0, .ref g33, .ref g34, .ref g35, .ref g36, .ref g37, .ref g38, .ref g39, .int 0, .ref g41, .ref g42, .int 0, .ref g44, .ref g45]))] H := hP
  have hD : va_D A [(g, .inr (8, [.int 0, .int 0, .ref g2, .ref g3, .ref g4, .ref g5, .ref g6, .ref g7, .ref g8, .ref g9, .ref g10, .int 0, .ref g12, .ref g13, .int 0, .ref g15, .ref g16, .ref g17, .int 0, .ref g19, .ref g20, .ref g21, .ref g22, .ref g23, .ref g24, .ref g25, .ref g26, .ref g27, .ref g28, .int 0, .int 0, .int 0, .int 0, .ref g33, .ref g34, .ref g35, .ref g36, .ref g37, .ref g38, .ref g39, .int 0, .ref g41, .ref g42, .int 0, .ref g44, .ref g45]))] := hD
  refine lv_if_ne (tgt := 15) hx hb dX8_fewest_10 (by decide) (fun c3 => absurd rfl c3) (fun _ => ?_)
  refine lv_iconst (v := (-1)) hx hb dX8_fewest_13 (by decide) ?_
  refine k_iret (u := []) hx hb hr hlk (k_sub hP [] rfl) (hD.sub [] (by decide) rfl) hS dX8_fewest_14 ?_
  exact ⟨rfl, rfl⟩
theorem dX8_moved_0 : decode cX8_moved 0 = .ok (.aload_n 0, 1) := by decide +kernel
theorem dX8_moved_1 : decode cX8_moved 1 = .ok (.iload_n 1, 1) := by decide +kernel
theorem dX8_moved_2 : decode cX8_moved 2 = .ok (.iload_n 2, 1) := by decide +kernel
theorem dX8_moved_3 : decode cX8_moved 3 = .ok (.invokevirtual 264, 3) := by decide +kernel
theorem dX8_moved_6 : decode cX8_moved 6 = .ok (.ifCond .eq 15, 3) := by decide +kernel
theorem dX8_moved_21 : decode cX8_moved 21 = .ok (.iconst (-1), 1) := by decide +kernel
theorem dX8_moved_22 : decode cX8_moved 22 = .ok (.ireturn, 1) := by decide +kernel
set_option maxRecDepth 20000 in
theorem ggX8_moved_X8_isBoth : GoodIn wsX8_moved wsX8_isBoth := goodIn_r _ [9, 10, 11, 12, 13, 8, 14, 15, 16, 17, 18, 19, 20, 21, 22, 23, 24, 25, 26, 27, 28, 29, 30, 31, 32, 33, 34, 35, 36, 37, 38, 39, 40, 41, 42, 43, 44, 45, 3, 46, 47, 48, 49, 50, 51, 52, 53, 54, 55, 56, 57, 58, 59, 60, 61, 62, 63, 64, 65, 66, 67, 68, 69, 4, 70, 71, 72, 73, 74, 75, 76, 77, 78, 79, 80, 81, 82, 83, 84, 85, 86, 87, 88, 89, 90, 91, 92, 93, 94, 95, 96, 97, 98, 99, 100, 101, 102, 103, 104, 105, 106, 107, 108, 109, 110, 111, 112, 113, 114, 115, 116, 117, 118, 119, 120, 121, 122, 123, 124, 125, 126, 127, 128, 129, 130, 131, 132, 133, 134, 135, 136, 137, 138, 139, 140, 141, 142, 143, 144, 145, 146, 147, 148, 149, 150, 151, 152, 153, 154, 155, 156, 157, 158, 159, 160, 161] (by decide +kernel) (by decide +kernel)
set_option maxRecDepth 20000 in
theorem gX8_moved_X8_isBoth : GoodIn wsX8_moved (wsV RX8 264 RX8 yX8_isBoth wsX8_isBoth) := goodIn_app (goodIn_of _ (by decide +kernel)) ggX8_moved_X8_isBoth
set_option maxHeartbeats 4000000 in
set_option maxRecDepth 100000 in
theorem f_X8_moved (l : Launch) (D : va_G) (cI cJ : ClassId) (sz : Nat) (g g2 g3 g4 g5 g6 g7 g8 g9 g10 g12 g13 g15 g16 g17 g19 g20 g21 g22 g23 g24 g25 g26 g27 g28 g33 g34 g35 g36 g37 g38 g39 g41 g42 g44 g45 : Nat) (p0 p1 p2 : Int32) : Met l yX8_moved wsX8_moved { frames := 3, cells := 0, slots := 0, locals := 68 } (cPc D cI cJ [.ref g, .int p0, .int p1, .int p2] sz [(g, .inr (8, [.int 0, .int 0, .ref g2, .ref g3, .ref g4, .ref g5, .ref g6, .ref g7, .ref g8, .ref g9, .ref g10, .int 0, .ref g12, .ref g13, .int 0, .ref g15, .ref g16, .ref g17, .int 0, .ref g19, .ref g20, .ref g21, .ref g22, .ref g23, .ref g24, .ref g25, .ref g26, .ref g27, .ref g28, .int 0, .int 0, .int 0, .int 0, .ref g33, .ref g34, .ref g35, .ref g36, .ref g37, .ref g38, .ref g39, .int 0, .ref g41, .ref g42, .int 0, .ref g44, .ref g45]))]) (cQi D (fun r u => r = -1 ∧ u = []) (va_A [(g, .inr (8, [.int 0, .int 0, .ref g2, .ref g3, .ref g4, .ref g5, .ref g6, .ref g7, .ref g8, .ref g9, .ref g10, .int 0, .ref g12, .ref g13, .int 0, .ref g15, .ref g16, .ref g17, .int 0, .ref g19, .ref g20, .ref g21, .ref g22, .ref g23, .ref g24, .ref g25, .ref g26, .ref g27, .ref g28, .int 0, .int 0, .int 0, .int 0, .ref g33, .ref g34, .ref g35, .ref g36, .ref g37, .ref g38, .ref g39, .int 0, .ref g41, .ref g42, .int 0, .ref g44, .ref g45]))] sz)) 0 0 (va_A [(g, .inr (8, [.int 0, .int 0, .ref g2, .ref g3, .ref g4, .ref g5, .ref g6, .ref g7, .ref g8, .ref g9, .ref g10, .int 0, .ref g12, .ref g13, .int 0, .ref g15, .ref g16, .ref g17, .int 0, .ref g19, .ref g20, .ref g21, .ref g22, .ref g23, .ref g24, .ref g25, .ref g26, .ref g27, .ref g28, .int 0, .int 0, .int 0, .int 0, .ref g33, .ref g34, .ref g35, .ref g36, .ref g37, .ref g38, .ref g39, .int 0, .ref g41, .ref g42, .int 0, .ref g44, .ref g45]))] sz) := by
  refine k_ofW (Qc := cQi D (fun r u => r = -1 ∧ u = [])) (by decide) rfl (Nat.le_of_ble_eq_true rfl) ?_
  intro p e s m below meth c A ls hx hb hr hml hts hown hlk hnm hsz hE hP hD hS hA hl
  have hown : s.vm.findClass RX8 = some m.cls := hown
  have hl : lv_has ls 7 [(0, .ref g), (1, .int p0), (2, .int p1), (3, .int p2)] := hl
  refine lv_aload_n hx hb dX8_moved_0 rfl (lv_at hl 0 rfl) ?_
  refine lv_iload_n hx hb dX8_moved_1 rfl (lv_at hl 1 rfl) ?_
  refine lv_iload_n hx hb dX8_moved_2 rfl (lv_at hl 2 rfl) ?_
  refine k_i (va_runV (As := [.int p0, .int p1]) (rest := []) ⟨hx, hb, hml, hown, hts⟩ (f_X8_isBoth l D cI cJ (s.heap).size g g2 g3 g4 g5 g6 g7 g8 g9 g10 g12 g13 g15 g16 g17 g19 g20 g21 g22 g23 g24 g25 g26 g27 g28 g33 g34 g35 g36 g37 g38 g39 g41 g42 g44 g45 p0 p1) (cwV 2 hts gX8_moved_X8_isBoth rfl rfl rfl (by decide +kernel) ⟨Nat.le_of_ble_eq_true rfl, Nat.le_of_ble_eq_true rfl⟩) (k_preV hE hP hD [0] (by decide) rfl 0 rfl rfl) rfl rfl hl.1 rfl (lv_room (Nat.le_of_ble_eq_true rfl)) dX8_moved_3 ⟨Nat.le_of_ble_eq_true rfl, Nat.le_of_ble_eq_true rfl⟩) hP hD hS hA [0] [] rfl (wr := []) rfl (by decide) (by decide) (fun r1 u H locs hw2 hP hD hS => ?_)
  obtain ⟨rfl, rfl⟩ := hw2
  have hP : va_P D vwCl [(g, .inr (8, [.int 0, .int 0, .ref g2, .ref g3, .ref g4, .ref g5, .ref g6, .ref g7, .ref g8, .ref g9, .ref g10, .int 0, .ref g12, .ref g13, .int 0, .ref g15, .ref g16, .ref g17, .int 0, .ref g19, .ref g20, .ref g21, .ref g22, .ref g23, .ref g24, .ref g25, .ref g26, .ref g27, .ref g28, .int 0, .int 0, .int 0, .int 0, .ref g33, .ref g34, .ref g35, .ref g36, .ref g37, .ref g38, .ref g39, .int 0, .ref g41, .ref g42, .int 0, .ref g44, .ref g45]))] H := hP
  have hD : va_D A [(g, .inr (8, [.int 0, .int 0, .ref g2, .ref g3, .ref g4, .ref g5, .ref g6, .ref g7, .ref g8, .ref g9, .ref g10, .int 0, .ref g12, .ref g13, .int 0, .ref g15, .ref g16, .ref g17, .int 0, .ref g19, .ref g20, .ref g21, .ref g22, .ref g23, .ref g24, .ref g25, .ref g26, .ref g27, .ref g28, .int 0, .int 0, .int 0, .int 0, .ref g33, .ref g34, .ref g35, .ref g36, .ref g37, .ref g38, .ref g39, .int 0, .ref g41, .ref g42, .int 0, .ref g44, .ref g45]))] := hD
  refine lv_if_eq (tgt := 21) hx hb dX8_moved_6 (by decide) (fun _ => ?_) (fun c3 => absurd (by decide) c3)
  refine lv_iconst (v := (-1)) hx hb dX8_moved_21 (by decide) ?_
  refine k_iret (u := []) hx hb hr hlk (k_sub hP [] rfl) (hD.sub [] (by decide) rfl) hS dX8_moved_22 ?_
  exact ⟨rfl, rfl⟩
theorem dX8_clause_0 : decode cX8_clause 0 = .ok (.aload_n 0, 1) := by decide +kernel
theorem dX8_clause_1 : decode cX8_clause 1 = .ok (.iconst 0, 1) := by decide +kernel
theorem dX8_clause_2 : decode cX8_clause 2 = .ok (.putfield 116, 3) := by decide +kernel
theorem dX8_clause_5 : decode cX8_clause 5 = .ok (.aload_n 0, 1) := by decide +kernel
theorem dX8_clause_6 : decode cX8_clause 6 = .ok (.iload_n 1, 1) := by decide +kernel
theorem dX8_clause_7 : decode cX8_clause 7 = .ok (.invokevirtual 140, 3) := by decide +kernel
theorem dX8_clause_10 : decode cX8_clause 10 = .ok (.ifCond .eq 47, 3) := by decide +kernel
theorem dX8_clause_57 : decode cX8_clause 57 = .ok (.iconst 0, 1) := by decide +kernel
theorem dX8_clause_58 : decode cX8_clause 58 = .ok (.ireturn, 1) := by decide +kernel
set_option maxRecDepth 20000 in
theorem ggX8_clause_X8_isPolicy : GoodIn wsX8_clause wsX8_isPolicy := goodIn_r _ [10, 11, 12, 13, 9, 14, 15, 16, 17, 18, 19, 20, 21, 22, 23, 24, 25, 26, 27, 28, 29, 30, 31, 32, 33, 34, 35, 36, 37, 38, 39, 40, 41, 42, 43, 44, 45, 46, 47, 48, 49, 50, 51, 52, 53, 54, 55, 56, 57, 58, 59, 60] (by decide +kernel) (by decide +kernel)
set_option maxRecDepth 20000 in
theorem gX8_clause_X8_isPolicy : GoodIn wsX8_clause (wsV RX8 140 RX8 yX8_isPolicy wsX8_isPolicy) := goodIn_app (goodIn_of _ (by decide +kernel)) ggX8_clause_X8_isPolicy
set_option maxHeartbeats 4000000 in
set_option maxRecDepth 100000 in
theorem f_X8_clause (l : Launch) (D : va_G) (cI cJ : ClassId) (sz : Nat) (g g2 g3 g4 g5 g6 g7 g8 g9 g10 g12 g13 g15 g16 g17 g19 g20 g21 g22 g23 g24 g25 g26 g27 g28 g33 g34 g35 g36 g37 g38 g39 g41 g42 g44 g45 : Nat) (p0 p1 p2 : Int32) : Met l yX8_clause wsX8_clause { frames := 2, cells := 0, slots := 0, locals := 46 } (cPc D cI cJ [.ref g, .int p0, .int p1, .int p2] sz [(g, .inr (8, [.int 0, .int 0, .ref g2, .ref g3, .ref g4, .ref g5, .ref g6, .ref g7, .ref g8, .ref g9, .ref g10, .int 0, .ref g12, .ref g13, .int 0, .ref g15, .ref g16, .ref g17, .int 0, .ref g19, .ref g20, .ref g21, .ref g22, .ref g23, .ref g24, .ref g25, .ref g26, .ref g27, .ref g28, .int 0, .int 0, .int 0, .int 0, .ref g33, .ref g34, .ref g35, .ref g36, .ref g37, .ref g38, .ref g39, .int 0, .ref g41, .ref g42, .int 0, .ref g44, .ref g45]))]) (cQi D (fun r u => r = 0 ∧ u = []) (va_A [(g, .inr (8, [.int 0, .int 0, .ref g2, .ref g3, .ref g4, .ref g5, .ref g6, .ref g7, .ref g8, .ref g9, .ref g10, .int 0, .ref g12, .ref g13, .int 0, .ref g15, .ref g16, .ref g17, .int 0, .ref g19, .ref g20, .ref g21, .ref g22, .ref g23, .ref g24, .ref g25, .ref g26, .ref g27, .ref g28, .int 0, .int 0, .int 0, .int 0, .ref g33, .ref g34, .ref g35, .ref g36, .ref g37, .ref g38, .ref g39, .int 0, .ref g41, .ref g42, .int 0, .ref g44, .ref g45]))] sz)) 0 0 (va_A [(g, .inr (8, [.int 0, .int 0, .ref g2, .ref g3, .ref g4, .ref g5, .ref g6, .ref g7, .ref g8, .ref g9, .ref g10, .int 0, .ref g12, .ref g13, .int 0, .ref g15, .ref g16, .ref g17, .int 0, .ref g19, .ref g20, .ref g21, .ref g22, .ref g23, .ref g24, .ref g25, .ref g26, .ref g27, .ref g28, .int 0, .int 0, .int 0, .int 0, .ref g33, .ref g34, .ref g35, .ref g36, .ref g37, .ref g38, .ref g39, .int 0, .ref g41, .ref g42, .int 0, .ref g44, .ref g45]))] sz) := by
  refine k_ofW (Qc := cQi D (fun r u => r = 0 ∧ u = [])) (by decide) rfl (Nat.le_of_ble_eq_true rfl) ?_
  intro p e s m below meth c A ls hx hb hr hml hts hown hlk hnm hsz hE hP hD hS hA hl
  have hown : s.vm.findClass RX8 = some m.cls := hown
  have hiX8 : ∀ w ∈ u_ws RX8 TX8 46, w ∈ wsX8_clause := fun w h => List.mem_cons_of_mem _ (List.mem_append_right _ h)
  have hl : lv_has ls 4 [(0, .ref g), (1, .int p0), (2, .int p1), (3, .int p2)] := hl
  refine lv_aload_n hx hb dX8_clause_0 rfl (lv_at hl 0 rfl) ?_
  refine lv_iconst (v := 0) hx hb dX8_clause_1 (by decide) ?_
  refine va_put (D := D) (ci := 8) (v := .int 0) (ty := .int) (C := RX8) (T := TX8) (N := 46) hx hb hts hiX8 tyX8 tyX8_ok nmX8 hown hE.1 hP hD hS 0 rfl rfl 0 (by decide) (hts _ (List.mem_of_getElem? (i := 1) rfl)) (fun _ h9 => h9) rfl (by decide +kernel) rfl rfl (Nat.le_of_ble_eq_true rfl) dX8_clause_2 (fun H locs hP hD hS => ?_)
  have hP : va_P D vwCl [(g, .inr (8, [.int 0, .int 0, .ref g2, .ref g3, .ref g4, .ref g5, .ref g6, .ref g7, .ref g8, .ref g9, .ref g10, .int 0, .ref g12, .ref g13, .int 0, .ref g15, .ref g16, .ref g17, .int 0, .ref g19, .ref g20, .ref g21, .ref g22, .ref g23, .ref g24, .ref g25, .ref g26, .ref g27, .ref g28, .int 0, .int 0, .int 0, .int 0, .ref g33, .ref g34, .ref g35, .ref g36, .ref g37, .ref g38, .ref g39, .int 0, .ref g41, .ref g42, .int 0, .ref g44, .ref g45]))] H := hP
  have hD : va_D A [(g, .inr (8, [.int 0, .int 0, .ref g2, .ref g3, .ref g4, .ref g5, .ref g6, .ref g7, .ref g8, .ref g9, .ref g10, .int 0, .ref g12, .ref g13, .int 0, .ref g15, .ref g16, .ref g17, .int 0, .ref g19, .ref g20, .ref g21, .ref g22, .ref g23, .ref g24, .ref g25, .ref g26, .ref g27, .ref g28, .int 0, .int 0, .int 0, .int 0, .ref g33, .ref g34, .ref g35, .ref g36, .ref g37, .ref g38, .ref g39, .int 0, .ref g41, .ref g42, .int 0, .ref g44, .ref g45]))] := hD
  refine lv_aload_n hx hb dX8_clause_5 rfl (lv_at hl 0 rfl) ?_
  refine lv_iload_n hx hb dX8_clause_6 rfl (lv_at hl 1 rfl) ?_
  refine k_i (va_runV (As := [.int p0]) (rest := []) ⟨hx, hb, hml, hown, hts⟩ (f_X8_isPolicy l D cI cJ H.size g g2 g3 g4 g5 g6 g7 g8 g9 g10 g12 g13 g15 g16 g17 g19 g20 g21 g22 g23 g24 g25 g26 g27 g28 g33 g34 g35 g36 g37 g38 g39 g41 g42 g44 g45 p0) (cwV 1 hts gX8_clause_X8_isPolicy rfl rfl rfl (by decide +kernel) ⟨Nat.le_of_ble_eq_true rfl, Nat.le_of_ble_eq_true rfl⟩) (k_preV hE hP hD [0] (by decide) rfl 0 rfl rfl) rfl rfl hl.1 rfl (lv_room (Nat.le_of_ble_eq_true rfl)) dX8_clause_7 ⟨Nat.le_of_ble_eq_true rfl, Nat.le_of_ble_eq_true rfl⟩) hP hD hS hA [0] [] rfl (wr := []) rfl (by decide) (by decide) (fun r1 u H locs hw2 hP hD hS => ?_)
  obtain ⟨rfl, rfl⟩ := hw2
  have hP : va_P D vwCl [(g, .inr (8, [.int 0, .int 0, .ref g2, .ref g3, .ref g4, .ref g5, .ref g6, .ref g7, .ref g8, .ref g9, .ref g10, .int 0, .ref g12, .ref g13, .int 0, .ref g15, .ref g16, .ref g17, .int 0, .ref g19, .ref g20, .ref g21, .ref g22, .ref g23, .ref g24, .ref g25, .ref g26, .ref g27, .ref g28, .int 0, .int 0, .int 0, .int 0, .ref g33, .ref g34, .ref g35, .ref g36, .ref g37, .ref g38, .ref g39, .int 0, .ref g41, .ref g42, .int 0, .ref g44, .ref g45]))] H := hP
  have hD : va_D A [(g, .inr (8, [.int 0, .int 0, .ref g2, .ref g3, .ref g4, .ref g5, .ref g6, .ref g7, .ref g8, .ref g9, .ref g10, .int 0, .ref g12, .ref g13, .int 0, .ref g15, .ref g16, .ref g17, .int 0, .ref g19, .ref g20, .ref g21, .ref g22, .ref g23, .ref g24, .ref g25, .ref g26, .ref g27, .ref g28, .int 0, .int 0, .int 0, .int 0, .ref g33, .ref g34, .ref g35, .ref g36, .ref g37, .ref g38, .ref g39, .int 0, .ref g41, .ref g42, .int 0, .ref g44, .ref g45]))] := hD
  refine lv_if_eq (tgt := 57) hx hb dX8_clause_10 (by decide) (fun _ => ?_) (fun c3 => absurd (by decide) c3)
  refine lv_iconst (v := 0) hx hb dX8_clause_57 (by decide) ?_
  refine k_zret (u := []) hx hb hr (by decide) hlk (k_sub hP [] rfl) (hD.sub [] (by decide) rfl) hS dX8_clause_58 ?_
  exact ⟨rfl, rfl⟩
theorem dX8_limit_0 : decode cX8_limit 0 = .ok (.aload_n 0, 1) := by decide +kernel
theorem dX8_limit_1 : decode cX8_limit 1 = .ok (.iconst 0, 1) := by decide +kernel
theorem dX8_limit_2 : decode cX8_limit 2 = .ok (.putfield 116, 3) := by decide +kernel
theorem dX8_limit_5 : decode cX8_limit 5 = .ok (.aload_n 0, 1) := by decide +kernel
theorem dX8_limit_6 : decode cX8_limit 6 = .ok (.iload_n 1, 1) := by decide +kernel
theorem dX8_limit_7 : decode cX8_limit 7 = .ok (.invokevirtual 140, 3) := by decide +kernel
theorem dX8_limit_10 : decode cX8_limit 10 = .ok (.ifCond .eq 25, 3) := by decide +kernel
theorem dX8_limit_35 : decode cX8_limit 35 = .ok (.iconst 0, 1) := by decide +kernel
theorem dX8_limit_36 : decode cX8_limit 36 = .ok (.ireturn, 1) := by decide +kernel
set_option maxRecDepth 20000 in
theorem ggX8_limit_X8_isPolicy : GoodIn wsX8_limit wsX8_isPolicy := goodIn_r _ [8, 9, 10, 11, 7, 12, 13, 14, 15, 16, 17, 18, 19, 20, 21, 22, 23, 24, 25, 26, 27, 28, 29, 30, 31, 32, 33, 34, 35, 36, 37, 38, 39, 40, 41, 42, 43, 44, 45, 46, 47, 48, 49, 50, 51, 52, 53, 54, 55, 56, 57, 58] (by decide +kernel) (by decide +kernel)
set_option maxRecDepth 20000 in
theorem gX8_limit_X8_isPolicy : GoodIn wsX8_limit (wsV RX8 140 RX8 yX8_isPolicy wsX8_isPolicy) := goodIn_app (goodIn_of _ (by decide +kernel)) ggX8_limit_X8_isPolicy
set_option maxHeartbeats 4000000 in
set_option maxRecDepth 100000 in
theorem f_X8_limit (l : Launch) (D : va_G) (cI cJ : ClassId) (sz : Nat) (g g2 g3 g4 g5 g6 g7 g8 g9 g10 g12 g13 g15 g16 g17 g19 g20 g21 g22 g23 g24 g25 g26 g27 g28 g33 g34 g35 g36 g37 g38 g39 g41 g42 g44 g45 : Nat) (p0 p1 : Int32) : Met l yX8_limit wsX8_limit { frames := 2, cells := 0, slots := 0, locals := 46 } (cPc D cI cJ [.ref g, .int p0, .int p1] sz [(g, .inr (8, [.int 0, .int 0, .ref g2, .ref g3, .ref g4, .ref g5, .ref g6, .ref g7, .ref g8, .ref g9, .ref g10, .int 0, .ref g12, .ref g13, .int 0, .ref g15, .ref g16, .ref g17, .int 0, .ref g19, .ref g20, .ref g21, .ref g22, .ref g23, .ref g24, .ref g25, .ref g26, .ref g27, .ref g28, .int 0, .int 0, .int 0, .int 0, .ref g33, .ref g34, .ref g35, .ref g36, .ref g37, .ref g38, .ref g39, .int 0, .ref g41, .ref g42, .int 0, .ref g44, .ref g45]))]) (cQi D (fun r u => r = 0 ∧ u = []) (va_A [(g, .inr (8, [.int 0, .int 0, .ref g2, .ref g3, .ref g4, .ref g5, .ref g6, .ref g7, .ref g8, .ref g9, .ref g10, .int 0, .ref g12, .ref g13, .int 0, .ref g15, .ref g16, .ref g17, .int 0, .ref g19, .ref g20, .ref g21, .ref g22, .ref g23, .ref g24, .ref g25, .ref g26, .ref g27, .ref g28, .int 0, .int 0, .int 0, .int 0, .ref g33, .ref g34, .ref g35, .ref g36, .ref g37, .ref g38, .ref g39, .int 0, .ref g41, .ref g42, .int 0, .ref g44, .ref g45]))] sz)) 0 0 (va_A [(g, .inr (8, [.int 0, .int 0, .ref g2, .ref g3, .ref g4, .ref g5, .ref g6, .ref g7, .ref g8, .ref g9, .ref g10, .int 0, .ref g12, .ref g13, .int 0, .ref g15, .ref g16, .ref g17, .int 0, .ref g19, .ref g20, .ref g21, .ref g22, .ref g23, .ref g24, .ref g25, .ref g26, .ref g27, .ref g28, .int 0, .int 0, .int 0, .int 0, .ref g33, .ref g34, .ref g35, .ref g36, .ref g37, .ref g38, .ref g39, .int 0, .ref g41, .ref g42, .int 0, .ref g44, .ref g45]))] sz) := by
  refine k_ofW (Qc := cQi D (fun r u => r = 0 ∧ u = [])) (by decide) rfl (Nat.le_of_ble_eq_true rfl) ?_
  intro p e s m below meth c A ls hx hb hr hml hts hown hlk hnm hsz hE hP hD hS hA hl
  have hown : s.vm.findClass RX8 = some m.cls := hown
  have hiX8 : ∀ w ∈ u_ws RX8 TX8 46, w ∈ wsX8_limit := fun w h => List.mem_cons_of_mem _ (List.mem_append_right _ h)
  have hl : lv_has ls 3 [(0, .ref g), (1, .int p0), (2, .int p1)] := hl
  refine lv_aload_n hx hb dX8_limit_0 rfl (lv_at hl 0 rfl) ?_
  refine lv_iconst (v := 0) hx hb dX8_limit_1 (by decide) ?_
  refine va_put (D := D) (ci := 8) (v := .int 0) (ty := .int) (C := RX8) (T := TX8) (N := 46) hx hb hts hiX8 tyX8 tyX8_ok nmX8 hown hE.1 hP hD hS 0 rfl rfl 0 (by decide) (hts _ (List.mem_of_getElem? (i := 1) rfl)) (fun _ h9 => h9) rfl (by decide +kernel) rfl rfl (Nat.le_of_ble_eq_true rfl) dX8_limit_2 (fun H locs hP hD hS => ?_)
  have hP : va_P D vwCl [(g, .inr (8, [.int 0, .int 0, .ref g2, .ref g3, .ref g4, .ref g5, .ref g6, .ref g7, .ref g8, .ref g9, .ref g10, .int 0, .ref g12, .ref g13, .int 0, .ref g15, .ref g16, .ref g17, .int 0, .ref g19, .ref g20, .ref g21, .ref g22, .ref g23, .ref g24, .ref g25, .ref g26, .ref g27, .ref g28, .int 0, .int 0, .int 0, .int 0, .ref g33, .ref g34, .ref g35, .ref g36, .ref g37, .ref g38, .ref g39, .int 0, .ref g41, .ref g42, .int 0, .ref g44, .ref g45]))] H := hP
  have hD : va_D A [(g, .inr (8, [.int 0, .int 0, .ref g2, .ref g3, .ref g4, .ref g5, .ref g6, .ref g7, .ref g8, .ref g9, .ref g10, .int 0, .ref g12, .ref g13, .int 0, .ref g15, .ref g16, .ref g17, .int 0, .ref g19, .ref g20, .ref g21, .ref g22, .ref g23, .ref g24, .ref g25, .ref g26, .ref g27, .ref g28, .int 0, .int 0, .int 0, .int 0, .ref g33, .ref g34, .ref g35, .ref g36, .ref g37, .ref g38, .ref g39, .int 0, .ref g41, .ref g42, .int 0, .ref g44, .ref g45]))] := hD
  refine lv_aload_n hx hb dX8_limit_5 rfl (lv_at hl 0 rfl) ?_
  refine lv_iload_n hx hb dX8_limit_6 rfl (lv_at hl 1 rfl) ?_
  refine k_i (va_runV (As := [.int p0]) (rest := []) ⟨hx, hb, hml, hown, hts⟩ (f_X8_isPolicy l D cI cJ H.size g g2 g3 g4 g5 g6 g7 g8 g9 g10 g12 g13 g15 g16 g17 g19 g20 g21 g22 g23 g24 g25 g26 g27 g28 g33 g34 g35 g36 g37 g38 g39 g41 g42 g44 g45 p0) (cwV 1 hts gX8_limit_X8_isPolicy rfl rfl rfl (by decide +kernel) ⟨Nat.le_of_ble_eq_true rfl, Nat.le_of_ble_eq_true rfl⟩) (k_preV hE hP hD [0] (by decide) rfl 0 rfl rfl) rfl rfl hl.1 rfl (lv_room (Nat.le_of_ble_eq_true rfl)) dX8_limit_7 ⟨Nat.le_of_ble_eq_true rfl, Nat.le_of_ble_eq_true rfl⟩) hP hD hS hA [0] [] rfl (wr := []) rfl (by decide) (by decide) (fun r1 u H locs hw2 hP hD hS => ?_)
  obtain ⟨rfl, rfl⟩ := hw2
  have hP : va_P D vwCl [(g, .inr (8, [.int 0, .int 0, .ref g2, .ref g3, .ref g4, .ref g5, .ref g6, .ref g7, .ref g8, .ref g9, .ref g10, .int 0, .ref g12, .ref g13, .int 0, .ref g15, .ref g16, .ref g17, .int 0, .ref g19, .ref g20, .ref g21, .ref g22, .ref g23, .ref g24, .ref g25, .ref g26, .ref g27, .ref g28, .int 0, .int 0, .int 0, .int 0, .ref g33, .ref g34, .ref g35, .ref g36, .ref g37, .ref g38, .ref g39, .int 0, .ref g41, .ref g42, .int 0, .ref g44, .ref g45]))] H := hP
  have hD : va_D A [(g, .inr (8, [.int 0, .int 0, .ref g2, .ref g3, .ref g4, .ref g5, .ref g6, .ref g7, .ref g8, .ref g9, .ref g10, .int 0, .ref g12, .ref g13, .int 0, .ref g15, .ref g16, .ref g17, .int 0, .ref g19, .ref g20, .ref g21, .ref g22, .ref g23, .ref g24, .ref g25, .ref g26, .ref g27, .ref g28, .int 0, .int 0, .int 0, .int 0, .ref g33, .ref g34, .ref g35, .ref g36, .ref g37, .ref g38, .ref g39, .int 0, .ref g41, .ref g42, .int 0, .ref g44, .ref g45]))] := hD
  refine lv_if_eq (tgt := 35) hx hb dX8_limit_10 (by decide) (fun _ => ?_) (fun c3 => absurd (by decide) c3)
  refine lv_iconst (v := 0) hx hb dX8_limit_35 (by decide) ?_
  refine k_zret (u := []) hx hb hr (by decide) hlk (k_sub hP [] rfl) (hD.sub [] (by decide) rfl) hS dX8_limit_36 ?_
  exact ⟨rfl, rfl⟩
theorem dX8_sub_0 : decode cX8_sub 0 = .ok (.aload_n 0, 1) := by decide +kernel
theorem dX8_sub_1 : decode cX8_sub 1 = .ok (.iconst 0, 1) := by decide +kernel
theorem dX8_sub_2 : decode cX8_sub 2 = .ok (.putfield 116, 3) := by decide +kernel
theorem dX8_sub_5 : decode cX8_sub 5 = .ok (.aload_n 0, 1) := by decide +kernel
theorem dX8_sub_6 : decode cX8_sub 6 = .ok (.iload_n 1, 1) := by decide +kernel
theorem dX8_sub_7 : decode cX8_sub 7 = .ok (.invokevirtual 140, 3) := by decide +kernel
theorem dX8_sub_10 : decode cX8_sub 10 = .ok (.ifCond .eq 41, 3) := by decide +kernel
theorem dX8_sub_51 : decode cX8_sub 51 = .ok (.iconst 0, 1) := by decide +kernel
theorem dX8_sub_52 : decode cX8_sub 52 = .ok (.ireturn, 1) := by decide +kernel
set_option maxRecDepth 20000 in
theorem ggX8_sub_X8_isPolicy : GoodIn wsX8_sub wsX8_isPolicy := goodIn_r _ [9, 10, 11, 12, 8, 13, 18, 19, 20, 21, 22, 23, 24, 25, 26, 27, 28, 29, 30, 31, 32, 33, 34, 35, 36, 37, 38, 39, 40, 41, 42, 43, 44, 45, 46, 47, 48, 49, 50, 51, 52, 53, 54, 55, 56, 57, 58, 59, 60, 61, 62, 63] (by decide +kernel) (by decide +kernel)
set_option maxRecDepth 20000 in
theorem gX8_sub_X8_isPolicy : GoodIn wsX8_sub (wsV RX8 140 RX8 yX8_isPolicy wsX8_isPolicy) := goodIn_app (goodIn_of _ (by decide +kernel)) ggX8_sub_X8_isPolicy
set_option maxHeartbeats 4000000 in
set_option maxRecDepth 100000 in
theorem f_X8_sub (l : Launch) (D : va_G) (cI cJ : ClassId) (sz : Nat) (g g2 g3 g4 g5 g6 g7 g8 g9 g10 g12 g13 g15 g16 g17 g19 g20 g21 g22 g23 g24 g25 g26 g27 g28 g33 g34 g35 g36 g37 g38 g39 g41 g42 g44 g45 : Nat) (p0 p1 p2 : Int32) : Met l yX8_sub wsX8_sub { frames := 2, cells := 0, slots := 0, locals := 46 } (cPc D cI cJ [.ref g, .int p0, .int p1, .int p2] sz [(g, .inr (8, [.int 0, .int 0, .ref g2, .ref g3, .ref g4, .ref g5, .ref g6, .ref g7, .ref g8, .ref g9, .ref g10, .int 0, .ref g12, .ref g13, .int 0, .ref g15, .ref g16, .ref g17, .int 0, .ref g19, .ref g20, .ref g21, .ref g22, .ref g23, .ref g24, .ref g25, .ref g26, .ref g27, .ref g28, .int 0, .int 0, .int 0, .int 0, .ref g33, .ref g34, .ref g35, .ref g36, .ref g37, .ref g38, .ref g39, .int 0, .ref g41, .ref g42, .int 0, .ref g44, .ref g45]))]) (cQi D (fun r u => r = 0 ∧ u = []) (va_A [(g, .inr (8, [.int 0, .int 0, .ref g2, .ref g3, .ref g4, .ref g5, .ref g6, .ref g7, .ref g8, .ref g9, .ref g10, .int 0, .ref g12, .ref g13, .int 0, .ref g15, .ref g16, .ref g17, .int 0, .ref g19, .ref g20, .ref g21, .ref g22, .ref g23, .ref g24, .ref g25, .ref g26, .ref g27, .ref g28, .int 0, .int 0, .int 0, .int 0, .ref g33, .ref g34, .ref g35, .ref g36, .ref g37, .ref g38, .ref g39, .int 0, .ref g41, .ref g42, .int 0, .ref g44, .ref g45]))] sz)) 0 0 (va_A [(g, .inr (8, [.int 0, .int 0, .ref g2, .ref g3, .ref g4, .ref g5, .ref g6, .ref g7, .ref g8, .ref g9, .ref g10, .int 0, .ref g12, .ref g13, .int 0, .ref g15, .ref g16, .ref g17, .int 0, .ref g19, .ref g20, .ref g21, .ref g22, .ref g23, .ref g24, .ref g25, .ref g26, .ref g27, .ref g28, .int 0, .int 0, .int 0, .int 0, .ref g33, .ref g34, .ref g35, .ref g36, .ref g37, .ref g38, .ref g39, .int 0, .ref g41, .ref g42, .int 0, .ref g44, .ref g45]))] sz) := by
  refine k_ofW (Qc := cQi D (fun r u => r = 0 ∧ u = [])) (by decide) rfl (Nat.le_of_ble_eq_true rfl) ?_
  intro p e s m below meth c A ls hx hb hr hml hts hown hlk hnm hsz hE hP hD hS hA hl
  have hown : s.vm.findClass RX8 = some m.cls := hown
  have hiX8 : ∀ w ∈ u_ws RX8 TX8 46, w ∈ wsX8_sub := fun w h => List.mem_cons_of_mem _ (List.mem_append_right _ h)
  have hl : lv_has ls 4 [(0, .ref g), (1, .int p0), (2, .int p1), (3, .int p2)] := hl
  refine lv_aload_n hx hb dX8_sub_0 rfl (lv_at hl 0 rfl) ?_
  refine lv_iconst (v := 0) hx hb dX8_sub_1 (by decide) ?_
  refine va_put (D := D) (ci := 8) (v := .int 0) (ty := .int) (C := RX8) (T := TX8) (N := 46) hx hb hts hiX8 tyX8 tyX8_ok nmX8 hown hE.1 hP hD hS 0 rfl rfl 0 (by decide) (hts _ (List.mem_of_getElem? (i := 1) rfl)) (fun _ h9 => h9) rfl (by decide +kernel) rfl rfl (Nat.le_of_ble_eq_true rfl) dX8_sub_2 (fun H locs hP hD hS => ?_)
  have hP : va_P D vwCl [(g, .inr (8, [.int 0, .int 0, .ref g2, .ref g3, .ref g4, .ref g5, .ref g6, .ref g7, .ref g8, .ref g9, .ref g10, .int 0, .ref g12, .ref g13, .int 0, .ref g15, .ref g16, .ref g17, .int 0, .ref g19, .ref g20, .ref g21, .ref g22, .ref g23, .ref g24, .ref g25, .ref g26, .ref g27, .ref g28, .int 0, .int 0, .int 0, .int 0, .ref g33, .ref g34, .ref g35, .ref g36, .ref g37, .ref g38, .ref g39, .int 0, .ref g41, .ref g42, .int 0, .ref g44, .ref g45]))] H := hP
  have hD : va_D A [(g, .inr (8, [.int 0, .int 0, .ref g2, .ref g3, .ref g4, .ref g5, .ref g6, .ref g7, .ref g8, .ref g9, .ref g10, .int 0, .ref g12, .ref g13, .int 0, .ref g15, .ref g16, .ref g17, .int 0, .ref g19, .ref g20, .ref g21, .ref g22, .ref g23, .ref g24, .ref g25, .ref g26, .ref g27, .ref g28, .int 0, .int 0, .int 0, .int 0, .ref g33, .ref g34, .ref g35, .ref g36, .ref g37, .ref g38, .ref g39, .int 0, .ref g41, .ref g42, .int 0, .ref g44, .ref g45]))] := hD
  refine lv_aload_n hx hb dX8_sub_5 rfl (lv_at hl 0 rfl) ?_
  refine lv_iload_n hx hb dX8_sub_6 rfl (lv_at hl 1 rfl) ?_
  refine k_i (va_runV (As := [.int p0]) (rest := []) ⟨hx, hb, hml, hown, hts⟩ (f_X8_isPolicy l D cI cJ H.size g g2 g3 g4 g5 g6 g7 g8 g9 g10 g12 g13 g15 g16 g17 g19 g20 g21 g22 g23 g24 g25 g26 g27 g28 g33 g34 g35 g36 g37 g38 g39 g41 g42 g44 g45 p0) (cwV 1 hts gX8_sub_X8_isPolicy rfl rfl rfl (by decide +kernel) ⟨Nat.le_of_ble_eq_true rfl, Nat.le_of_ble_eq_true rfl⟩) (k_preV hE hP hD [0] (by decide) rfl 0 rfl rfl) rfl rfl hl.1 rfl (lv_room (Nat.le_of_ble_eq_true rfl)) dX8_sub_7 ⟨Nat.le_of_ble_eq_true rfl, Nat.le_of_ble_eq_true rfl⟩) hP hD hS hA [0] [] rfl (wr := []) rfl (by decide) (by decide) (fun r1 u H locs hw2 hP hD hS => ?_)
  obtain ⟨rfl, rfl⟩ := hw2
  have hP : va_P D vwCl [(g, .inr (8, [.int 0, .int 0, .ref g2, .ref g3, .ref g4, .ref g5, .ref g6, .ref g7, .ref g8, .ref g9, .ref g10, .int 0, .ref g12, .ref g13, .int 0, .ref g15, .ref g16, .ref g17, .int 0, .ref g19, .ref g20, .ref g21, .ref g22, .ref g23, .ref g24, .ref g25, .ref g26, .ref g27, .ref g28, .int 0, .int 0, .int 0, .int 0, .ref g33, .ref g34, .ref g35, .ref g36, .ref g37, .ref g38, .ref g39, .int 0, .ref g41, .ref g42, .int 0, .ref g44, .ref g45]))] H := hP
  have hD : va_D A [(g, .inr (8, [.int 0, .int 0, .ref g2, .ref g3, .ref g4, .ref g5, .ref g6, .ref g7, .ref g8, .ref g9, .ref g10, .int 0, .ref g12, .ref g13, .int 0, .ref g15, .ref g16, .ref g17, .int 0, .ref g19, .ref g20, .ref g21, .ref g22, .ref g23, .ref g24, .ref g25, .ref g26, .ref g27, .ref g28, .int 0, .int 0, .int 0, .int 0, .ref g33, .ref g34, .ref g35, .ref g36, .ref g37, .ref g38, .ref g39, .int 0, .ref g41, .ref g42, .int 0, .ref g44, .ref g45]))] := hD
  refine lv_if_eq (tgt := 51) hx hb dX8_sub_10 (by decide) (fun _ => ?_) (fun c3 => absurd (by decide) c3)
  refine lv_iconst (v := 0) hx hb dX8_sub_51 (by decide) ?_
  refine k_zret (u := []) hx hb hr (by decide) hlk (k_sub hP [] rfl) (hD.sub [] (by decide) rfl) hS dX8_sub_52 ?_
  exact ⟨rfl, rfl⟩
theorem dX8_revoke_0 : decode cX8_revoke 0 = .ok (.aload_n 0, 1) := by decide +kernel
theorem dX8_revoke_1 : decode cX8_revoke 1 = .ok (.iconst 0, 1) := by decide +kernel
theorem dX8_revoke_2 : decode cX8_revoke 2 = .ok (.putfield 116, 3) := by decide +kernel
theorem dX8_revoke_5 : decode cX8_revoke 5 = .ok (.aload_n 0, 1) := by decide +kernel
theorem dX8_revoke_6 : decode cX8_revoke 6 = .ok (.getfield 127, 3) := by decide +kernel
theorem dX8_revoke_9 : decode cX8_revoke 9 = .ok (.ifCond .ne 5, 3) := by decide +kernel
theorem dX8_revoke_12 : decode cX8_revoke 12 = .ok (.iconst (-1), 1) := by decide +kernel
theorem dX8_revoke_13 : decode cX8_revoke 13 = .ok (.ireturn, 1) := by decide +kernel
set_option maxHeartbeats 4000000 in
set_option maxRecDepth 100000 in
theorem f_X8_revoke (l : Launch) (D : va_G) (cI cJ : ClassId) (sz : Nat) (g g2 g3 g4 g5 g6 g7 g8 g9 g10 g12 g13 g15 g16 g17 g19 g20 g21 g22 g23 g24 g25 g26 g27 g28 g33 g34 g35 g36 g37 g38 g39 g41 g42 g44 g45 : Nat) : Met l yX8_revoke wsX8_revoke { frames := 0, cells := 0, slots := 0, locals := 0 } (cPc D cI cJ [.ref g] sz [(g, .inr (8, [.int 0, .int 0, .ref g2, .ref g3, .ref g4, .ref g5, .ref g6, .ref g7, .ref g8, .ref g9, .ref g10, .int 0, .ref g12, .ref g13, .int 0, .ref g15, .ref g16, .ref g17, .int 0, .ref g19, .ref g20, .ref g21, .ref g22, .ref g23, .ref g24, .ref g25, .ref g26, .ref g27, .ref g28, .int 0, .int 0, .int 0, .int 0, .ref g33, .ref g34, .ref g35, .ref g36, .ref g37, .ref g38, .ref g39, .int 0, .ref g41, .ref g42, .int 0, .ref g44, .ref g45]))]) (cQi D (fun r u => r = -1 ∧ u = []) (va_A [(g, .inr (8, [.int 0, .int 0, .ref g2, .ref g3, .ref g4, .ref g5, .ref g6, .ref g7, .ref g8, .ref g9, .ref g10, .int 0, .ref g12, .ref g13, .int 0, .ref g15, .ref g16, .ref g17, .int 0, .ref g19, .ref g20, .ref g21, .ref g22, .ref g23, .ref g24, .ref g25, .ref g26, .ref g27, .ref g28, .int 0, .int 0, .int 0, .int 0, .ref g33, .ref g34, .ref g35, .ref g36, .ref g37, .ref g38, .ref g39, .int 0, .ref g41, .ref g42, .int 0, .ref g44, .ref g45]))] sz)) 0 0 (va_A [(g, .inr (8, [.int 0, .int 0, .ref g2, .ref g3, .ref g4, .ref g5, .ref g6, .ref g7, .ref g8, .ref g9, .ref g10, .int 0, .ref g12, .ref g13, .int 0, .ref g15, .ref g16, .ref g17, .int 0, .ref g19, .ref g20, .ref g21, .ref g22, .ref g23, .ref g24, .ref g25, .ref g26, .ref g27, .ref g28, .int 0, .int 0, .int 0, .int 0, .ref g33, .ref g34, .ref g35, .ref g36, .ref g37, .ref g38, .ref g39, .int 0, .ref g41, .ref g42, .int 0, .ref g44, .ref g45]))] sz) := by
  refine k_ofW (Qc := cQi D (fun r u => r = -1 ∧ u = [])) (by decide) rfl (Nat.le_of_ble_eq_true rfl) ?_
  intro p e s m below meth c A ls hx hb hr hml hts hown hlk hnm hsz hE hP hD hS hA hl
  have hown : s.vm.findClass RX8 = some m.cls := hown
  have hiX8 : ∀ w ∈ u_ws RX8 TX8 46, w ∈ wsX8_revoke := fun w h => List.mem_cons_of_mem _ (List.mem_append_right _ h)
  have hl : lv_has ls 1 [(0, .ref g)] := hl
  refine lv_aload_n hx hb dX8_revoke_0 rfl (lv_at hl 0 rfl) ?_
  refine lv_iconst (v := 0) hx hb dX8_revoke_1 (by decide) ?_
  refine va_put (D := D) (ci := 8) (v := .int 0) (ty := .int) (C := RX8) (T := TX8) (N := 46) hx hb hts hiX8 tyX8 tyX8_ok nmX8 hown hE.1 hP hD hS 0 rfl rfl 0 (by decide) (hts _ (List.mem_of_getElem? (i := 1) rfl)) (fun _ h9 => h9) rfl (by decide +kernel) rfl rfl (Nat.le_of_ble_eq_true rfl) dX8_revoke_2 (fun H locs hP hD hS => ?_)
  have hP : va_P D vwCl [(g, .inr (8, [.int 0, .int 0, .ref g2, .ref g3, .ref g4, .ref g5, .ref g6, .ref g7, .ref g8, .ref g9, .ref g10, .int 0, .ref g12, .ref g13, .int 0, .ref g15, .ref g16, .ref g17, .int 0, .ref g19, .ref g20, .ref g21, .ref g22, .ref g23, .ref g24, .ref g25, .ref g26, .ref g27, .ref g28, .int 0, .int 0, .int 0, .int 0, .ref g33, .ref g34, .ref g35, .ref g36, .ref g37, .ref g38, .ref g39, .int 0, .ref g41, .ref g42, .int 0, .ref g44, .ref g45]))] H := hP
  have hD : va_D A [(g, .inr (8, [.int 0, .int 0, .ref g2, .ref g3, .ref g4, .ref g5, .ref g6, .ref g7, .ref g8, .ref g9, .ref g10, .int 0, .ref g12, .ref g13, .int 0, .ref g15, .ref g16, .ref g17, .int 0, .ref g19, .ref g20, .ref g21, .ref g22, .ref g23, .ref g24, .ref g25, .ref g26, .ref g27, .ref g28, .int 0, .int 0, .int 0, .int 0, .ref g33, .ref g34, .ref g35, .ref g36, .ref g37, .ref g38, .ref g39, .int 0, .ref g41, .ref g42, .int 0, .ref g44, .ref g45]))] := hD
  refine lv_aload_n hx hb dX8_revoke_5 rfl (lv_at hl 0 rfl) ?_
  refine va_get (D := D) (ci := 8) (v := .int 0) (C := RX8) (T := TX8) (N := 46) hx hb hts hiX8 hown hE.1 hP 0 rfl rfl 11 (by decide) (hts _ (List.mem_of_getElem? (i := 2) rfl)) (fun _ h9 => h9) rfl dX8_revoke_6 ?_
  refine lv_if_ne (tgt := 14) hx hb dX8_revoke_9 (by decide) (fun c1 => absurd rfl c1) (fun _ => ?_)
  refine lv_iconst (v := (-1)) hx hb dX8_revoke_12 (by decide) ?_
  refine k_iret (u := []) hx hb hr hlk (k_sub hP [] rfl) (hD.sub [] (by decide) rfl) hS dX8_revoke_13 ?_
  exact ⟨rfl, rfl⟩
theorem dX8_rule_0 : decode cX8_rule 0 = .ok (.aload_n 0, 1) := by decide +kernel
theorem dX8_rule_1 : decode cX8_rule 1 = .ok (.iconst 0, 1) := by decide +kernel
theorem dX8_rule_2 : decode cX8_rule 2 = .ok (.putfield 116, 3) := by decide +kernel
theorem dX8_rule_5 : decode cX8_rule 5 = .ok (.aload_n 0, 1) := by decide +kernel
theorem dX8_rule_6 : decode cX8_rule 6 = .ok (.iconst 1, 1) := by decide +kernel
theorem dX8_rule_7 : decode cX8_rule 7 = .ok (.aload_n 0, 1) := by decide +kernel
theorem dX8_rule_8 : decode cX8_rule 8 = .ok (.getfield 151, 3) := by decide +kernel
theorem dX8_rule_11 : decode cX8_rule 11 = .ok (.isub, 1) := by decide +kernel
theorem dX8_rule_12 : decode cX8_rule 12 = .ok (.putfield 151, 3) := by decide +kernel
theorem dX8_rule_15 : decode cX8_rule 15 = .ok (.aload_n 0, 1) := by decide +kernel
theorem dX8_rule_16 : decode cX8_rule 16 = .ok (.getfield 151, 3) := by decide +kernel
theorem dX8_rule_19 : decode cX8_rule 19 = .ok (.ireturn, 1) := by decide +kernel
set_option maxHeartbeats 4000000 in
set_option maxRecDepth 100000 in
theorem f_X8_rule (l : Launch) (D : va_G) (cI cJ : ClassId) (sz : Nat) (g g2 g3 g4 g5 g6 g7 g8 g9 g10 g12 g13 g15 g16 g17 g19 g20 g21 g22 g23 g24 g25 g26 g27 g28 g33 g34 g35 g36 g37 g38 g39 g41 g42 g44 g45 : Nat) : Met l yX8_rule wsX8_rule { frames := 0, cells := 0, slots := 0, locals := 0 } (cPc D cI cJ [.ref g] sz [(g, .inr (8, [.int 0, .int 0, .ref g2, .ref g3, .ref g4, .ref g5, .ref g6, .ref g7, .ref g8, .ref g9, .ref g10, .int 0, .ref g12, .ref g13, .int 0, .ref g15, .ref g16, .ref g17, .int 0, .ref g19, .ref g20, .ref g21, .ref g22, .ref g23, .ref g24, .ref g25, .ref g26, .ref g27, .ref g28, .int 0, .int 0, .int 0, .int 0, .ref g33, .ref g34, .ref g35, .ref g36, .ref g37, .ref g38, .ref g39, .int 0, .ref g41, .ref g42, .int 0, .ref g44, .ref g45]))]) (cQi D (fun r u => r = 1 ∧ u = []) (va_A [(g, .inr (8, [.int 0, .int 0, .ref g2, .ref g3, .ref g4, .ref g5, .ref g6, .ref g7, .ref g8, .ref g9, .ref g10, .int 0, .ref g12, .ref g13, .int 0, .ref g15, .ref g16, .ref g17, .int 0, .ref g19, .ref g20, .ref g21, .ref g22, .ref g23, .ref g24, .ref g25, .ref g26, .ref g27, .ref g28, .int 0, .int 0, .int 0, .int 0, .ref g33, .ref g34, .ref g35, .ref g36, .ref g37, .ref g38, .ref g39, .int 0, .ref g41, .ref g42, .int 0, .ref g44, .ref g45]))] sz)) 0 0 (va_A [(g, .inr (8, [.int 0, .int 0, .ref g2, .ref g3, .ref g4, .ref g5, .ref g6, .ref g7, .ref g8, .ref g9, .ref g10, .int 0, .ref g12, .ref g13, .int 0, .ref g15, .ref g16, .ref g17, .int 0, .ref g19, .ref g20, .ref g21, .ref g22, .ref g23, .ref g24, .ref g25, .ref g26, .ref g27, .ref g28, .int 0, .int 0, .int 0, .int 0, .ref g33, .ref g34, .ref g35, .ref g36, .ref g37, .ref g38, .ref g39, .int 0, .ref g41, .ref g42, .int 0, .ref g44, .ref g45]))] sz) := by
  refine k_ofW (Qc := cQi D (fun r u => r = 1 ∧ u = [])) (by decide) rfl (Nat.le_of_ble_eq_true rfl) ?_
  intro p e s m below meth c A ls hx hb hr hml hts hown hlk hnm hsz hE hP hD hS hA hl
  have hown : s.vm.findClass RX8 = some m.cls := hown
  have hiX8 : ∀ w ∈ u_ws RX8 TX8 46, w ∈ wsX8_rule := fun w h => List.mem_cons_of_mem _ (List.mem_append_right _ h)
  have hl : lv_has ls 1 [(0, .ref g)] := hl
  refine lv_aload_n hx hb dX8_rule_0 rfl (lv_at hl 0 rfl) ?_
  refine lv_iconst (v := 0) hx hb dX8_rule_1 (by decide) ?_
  refine va_put (D := D) (ci := 8) (v := .int 0) (ty := .int) (C := RX8) (T := TX8) (N := 46) hx hb hts hiX8 tyX8 tyX8_ok nmX8 hown hE.1 hP hD hS 0 rfl rfl 0 (by decide) (hts _ (List.mem_of_getElem? (i := 1) rfl)) (fun _ h9 => h9) rfl (by decide +kernel) rfl rfl (Nat.le_of_ble_eq_true rfl) dX8_rule_2 (fun H locs hP hD hS => ?_)
  have hP : va_P D vwCl [(g, .inr (8, [.int 0, .int 0, .ref g2, .ref g3, .ref g4, .ref g5, .ref g6, .ref g7, .ref g8, .ref g9, .ref g10, .int 0, .ref g12, .ref g13, .int 0, .ref g15, .ref g16, .ref g17, .int 0, .ref g19, .ref g20, .ref g21, .ref g22, .ref g23, .ref g24, .ref g25, .ref g26, .ref g27, .ref g28, .int 0, .int 0, .int 0, .int 0, .ref g33, .ref g34, .ref g35, .ref g36, .ref g37, .ref g38, .ref g39, .int 0, .ref g41, .ref g42, .int 0, .ref g44, .ref g45]))] H := hP
  have hD : va_D A [(g, .inr (8, [.int 0, .int 0, .ref g2, .ref g3, .ref g4, .ref g5, .ref g6, .ref g7, .ref g8, .ref g9, .ref g10, .int 0, .ref g12, .ref g13, .int 0, .ref g15, .ref g16, .ref g17, .int 0, .ref g19, .ref g20, .ref g21, .ref g22, .ref g23, .ref g24, .ref g25, .ref g26, .ref g27, .ref g28, .int 0, .int 0, .int 0, .int 0, .ref g33, .ref g34, .ref g35, .ref g36, .ref g37, .ref g38, .ref g39, .int 0, .ref g41, .ref g42, .int 0, .ref g44, .ref g45]))] := hD
  refine lv_aload_n hx hb dX8_rule_5 rfl (lv_at hl 0 rfl) ?_
  refine lv_iconst (v := 1) hx hb dX8_rule_6 (by decide) ?_
  refine lv_aload_n hx hb dX8_rule_7 rfl (lv_at hl 0 rfl) ?_
  refine va_get (D := D) (ci := 8) (v := .int 0) (C := RX8) (T := TX8) (N := 46) hx hb hts hiX8 hown hE.1 hP 0 rfl rfl 14 (by decide) (hts _ (List.mem_of_getElem? (i := 2) rfl)) (fun _ h9 => h9) rfl dX8_rule_8 ?_
  refine lv_isub hx hb dX8_rule_11 ?_
  refine lv_topi (fun v1 ev1 => ?_)
  obtain rfl : v1 = 1 := by rw [ev1]; decide
  refine va_put (D := D) (ci := 8) (v := .int 1) (ty := .int) (C := RX8) (T := TX8) (N := 46) hx hb hts hiX8 tyX8 tyX8_ok nmX8 hown hE.1 hP hD hS 0 rfl rfl 14 (by decide) (hts _ (List.mem_of_getElem? (i := 2) rfl)) (fun _ h9 => h9) rfl (by decide +kernel) rfl rfl (Nat.le_of_ble_eq_true rfl) dX8_rule_12 (fun H locs hP hD hS => ?_)
  have hP : va_P D vwCl [(g, .inr (8, [.int 0, .int 0, .ref g2, .ref g3, .ref g4, .ref g5, .ref g6, .ref g7, .ref g8, .ref g9, .ref g10, .int 0, .ref g12, .ref g13, .int 1, .ref g15, .ref g16, .ref g17, .int 0, .ref g19, .ref g20, .ref g21, .ref g22, .ref g23, .ref g24, .ref g25, .ref g26, .ref g27, .ref g28, .int 0, .int 0, .int 0, .int 0, .ref g33, .ref g34, .ref g35, .ref g36, .ref g37, .ref g38, .ref g39, .int 0, .ref g41, .ref g42, .int 0, .ref g44, .ref g45]))] H := hP
  have hD : va_D A [(g, .inr (8, [.int 0, .int 0, .ref g2, .ref g3, .ref g4, .ref g5, .ref g6, .ref g7, .ref g8, .ref g9, .ref g10, .int 0, .ref g12, .ref g13, .int 1, .ref g15, .ref g16, .ref g17, .int 0, .ref g19, .ref g20, .ref g21, .ref g22, .ref g23, .ref g24, .ref g25, .ref g26, .ref g27, .ref g28, .int 0, .int 0, .int 0, .int 0, .ref g33, .ref g34, .ref g35, .ref g36, .ref g37, .ref g38, .ref g39, .int 0, .ref g41, .ref g42, .int 0, .ref g44, .ref g45]))] := hD
  refine lv_aload_n hx hb dX8_rule_15 rfl (lv_at hl 0 rfl) ?_
  refine va_get (D := D) (ci := 8) (v := .int 1) (C := RX8) (T := TX8) (N := 46) hx hb hts hiX8 hown hE.1 hP 0 rfl rfl 14 (by decide) (hts _ (List.mem_of_getElem? (i := 2) rfl)) (fun _ h9 => h9) rfl dX8_rule_16 ?_
  refine k_iret (u := []) hx hb hr hlk (k_sub hP [] rfl) (hD.sub [] (by decide) rfl) hS dX8_rule_19 ?_
  exact ⟨rfl, rfl⟩
theorem dX8_file_0 : decode cX8_file 0 = .ok (.aload_n 0, 1) := by decide +kernel
theorem dX8_file_1 : decode cX8_file 1 = .ok (.iconst 0, 1) := by decide +kernel
theorem dX8_file_2 : decode cX8_file 2 = .ok (.putfield 116, 3) := by decide +kernel
theorem dX8_file_5 : decode cX8_file 5 = .ok (.iload_n 1, 1) := by decide +kernel
theorem dX8_file_6 : decode cX8_file 6 = .ok (.iload_n 2, 1) := by decide +kernel
theorem dX8_file_7 : decode cX8_file 7 = .ok (.invokestatic 315, 3) := by decide +kernel
theorem dX8_file_10 : decode cX8_file 10 = .ok (.ifCond .eq 11, 3) := by decide +kernel
theorem dX8_file_13 : decode cX8_file 13 = .ok (.aload_n 0, 1) := by decide +kernel
theorem dX8_file_14 : decode cX8_file 14 = .ok (.iload_n 3, 1) := by decide +kernel
theorem dX8_file_15 : decode cX8_file 15 = .ok (.invokevirtual 140, 3) := by decide +kernel
theorem dX8_file_18 : decode cX8_file 18 = .ok (.ifCond .ne 5, 3) := by decide +kernel
theorem dX8_file_21 : decode cX8_file 21 = .ok (.iconst (-1), 1) := by decide +kernel
theorem dX8_file_22 : decode cX8_file 22 = .ok (.ireturn, 1) := by decide +kernel
set_option maxRecDepth 20000 in
theorem ggX8_file_X8_isPlace : GoodIn wsX8_file wsX8_isPlace := goodIn_r _ [9, 10, 11, 12, 13, 8, 14] (by decide +kernel) (by decide +kernel)
set_option maxRecDepth 20000 in
theorem gX8_file_X8_isPlace : GoodIn wsX8_file (va_wsS RX8 315 yX8_isPlace wsX8_isPlace) := goodIn_app (goodIn_of _ (by decide +kernel)) ggX8_file_X8_isPlace
set_option maxRecDepth 20000 in
theorem ggX8_file_X8_isPolicy : GoodIn wsX8_file wsX8_isPolicy := goodIn_r _ [18, 19, 12, 13, 8, 14, 20, 21, 22, 23, 24, 25, 26, 27, 28, 29, 30, 31, 32, 33, 34, 35, 36, 37, 38, 39, 40, 41, 42, 43, 44, 45, 46, 47, 48, 49, 50, 51, 52, 53, 54, 55, 56, 57, 58, 59, 60, 61, 62, 63, 64, 65] (by decide +kernel) (by decide +kernel)
set_option maxRecDepth 20000 in
theorem gX8_file_X8_isPolicy : GoodIn wsX8_file (wsV RX8 140 RX8 yX8_isPolicy wsX8_isPolicy) := goodIn_app (goodIn_of _ (by decide +kernel)) ggX8_file_X8_isPolicy
set_option maxHeartbeats 4000000 in
set_option maxRecDepth 100000 in
theorem f_X8_file (l : Launch) (D : va_G) (cI cJ : ClassId) (sz : Nat) (g g2 g3 g4 g5 g6 g7 g8 g9 g10 g12 g13 g15 g16 g17 g19 g20 g21 g22 g23 g24 g25 g26 g27 g28 g33 g34 g35 g36 g37 g38 g39 g41 g42 g44 g45 : Nat) (p0 p1 p2 : Int32) : Met l yX8_file wsX8_file { frames := 2, cells := 0, slots := 0, locals := 46 } (cPc D cI cJ [.ref g, .int p0, .int p1, .int p2] sz [(g, .inr (8, [.int 0, .int 0, .ref g2, .ref g3, .ref g4, .ref g5, .ref g6, .ref g7, .ref g8, .ref g9, .ref g10, .int 0, .ref g12, .ref g13, .int 0, .ref g15, .ref g16, .ref g17, .int 0, .ref g19, .ref g20, .ref g21, .ref g22, .ref g23, .ref g24, .ref g25, .ref g26, .ref g27, .ref g28, .int 0, .int 0, .int 0, .int 0, .ref g33, .ref g34, .ref g35, .ref g36, .ref g37, .ref g38, .ref g39, .int 0, .ref g41, .ref g42, .int 0, .ref g44, .ref g45]))]) (cQi D (fun r u => r = -1 ∧ u = []) (va_A [(g, .inr (8, [.int 0, .int 0, .ref g2, .ref g3, .ref g4, .ref g5, .ref g6, .ref g7, .ref g8, .ref g9, .ref g10, .int 0, .ref g12, .ref g13, .int 0, .ref g15, .ref g16, .ref g17, .int 0, .ref g19, .ref g20, .ref g21, .ref g22, .ref g23, .ref g24, .ref g25, .ref g26, .ref g27, .ref g28, .int 0, .int 0, .int 0, .int 0, .ref g33, .ref g34, .ref g35, .ref g36, .ref g37, .ref g38, .ref g39, .int 0, .ref g41, .ref g42, .int 0, .ref g44, .ref g45]))] sz)) 0 0 (va_A [(g, .inr (8, [.int 0, .int 0, .ref g2, .ref g3, .ref g4, .ref g5, .ref g6, .ref g7, .ref g8, .ref g9, .ref g10, .int 0, .ref g12, .ref g13, .int 0, .ref g15, .ref g16, .ref g17, .int 0, .ref g19, .ref g20, .ref g21, .ref g22, .ref g23, .ref g24, .ref g25, .ref g26, .ref g27, .ref g28, .int 0, .int 0, .int 0, .int 0, .ref g33, .ref g34, .ref g35, .ref g36, .ref g37, .ref g38, .ref g39, .int 0, .ref g41, .ref g42, .int 0, .ref g44, .ref g45]))] sz) := by
  refine k_ofW (Qc := cQi D (fun r u => r = -1 ∧ u = [])) (by decide) rfl (Nat.le_of_ble_eq_true rfl) ?_
  intro p e s m below meth c A ls hx hb hr hml hts hown hlk hnm hsz hE hP hD hS hA hl
  have hown : s.vm.findClass RX8 = some m.cls := hown
  have hiX8 : ∀ w ∈ u_ws RX8 TX8 46, w ∈ wsX8_file := fun w h => List.mem_cons_of_mem _ (List.mem_append_right _ h)
  have hl : lv_has ls 4 [(0, .ref g), (1, .int p0), (2, .int p1), (3, .int p2)] := hl
  refine lv_aload_n hx hb dX8_file_0 rfl (lv_at hl 0 rfl) ?_
  refine lv_iconst (v := 0) hx hb dX8_file_1 (by decide) ?_
  refine va_put (D := D) (ci := 8) (v := .int 0) (ty := .int) (C := RX8) (T := TX8) (N := 46) hx hb hts hiX8 tyX8 tyX8_ok nmX8 hown hE.1 hP hD hS 0 rfl rfl 0 (by decide) (hts _ (List.mem_of_getElem? (i := 1) rfl)) (fun _ h9 => h9) rfl (by decide +kernel) rfl rfl (Nat.le_of_ble_eq_true rfl) dX8_file_2 (fun H locs hP hD hS => ?_)
  have hP : va_P D vwCl [(g, .inr (8, [.int 0, .int 0, .ref g2, .ref g3, .ref g4, .ref g5, .ref g6, .ref g7, .ref g8, .ref g9, .ref g10, .int 0, .ref g12, .ref g13, .int 0, .ref g15, .ref g16, .ref g17, .int 0, .ref g19, .ref g20, .ref g21, .ref g22, .ref g23, .ref g24, .ref g25, .ref g26, .ref g27, .ref g28, .int 0, .int 0, .int 0, .int 0, .ref g33, .ref g34, .ref g35, .ref g36, .ref g37, .ref g38, .ref g39, .int 0, .ref g41, .ref g42, .int 0, .ref g44, .ref g45]))] H := hP
  have hD : va_D A [(g, .inr (8, [.int 0, .int 0, .ref g2, .ref g3, .ref g4, .ref g5, .ref g6, .ref g7, .ref g8, .ref g9, .ref g10, .int 0, .ref g12, .ref g13, .int 0, .ref g15, .ref g16, .ref g17, .int 0, .ref g19, .ref g20, .ref g21, .ref g22, .ref g23, .ref g24, .ref g25, .ref g26, .ref g27, .ref g28, .int 0, .int 0, .int 0, .int 0, .ref g33, .ref g34, .ref g35, .ref g36, .ref g37, .ref g38, .ref g39, .int 0, .ref g41, .ref g42, .int 0, .ref g44, .ref g45]))] := hD
  refine lv_iload_n hx hb dX8_file_5 rfl (lv_at hl 1 rfl) ?_
  refine lv_iload_n hx hb dX8_file_6 rfl (lv_at hl 2 rfl) ?_
  refine k_i (va_runS (As := [.int p0, .int p1]) (rest := []) ⟨hx, hb, hml, hown, hts⟩ (m_X8_isPlace l D cI cJ H.size p0 p1) (va_cwS 2 hts gX8_file_X8_isPlace rfl rfl rfl (by decide +kernel) ⟨Nat.le_of_ble_eq_true rfl, Nat.le_of_ble_eq_true rfl⟩) (k_pre hE hP hD [] (by decide) rfl) rfl rfl hl.1 rfl (lv_room (Nat.le_of_ble_eq_true rfl)) dX8_file_7 ⟨Nat.le_of_ble_eq_true rfl, Nat.le_of_ble_eq_true rfl⟩) hP hD hS hA [] [0] rfl (wr := [(g, .inr (8, [.int 0, .int 0, .ref g2, .ref g3, .ref g4, .ref g5, .ref g6, .ref g7, .ref g8, .ref g9, .ref g10, .int 0, .ref g12, .ref g13, .int 0, .ref g15, .ref g16, .ref g17, .int 0, .ref g19, .ref g20, .ref g21, .ref g22, .ref g23, .ref g24, .ref g25, .ref g26, .ref g27, .ref g28, .int 0, .int 0, .int 0, .int 0, .ref g33, .ref g34, .ref g35, .ref g36, .ref g37, .ref g38, .ref g39, .int 0, .ref g41, .ref g42, .int 0, .ref g44, .ref g45]))]) rfl (by decide) (by decide) (fun r1 u H locs hw2 hP hD hS => ?_)
  obtain ⟨hw2, rfl⟩ := hw2
  have hP : va_P D vwCl [(g, .inr (8, [.int 0, .int 0, .ref g2, .ref g3, .ref g4, .ref g5, .ref g6, .ref g7, .ref g8, .ref g9, .ref g10, .int 0, .ref g12, .ref g13, .int 0, .ref g15, .ref g16, .ref g17, .int 0, .ref g19, .ref g20, .ref g21, .ref g22, .ref g23, .ref g24, .ref g25, .ref g26, .ref g27, .ref g28, .int 0, .int 0, .int 0, .int 0, .ref g33, .ref g34, .ref g35, .ref g36, .ref g37, .ref g38, .ref g39, .int 0, .ref g41, .ref g42, .int 0, .ref g44, .ref g45]))] H := hP
  have hD : va_D A [(g, .inr (8, [.int 0, .int 0, .ref g2, .ref g3, .ref g4, .ref g5, .ref g6, .ref g7, .ref g8, .ref g9, .ref g10, .int 0, .ref g12, .ref g13, .int 0, .ref g15, .ref g16, .ref g17, .int 0, .ref g19, .ref g20, .ref g21, .ref g22, .ref g23, .ref g24, .ref g25, .ref g26, .ref g27, .ref g28, .int 0, .int 0, .int 0, .int 0, .ref g33, .ref g34, .ref g35, .ref g36, .ref g37, .ref g38, .ref g39, .int 0, .ref g41, .ref g42, .int 0, .ref g44, .ref g45]))] := hD
  refine lv_if_eq (tgt := 21) hx hb dX8_file_10 (by decide) (fun c3 => ?_) (fun c3 => ?_)
  · skip
    have hc3 : ¬ ((0 ≤ p0 ∧ p0 ≤ 3) ∧ 0 ≤ p1 ∧ p1 ≤ 7) := bz_0 hw2 c3
    refine lv_iconst (v := (-1)) hx hb dX8_file_21 (by decide) ?_
    refine k_iret (u := []) hx hb hr hlk (k_sub hP [] rfl) (hD.sub [] (by decide) rfl) hS dX8_file_22 ?_
    exact ⟨rfl, rfl⟩
  · skip
    have hc3 : (0 ≤ p0 ∧ p0 ≤ 3) ∧ 0 ≤ p1 ∧ p1 ≤ 7 := bz_1 hw2 c3
    refine lv_aload_n hx hb dX8_file_13 rfl (lv_at hl 0 rfl) ?_
    refine lv_iload_n hx hb dX8_file_14 rfl (lv_at hl 3 rfl) ?_
    refine k_i (va_runV (As := [.int p2]) (rest := []) ⟨hx, hb, hml, hown, hts⟩ (f_X8_isPolicy l D cI cJ H.size g g2 g3 g4 g5 g6 g7 g8 g9 g10 g12 g13 g15 g16 g17 g19 g20 g21 g22 g23 g24 g25 g26 g27 g28 g33 g34 g35 g36 g37 g38 g39 g41 g42 g44 g45 p2) (cwV 1 hts gX8_file_X8_isPolicy rfl rfl rfl (by decide +kernel) ⟨Nat.le_of_ble_eq_true rfl, Nat.le_of_ble_eq_true rfl⟩) (k_preV hE hP hD [0] (by decide) rfl 0 rfl rfl) rfl rfl hl.1 rfl (lv_room (Nat.le_of_ble_eq_true rfl)) dX8_file_15 ⟨Nat.le_of_ble_eq_true rfl, Nat.le_of_ble_eq_true rfl⟩) hP hD hS hA [0] [] rfl (wr := []) rfl (by decide) (by decide) (fun r4 u H locs hw5 hP hD hS => ?_)
    obtain ⟨rfl, rfl⟩ := hw5
    have hP : va_P D vwCl [(g, .inr (8, [.int 0, .int 0, .ref g2, .ref g3, .ref g4, .ref g5, .ref g6, .ref g7, .ref g8, .ref g9, .ref g10, .int 0, .ref g12, .ref g13, .int 0, .ref g15, .ref g16, .ref g17, .int 0, .ref g19, .ref g20, .ref g21, .ref g22, .ref g23, .ref g24, .ref g25, .ref g26, .ref g27, .ref g28, .int 0, .int 0, .int 0, .int 0, .ref g33, .ref g34, .ref g35, .ref g36, .ref g37, .ref g38, .ref g39, .int 0, .ref g41, .ref g42, .int 0, .ref g44, .ref g45]))] H := hP
    have hD : va_D A [(g, .inr (8, [.int 0, .int 0, .ref g2, .ref g3, .ref g4, .ref g5, .ref g6, .ref g7, .ref g8, .ref g9, .ref g10, .int 0, .ref g12, .ref g13, .int 0, .ref g15, .ref g16, .ref g17, .int 0, .ref g19, .ref g20, .ref g21, .ref g22, .ref g23, .ref g24, .ref g25, .ref g26, .ref g27, .ref g28, .int 0, .int 0, .int 0, .int 0, .ref g33, .ref g34, .ref g35, .ref g36, .ref g37, .ref g38, .ref g39, .int 0, .ref g41, .ref g42, .int 0, .ref g44, .ref g45]))] := hD
    refine lv_if_ne (tgt := 23) hx hb dX8_file_18 (by decide) (fun c6 => absurd rfl c6) (fun _ => ?_)
    refine lv_iconst (v := (-1)) hx hb dX8_file_21 (by decide) ?_
    refine k_iret (u := []) hx hb hr hlk (k_sub hP [] rfl) (hD.sub [] (by decide) rfl) hS dX8_file_22 ?_
    exact ⟨rfl, rfl⟩
