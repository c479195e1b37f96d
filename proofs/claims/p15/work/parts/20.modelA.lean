theorem w3 {a lo hi : Int32} {l h : Int64} (hl : Int32.toInt64 lo = l) (hh : Int32.toInt64 hi = h) : (l ≤ Int32.toInt64 a ∧ Int32.toInt64 a ≤ h) ↔ (lo ≤ a ∧ a ≤ hi) := by
  rw [← hl, ← hh]
  have e : ∀ x y : Int32, Int32.toInt64 x ≤ Int32.toInt64 y ↔ x ≤ y := fun x y => by
    rw [Int64.le_iff_toInt_le, Int32.le_iff_toInt_le, Int32.toInt_toInt64, Int32.toInt_toInt64]
  rw [e, e]
theorem dX8_in_0 : decode cX8_in 0 = .ok (.lload_n 0, 1) := by decide +kernel
theorem dX8_in_1 : decode cX8_in 1 = .ok (.lload_n 2, 1) := by decide +kernel
theorem dX8_in_2 : decode cX8_in 2 = .ok (.lcmp, 1) := by decide +kernel
theorem dX8_in_3 : decode cX8_in 3 = .ok (.ifCond .lt 14, 3) := by decide +kernel
theorem dX8_in_6 : decode cX8_in 6 = .ok (.lload_n 0, 1) := by decide +kernel
theorem dX8_in_7 : decode cX8_in 7 = .ok (.lload 4, 2) := by decide +kernel
theorem dX8_in_9 : decode cX8_in 9 = .ok (.lcmp, 1) := by decide +kernel
theorem dX8_in_10 : decode cX8_in 10 = .ok (.ifCond .gt 7, 3) := by decide +kernel
theorem dX8_in_13 : decode cX8_in 13 = .ok (.iconst 1, 1) := by decide +kernel
theorem dX8_in_14 : decode cX8_in 14 = .ok (.goto 4, 3) := by decide +kernel
theorem dX8_in_17 : decode cX8_in 17 = .ok (.iconst 0, 1) := by decide +kernel
theorem dX8_in_18 : decode cX8_in 18 = .ok (.ireturn, 1) := by decide +kernel
set_option maxHeartbeats 4000000 in
set_option maxRecDepth 100000 in
theorem m_X8_in (l : Launch) (D : va_G) (cI cJ : ClassId) (sz : Nat) (n lo hi : Int64) : Met l yX8_in wtX8_in { frames := 0, cells := 0, slots := 0, locals := 0 } (cPc D cI cJ [.long n, .long lo, .long hi] sz []) (cQi D (fun r u => r = bz (lo ≤ n ∧ n ≤ hi) ∧ u = []) (va_A [] sz)) 0 0 (va_A [] sz) := by
  refine k_ofW (Qc := cQi D (fun r u => r = bz (lo ≤ n ∧ n ≤ hi) ∧ u = [])) (by decide) rfl (Nat.le_of_ble_eq_true rfl) ?_
  intro p e s m below meth c A ls hx hb hr hml hts hown hlk hnm hsz hE hP hD hS hA hl
  have hown : s.vm.findClass RX8 = some m.cls := hown
  have hl : lv_has ls 6 [(0, .long n), (2, .long lo), (4, .long hi)] := hl
  refine lv_lload_n hx hb dX8_in_0 rfl (lv_at hl 0 rfl) ?_
  refine lv_lload_n hx hb dX8_in_1 rfl (lv_at hl 1 rfl) ?_
  refine k_lcmp_lt (tgt := 17) hx hb dX8_in_2 dX8_in_3 (by decide) (fun c1 => ?_) (fun c1 => ?_)
  · skip
    refine lv_iconst (v := 0) hx hb dX8_in_17 (by decide) ?_
    refine k_zret (u := []) hx hb hr (by decide) hlk hP hD hS dX8_in_18 ?_
    exact ⟨bz_f (wl_f1 c1), rfl⟩
  · skip
    refine lv_lload_n hx hb dX8_in_6 rfl (lv_at hl 0 rfl) ?_
    refine lv_lload hx hb dX8_in_7 (lv_at hl 2 rfl) ?_
    refine k_lcmp_gt (tgt := 17) hx hb dX8_in_9 dX8_in_10 (by decide) (fun c2 => ?_) (fun c2 => ?_)
    · skip
      refine lv_iconst (v := 0) hx hb dX8_in_17 (by decide) ?_
      refine k_zret (u := []) hx hb hr (by decide) hlk hP hD hS dX8_in_18 ?_
      exact ⟨bz_f (wl_f2 c2), rfl⟩
    · skip
      refine lv_iconst (v := 1) hx hb dX8_in_13 (by decide) ?_
      refine lv_goto (tgt := 18) hx hb dX8_in_14 (by decide) ?_
      refine k_zret (u := []) hx hb hr (by decide) hlk hP hD hS dX8_in_18 ?_
      exact ⟨bz_t (wl_t c1 c2), rfl⟩
theorem dX8_isPolicy_0 : decode cX8_isPolicy 0 = .ok (.iload_n 1, 1) := by decide +kernel
theorem dX8_isPolicy_1 : decode cX8_isPolicy 1 = .ok (.i2l, 1) := by decide +kernel
theorem dX8_isPolicy_2 : decode cX8_isPolicy 2 = .ok (.lconst 0, 1) := by decide +kernel
theorem dX8_isPolicy_3 : decode cX8_isPolicy 3 = .ok (.aload_n 0, 1) := by decide +kernel
theorem dX8_isPolicy_4 : decode cX8_isPolicy 4 = .ok (.getfield 120, 3) := by decide +kernel
theorem dX8_isPolicy_7 : decode cX8_isPolicy 7 = .ok (.iconst 1, 1) := by decide +kernel
theorem dX8_isPolicy_8 : decode cX8_isPolicy 8 = .ok (.isub, 1) := by decide +kernel
theorem dX8_isPolicy_9 : decode cX8_isPolicy 9 = .ok (.i2l, 1) := by decide +kernel
theorem dX8_isPolicy_10 : decode cX8_isPolicy 10 = .ok (.invokestatic 123, 3) := by decide +kernel
theorem dX8_isPolicy_13 : decode cX8_isPolicy 13 = .ok (.ireturn, 1) := by decide +kernel
theorem gX8_isPolicy_X8_in : GoodIn wtX8_isPolicy (va_wsS RX8 123 yX8_in wtX8_in) := tb_good (tb_s0 wd_177 wd_178 wd_5 wd_179)
set_option maxHeartbeats 4000000 in
set_option maxRecDepth 100000 in
theorem m_X8_isPolicy (l : Launch) (D : va_G) (cI cJ : ClassId) (sz : Nat) (g g2 g3 g4 g5 g6 g7 g8 g9 g10 g12 g13 g15 g16 g17 g19 g20 g21 g22 g23 g24 g25 g26 g27 g28 g33 g34 g35 g36 g37 g38 g39 g41 g42 g44 g45 mn ml mv : Nat) (gi0 gi14 gi18 gi29 gi30 gi32 gi40 gi43 n : Int32) : Met l yX8_isPolicy wtX8_isPolicy { frames := 1, cells := 0, slots := 0, locals := 25 } (cPc D cI cJ [.ref g, .int n] sz [(oX8 g gi0 (nI mn) g2 g3 g4 g5 g6 g7 g8 g9 g10 (nI ml) g12 g13 gi14 g15 g16 g17 gi18 g19 g20 g21 g22 g23 g24 g25 g26 g27 g28 gi29 gi30 (nI mv) gi32 g33 g34 g35 g36 g37 g38 g39 gi40 g41 g42 gi43 g44 g45)]) (cQi D (fun r u => r = bz (0 ≤ n ∧ n ≤ nI mn - 1) ∧ u = [(oX8 g gi0 (nI mn) g2 g3 g4 g5 g6 g7 g8 g9 g10 (nI ml) g12 g13 gi14 g15 g16 g17 gi18 g19 g20 g21 g22 g23 g24 g25 g26 g27 g28 gi29 gi30 (nI mv) gi32 g33 g34 g35 g36 g37 g38 g39 gi40 g41 g42 gi43 g44 g45)]) (va_A [(oX8 g gi0 (nI mn) g2 g3 g4 g5 g6 g7 g8 g9 g10 (nI ml) g12 g13 gi14 g15 g16 g17 gi18 g19 g20 g21 g22 g23 g24 g25 g26 g27 g28 gi29 gi30 (nI mv) gi32 g33 g34 g35 g36 g37 g38 g39 gi40 g41 g42 gi43 g44 g45)] sz)) 0 0 (va_A [(oX8 g gi0 (nI mn) g2 g3 g4 g5 g6 g7 g8 g9 g10 (nI ml) g12 g13 gi14 g15 g16 g17 gi18 g19 g20 g21 g22 g23 g24 g25 g26 g27 g28 gi29 gi30 (nI mv) gi32 g33 g34 g35 g36 g37 g38 g39 gi40 g41 g42 gi43 g44 g45)] sz) := by
  refine k_ofW (Qc := cQi D (fun r u => r = bz (0 ≤ n ∧ n ≤ nI mn - 1) ∧ u = [(oX8 g gi0 (nI mn) g2 g3 g4 g5 g6 g7 g8 g9 g10 (nI ml) g12 g13 gi14 g15 g16 g17 gi18 g19 g20 g21 g22 g23 g24 g25 g26 g27 g28 gi29 gi30 (nI mv) gi32 g33 g34 g35 g36 g37 g38 g39 gi40 g41 g42 gi43 g44 g45)])) (by decide) rfl (Nat.le_of_ble_eq_true rfl) ?_
  intro p e s m below meth c A ls hx hb hr hml hts hown hlk hnm hsz hE hP hD hS hA hl
  have hown : s.vm.findClass RX8 = some m.cls := hown
  have hiX8 : ∀ w ∈ u_ws RX8 TX8 46, w ∈ wtX8_isPolicy := fun w h => List.mem_cons_of_mem _ (iuX8 w h)
  have hl : lv_has ls 2 [(0, .ref g), (1, .int n)] := hl
  refine lv_iload_n hx hb dX8_isPolicy_0 rfl (lv_at hl 1 rfl) ?_
  refine lv_i2l hx hb dX8_isPolicy_1 rfl ?_
  refine lv_lconst (v := 0) hx hb dX8_isPolicy_2 (by decide) ?_
  refine lv_aload_n hx hb dX8_isPolicy_3 rfl (lv_at hl 0 rfl) ?_
  refine va_get (D := D) (ci := 8) (v := .int (nI mn)) (C := RX8) (T := TX8) (N := 46) hx hb hts hiX8 hown hE.1 hP 0 rfl rfl 1 (by decide) (hts _ (List.mem_cons_of_mem _ wd_176)) (fun _ h9 => h9) rfl dX8_isPolicy_4 ?_
  refine lv_iconst (v := 1) hx hb dX8_isPolicy_7 (by decide) ?_
  refine lv_isub hx hb dX8_isPolicy_8 ?_
  refine lv_topi (fun v1 ev1 => ?_)
  refine lv_i2l hx hb dX8_isPolicy_9 rfl ?_
  refine k_iS (va_runS (As := [.long (Int32.toInt64 n), .long 0, .long (Int32.toInt64 v1)]) (rest := []) ⟨hx, hb, hml, hown, hts⟩ (m_X8_in l D cI cJ (s.heap).size (Int32.toInt64 n) 0 (Int32.toInt64 v1)) (va_cwS 3 hts gX8_isPolicy_X8_in rfl rfl rfl (by decide +kernel) ⟨Nat.le_of_ble_eq_true rfl, Nat.le_of_ble_eq_true rfl⟩) (k_pre hE hP hD [] (by decide +kernel) rfl) rfl rfl hl.1 rfl (lv_room (Nat.le_of_ble_eq_true rfl)) dX8_isPolicy_10 ⟨Nat.le_of_ble_eq_true rfl, Nat.le_of_ble_eq_true rfl⟩) hP hD hS hA [] rfl (fun _ _ h9 => h9.2) (fun r2 H locs hw3 hP hD hS => ?_)
  obtain ⟨hw3, -⟩ := hw3
  have hw4 : r2 = bz (0 ≤ n ∧ n ≤ v1) := by rw [hw3]; exact bz_c (w3 (a := n) (lo := 0) (hi := v1) (by decide) rfl)
  refine k_zret (u := [(oX8 g gi0 (nI mn) g2 g3 g4 g5 g6 g7 g8 g9 g10 (nI ml) g12 g13 gi14 g15 g16 g17 gi18 g19 g20 g21 g22 g23 g24 g25 g26 g27 g28 gi29 gi30 (nI mv) gi32 g33 g34 g35 g36 g37 g38 g39 gi40 g41 g42 gi43 g44 g45)]) hx hb hr (bz_01 hw4) hlk hP hD hS dX8_isPolicy_13 ?_
  exact ⟨(by first | exact hw4 | (subst_vars; first | rfl | assumption)), rfl⟩
theorem dX8_isLoss_0 : decode cX8_isLoss 0 = .ok (.iload_n 1, 1) := by decide +kernel
theorem dX8_isLoss_1 : decode cX8_isLoss 1 = .ok (.i2l, 1) := by decide +kernel
theorem dX8_isLoss_2 : decode cX8_isLoss 2 = .ok (.lconst 0, 1) := by decide +kernel
theorem dX8_isLoss_3 : decode cX8_isLoss 3 = .ok (.aload_n 0, 1) := by decide +kernel
theorem dX8_isLoss_4 : decode cX8_isLoss 4 = .ok (.getfield 127, 3) := by decide +kernel
theorem dX8_isLoss_7 : decode cX8_isLoss 7 = .ok (.iconst 1, 1) := by decide +kernel
theorem dX8_isLoss_8 : decode cX8_isLoss 8 = .ok (.isub, 1) := by decide +kernel
theorem dX8_isLoss_9 : decode cX8_isLoss 9 = .ok (.i2l, 1) := by decide +kernel
theorem dX8_isLoss_10 : decode cX8_isLoss 10 = .ok (.invokestatic 123, 3) := by decide +kernel
theorem dX8_isLoss_13 : decode cX8_isLoss 13 = .ok (.ireturn, 1) := by decide +kernel
theorem gX8_isLoss_X8_in : GoodIn wtX8_isLoss (va_wsS RX8 123 yX8_in wtX8_in) := tb_good (tb_s0 wd_177 wd_178 wd_5 wd_179)
set_option maxHeartbeats 4000000 in
set_option maxRecDepth 100000 in
theorem m_X8_isLoss (l : Launch) (D : va_G) (cI cJ : ClassId) (sz : Nat) (g g2 g3 g4 g5 g6 g7 g8 g9 g10 g12 g13 g15 g16 g17 g19 g20 g21 g22 g23 g24 g25 g26 g27 g28 g33 g34 g35 g36 g37 g38 g39 g41 g42 g44 g45 mn ml mv : Nat) (gi0 gi14 gi18 gi29 gi30 gi32 gi40 gi43 n : Int32) : Met l yX8_isLoss wtX8_isLoss { frames := 1, cells := 0, slots := 0, locals := 25 } (cPc D cI cJ [.ref g, .int n] sz [(oX8 g gi0 (nI mn) g2 g3 g4 g5 g6 g7 g8 g9 g10 (nI ml) g12 g13 gi14 g15 g16 g17 gi18 g19 g20 g21 g22 g23 g24 g25 g26 g27 g28 gi29 gi30 (nI mv) gi32 g33 g34 g35 g36 g37 g38 g39 gi40 g41 g42 gi43 g44 g45)]) (cQi D (fun r u => r = bz (0 ≤ n ∧ n ≤ nI ml - 1) ∧ u = [(oX8 g gi0 (nI mn) g2 g3 g4 g5 g6 g7 g8 g9 g10 (nI ml) g12 g13 gi14 g15 g16 g17 gi18 g19 g20 g21 g22 g23 g24 g25 g26 g27 g28 gi29 gi30 (nI mv) gi32 g33 g34 g35 g36 g37 g38 g39 gi40 g41 g42 gi43 g44 g45)]) (va_A [(oX8 g gi0 (nI mn) g2 g3 g4 g5 g6 g7 g8 g9 g10 (nI ml) g12 g13 gi14 g15 g16 g17 gi18 g19 g20 g21 g22 g23 g24 g25 g26 g27 g28 gi29 gi30 (nI mv) gi32 g33 g34 g35 g36 g37 g38 g39 gi40 g41 g42 gi43 g44 g45)] sz)) 0 0 (va_A [(oX8 g gi0 (nI mn) g2 g3 g4 g5 g6 g7 g8 g9 g10 (nI ml) g12 g13 gi14 g15 g16 g17 gi18 g19 g20 g21 g22 g23 g24 g25 g26 g27 g28 gi29 gi30 (nI mv) gi32 g33 g34 g35 g36 g37 g38 g39 gi40 g41 g42 gi43 g44 g45)] sz) := by
  refine k_ofW (Qc := cQi D (fun r u => r = bz (0 ≤ n ∧ n ≤ nI ml - 1) ∧ u = [(oX8 g gi0 (nI mn) g2 g3 g4 g5 g6 g7 g8 g9 g10 (nI ml) g12 g13 gi14 g15 g16 g17 gi18 g19 g20 g21 g22 g23 g24 g25 g26 g27 g28 gi29 gi30 (nI mv) gi32 g33 g34 g35 g36 g37 g38 g39 gi40 g41 g42 gi43 g44 g45)])) (by decide) rfl (Nat.le_of_ble_eq_true rfl) ?_
  intro p e s m below meth c A ls hx hb hr hml hts hown hlk hnm hsz hE hP hD hS hA hl
  have hown : s.vm.findClass RX8 = some m.cls := hown
  have hiX8 : ∀ w ∈ u_ws RX8 TX8 46, w ∈ wtX8_isLoss := fun w h => List.mem_cons_of_mem _ (iuX8 w h)
  have hl : lv_has ls 2 [(0, .ref g), (1, .int n)] := hl
  refine lv_iload_n hx hb dX8_isLoss_0 rfl (lv_at hl 1 rfl) ?_
  refine lv_i2l hx hb dX8_isLoss_1 rfl ?_
  refine lv_lconst (v := 0) hx hb dX8_isLoss_2 (by decide) ?_
  refine lv_aload_n hx hb dX8_isLoss_3 rfl (lv_at hl 0 rfl) ?_
  refine va_get (D := D) (ci := 8) (v := .int (nI ml)) (C := RX8) (T := TX8) (N := 46) hx hb hts hiX8 hown hE.1 hP 0 rfl rfl 11 (by decide) (hts _ (List.mem_cons_of_mem _ wd_251)) (fun _ h9 => h9) rfl dX8_isLoss_4 ?_
  refine lv_iconst (v := 1) hx hb dX8_isLoss_7 (by decide) ?_
  refine lv_isub hx hb dX8_isLoss_8 ?_
  refine lv_topi (fun v1 ev1 => ?_)
  refine lv_i2l hx hb dX8_isLoss_9 rfl ?_
  refine k_iS (va_runS (As := [.long (Int32.toInt64 n), .long 0, .long (Int32.toInt64 v1)]) (rest := []) ⟨hx, hb, hml, hown, hts⟩ (m_X8_in l D cI cJ (s.heap).size (Int32.toInt64 n) 0 (Int32.toInt64 v1)) (va_cwS 3 hts gX8_isLoss_X8_in rfl rfl rfl (by decide +kernel) ⟨Nat.le_of_ble_eq_true rfl, Nat.le_of_ble_eq_true rfl⟩) (k_pre hE hP hD [] (by decide +kernel) rfl) rfl rfl hl.1 rfl (lv_room (Nat.le_of_ble_eq_true rfl)) dX8_isLoss_10 ⟨Nat.le_of_ble_eq_true rfl, Nat.le_of_ble_eq_true rfl⟩) hP hD hS hA [] rfl (fun _ _ h9 => h9.2) (fun r2 H locs hw3 hP hD hS => ?_)
  obtain ⟨hw3, -⟩ := hw3
  have hw4 : r2 = bz (0 ≤ n ∧ n ≤ v1) := by rw [hw3]; exact bz_c (w3 (a := n) (lo := 0) (hi := v1) (by decide) rfl)
  refine k_zret (u := [(oX8 g gi0 (nI mn) g2 g3 g4 g5 g6 g7 g8 g9 g10 (nI ml) g12 g13 gi14 g15 g16 g17 gi18 g19 g20 g21 g22 g23 g24 g25 g26 g27 g28 gi29 gi30 (nI mv) gi32 g33 g34 g35 g36 g37 g38 g39 gi40 g41 g42 gi43 g44 g45)]) hx hb hr (bz_01 hw4) hlk hP hD hS dX8_isLoss_13 ?_
  exact ⟨(by first | exact hw4 | (subst_vars; first | rfl | assumption)), rfl⟩
theorem dX8_isItem_0 : decode cX8_isItem 0 = .ok (.iload_n 0, 1) := by decide +kernel
theorem dX8_isItem_1 : decode cX8_isItem 1 = .ok (.i2l, 1) := by decide +kernel
theorem dX8_isItem_2 : decode cX8_isItem 2 = .ok (.lconst 0, 1) := by decide +kernel
theorem dX8_isItem_3 : decode cX8_isItem 3 = .ok (.ldc2_w 130, 3) := by decide +kernel
theorem dX8_isItem_6 : decode cX8_isItem 6 = .ok (.invokestatic 123, 3) := by decide +kernel
theorem dX8_isItem_9 : decode cX8_isItem 9 = .ok (.ireturn, 1) := by decide +kernel
theorem gX8_isItem_X8_in : GoodIn wtX8_isItem (va_wsS RX8 123 yX8_in wtX8_in) := tb_good (tb_s0 wd_177 wd_178 wd_5 wd_179)
set_option maxHeartbeats 4000000 in
set_option maxRecDepth 100000 in
theorem m_X8_isItem (l : Launch) (D : va_G) (cI cJ : ClassId) (sz : Nat) (n : Int32) : Met l yX8_isItem wtX8_isItem { frames := 1, cells := 0, slots := 0, locals := 25 } (cPc D cI cJ [.int n] sz []) (cQi D (fun r u => r = bz (0 ≤ n ∧ n ≤ 7) ∧ u = []) (va_A [] sz)) 0 0 (va_A [] sz) := by
  refine k_ofW (Qc := cQi D (fun r u => r = bz (0 ≤ n ∧ n ≤ 7) ∧ u = [])) (by decide) rfl (Nat.le_of_ble_eq_true rfl) ?_
  intro p e s m below meth c A ls hx hb hr hml hts hown hlk hnm hsz hE hP hD hS hA hl
  have hown : s.vm.findClass RX8 = some m.cls := hown
  have hl : lv_has ls 1 [(0, .int n)] := hl
  refine lv_iload_n hx hb dX8_isItem_0 rfl (lv_at hl 0 rfl) ?_
  refine lv_i2l hx hb dX8_isItem_1 rfl ?_
  refine lv_lconst (v := 0) hx hb dX8_isItem_2 (by decide) ?_
  refine lv_ldc2 (v := 7) hx hb hown (hts _ (List.mem_cons_of_mem _ wd_229)) dX8_isItem_3 ?_
  refine k_iS (va_runS (As := [.long (Int32.toInt64 n), .long 0, .long 7]) (rest := []) ⟨hx, hb, hml, hown, hts⟩ (m_X8_in l D cI cJ (s.heap).size (Int32.toInt64 n) 0 7) (va_cwS 3 hts gX8_isItem_X8_in rfl rfl rfl (by decide +kernel) ⟨Nat.le_of_ble_eq_true rfl, Nat.le_of_ble_eq_true rfl⟩) (k_pre hE hP hD [] (by decide +kernel) rfl) rfl rfl hl.1 rfl (lv_room (Nat.le_of_ble_eq_true rfl)) dX8_isItem_6 ⟨Nat.le_of_ble_eq_true rfl, Nat.le_of_ble_eq_true rfl⟩) hP hD hS hA [] rfl (fun _ _ h9 => h9.2) (fun r1 H locs hw2 hP hD hS => ?_)
  obtain ⟨hw2, -⟩ := hw2
  have hw3 : r1 = bz (0 ≤ n ∧ n ≤ 7) := by rw [hw2]; exact bz_c (w3 (a := n) (lo := 0) (hi := 7) (by decide) (by decide))
  refine k_zret (u := []) hx hb hr (bz_01 hw3) hlk hP hD hS dX8_isItem_9 ?_
  exact ⟨hw3, rfl⟩
theorem dX8_isPlace_0 : decode cX8_isPlace 0 = .ok (.iload_n 0, 1) := by decide +kernel
theorem dX8_isPlace_1 : decode cX8_isPlace 1 = .ok (.i2l, 1) := by decide +kernel
theorem dX8_isPlace_2 : decode cX8_isPlace 2 = .ok (.lconst 0, 1) := by decide +kernel
theorem dX8_isPlace_3 : decode cX8_isPlace 3 = .ok (.ldc2_w 144, 3) := by decide +kernel
theorem dX8_isPlace_6 : decode cX8_isPlace 6 = .ok (.invokestatic 123, 3) := by decide +kernel
theorem dX8_isPlace_9 : decode cX8_isPlace 9 = .ok (.ifCond .eq 19, 3) := by decide +kernel
theorem dX8_isPlace_12 : decode cX8_isPlace 12 = .ok (.iload_n 1, 1) := by decide +kernel
theorem dX8_isPlace_13 : decode cX8_isPlace 13 = .ok (.i2l, 1) := by decide +kernel
theorem dX8_isPlace_14 : decode cX8_isPlace 14 = .ok (.lconst 0, 1) := by decide +kernel
theorem dX8_isPlace_15 : decode cX8_isPlace 15 = .ok (.ldc2_w 130, 3) := by decide +kernel
theorem dX8_isPlace_18 : decode cX8_isPlace 18 = .ok (.invokestatic 123, 3) := by decide +kernel
theorem dX8_isPlace_21 : decode cX8_isPlace 21 = .ok (.ifCond .eq 7, 3) := by decide +kernel
theorem dX8_isPlace_24 : decode cX8_isPlace 24 = .ok (.iconst 1, 1) := by decide +kernel
theorem dX8_isPlace_25 : decode cX8_isPlace 25 = .ok (.goto 4, 3) := by decide +kernel
theorem dX8_isPlace_28 : decode cX8_isPlace 28 = .ok (.iconst 0, 1) := by decide +kernel
theorem dX8_isPlace_29 : decode cX8_isPlace 29 = .ok (.ireturn, 1) := by decide +kernel
theorem gX8_isPlace_X8_in : GoodIn wtX8_isPlace (va_wsS RX8 123 yX8_in wtX8_in) := tb_good (tb_s0 wd_177 wd_178 wd_5 wd_179)
set_option maxHeartbeats 4000000 in
set_option maxRecDepth 100000 in
theorem m_X8_isPlace (l : Launch) (D : va_G) (cI cJ : ClassId) (sz : Nat) (n k : Int32) : Met l yX8_isPlace wtX8_isPlace { frames := 1, cells := 0, slots := 0, locals := 25 } (cPc D cI cJ [.int n, .int k] sz []) (cQi D (fun r u => r = bz ((0 ≤ n ∧ n ≤ 3) ∧ 0 ≤ k ∧ k ≤ 7) ∧ u = []) (va_A [] sz)) 0 0 (va_A [] sz) := by
  refine k_ofW (Qc := cQi D (fun r u => r = bz ((0 ≤ n ∧ n ≤ 3) ∧ 0 ≤ k ∧ k ≤ 7) ∧ u = [])) (by decide) rfl (Nat.le_of_ble_eq_true rfl) ?_
  intro p e s m below meth c A ls hx hb hr hml hts hown hlk hnm hsz hE hP hD hS hA hl
  have hown : s.vm.findClass RX8 = some m.cls := hown
  have hl : lv_has ls 2 [(0, .int n), (1, .int k)] := hl
  refine lv_iload_n hx hb dX8_isPlace_0 rfl (lv_at hl 0 rfl) ?_
  refine lv_i2l hx hb dX8_isPlace_1 rfl ?_
  refine lv_lconst (v := 0) hx hb dX8_isPlace_2 (by decide) ?_
  refine lv_ldc2 (v := 3) hx hb hown (hts _ (List.mem_cons_of_mem _ wd_197)) dX8_isPlace_3 ?_
  refine k_iS (va_runS (As := [.long (Int32.toInt64 n), .long 0, .long 3]) (rest := []) ⟨hx, hb, hml, hown, hts⟩ (m_X8_in l D cI cJ (s.heap).size (Int32.toInt64 n) 0 3) (va_cwS 3 hts gX8_isPlace_X8_in rfl rfl rfl (by decide +kernel) ⟨Nat.le_of_ble_eq_true rfl, Nat.le_of_ble_eq_true rfl⟩) (k_pre hE hP hD [] (by decide +kernel) rfl) rfl rfl hl.1 rfl (lv_room (Nat.le_of_ble_eq_true rfl)) dX8_isPlace_6 ⟨Nat.le_of_ble_eq_true rfl, Nat.le_of_ble_eq_true rfl⟩) hP hD hS hA [] rfl (fun _ _ h9 => h9.2) (fun r1 H locs hw2 hP hD hS => ?_)
  obtain ⟨hw2, -⟩ := hw2
  have hw3 : r1 = bz (0 ≤ n ∧ n ≤ 3) := by rw [hw2]; exact bz_c (w3 (a := n) (lo := 0) (hi := 3) (by decide) (by decide))
  refine lv_if_eq (tgt := 28) hx hb dX8_isPlace_9 (by decide) (fun c4 => ?_) (fun c4 => ?_)
  · skip
    have hc4 : ¬ (0 ≤ n ∧ n ≤ 3) := bz_0 hw3 c4
    refine lv_iconst (v := 0) hx hb dX8_isPlace_28 (by decide) ?_
    refine k_zret (u := []) hx hb hr (by decide) hlk hP hD hS dX8_isPlace_29 ?_
    exact ⟨bz_f (fun q => hc4 q.1), rfl⟩
  · skip
    have hc4 : 0 ≤ n ∧ n ≤ 3 := bz_1 hw3 c4
    refine lv_iload_n hx hb dX8_isPlace_12 rfl (lv_at hl 1 rfl) ?_
    refine lv_i2l hx hb dX8_isPlace_13 rfl ?_
    refine lv_lconst (v := 0) hx hb dX8_isPlace_14 (by decide) ?_
    refine lv_ldc2 (v := 7) hx hb hown (hts _ (List.mem_cons_of_mem _ wd_229)) dX8_isPlace_15 ?_
    refine k_iS (va_runS (As := [.long (Int32.toInt64 k), .long 0, .long 7]) (rest := []) ⟨hx, hb, hml, hown, hts⟩ (m_X8_in l D cI cJ H.size (Int32.toInt64 k) 0 7) (va_cwS 3 hts gX8_isPlace_X8_in rfl rfl rfl (by decide +kernel) ⟨Nat.le_of_ble_eq_true rfl, Nat.le_of_ble_eq_true rfl⟩) (k_pre hE hP hD [] (by decide +kernel) rfl) rfl rfl hl.1 rfl (lv_room (Nat.le_of_ble_eq_true rfl)) dX8_isPlace_18 ⟨Nat.le_of_ble_eq_true rfl, Nat.le_of_ble_eq_true rfl⟩) hP hD hS hA [] rfl (fun _ _ h9 => h9.2) (fun r5 H locs hw6 hP hD hS => ?_)
    obtain ⟨hw6, -⟩ := hw6
    have hw7 : r5 = bz (0 ≤ k ∧ k ≤ 7) := by rw [hw6]; exact bz_c (w3 (a := k) (lo := 0) (hi := 7) (by decide) (by decide))
    refine lv_if_eq (tgt := 28) hx hb dX8_isPlace_21 (by decide) (fun c8 => ?_) (fun c8 => ?_)
    · skip
      have hc8 : ¬ (0 ≤ k ∧ k ≤ 7) := bz_0 hw7 c8
      refine lv_iconst (v := 0) hx hb dX8_isPlace_28 (by decide) ?_
      refine k_zret (u := []) hx hb hr (by decide) hlk hP hD hS dX8_isPlace_29 ?_
      exact ⟨bz_f (fun q => hc8 q.2), rfl⟩
    · skip
      have hc8 : 0 ≤ k ∧ k ≤ 7 := bz_1 hw7 c8
      refine lv_iconst (v := 1) hx hb dX8_isPlace_24 (by decide) ?_
      refine lv_goto (tgt := 29) hx hb dX8_isPlace_25 (by decide) ?_
      refine k_zret (u := []) hx hb hr (by decide) hlk hP hD hS dX8_isPlace_29 ?_
      exact ⟨bz_t ⟨hc4, hc8⟩, rfl⟩
theorem dX8_isOn_0 : decode cX8_isOn 0 = .ok (.iload_n 0, 1) := by decide +kernel
theorem dX8_isOn_1 : decode cX8_isOn 1 = .ok (.iload_n 1, 1) := by decide +kernel
theorem dX8_isOn_2 : decode cX8_isOn 2 = .ok (.ishr, 1) := by decide +kernel
theorem dX8_isOn_3 : decode cX8_isOn 3 = .ok (.iconst 1, 1) := by decide +kernel
theorem dX8_isOn_4 : decode cX8_isOn 4 = .ok (.iand, 1) := by decide +kernel
theorem dX8_isOn_5 : decode cX8_isOn 5 = .ok (.iconst 1, 1) := by decide +kernel
theorem dX8_isOn_6 : decode cX8_isOn 6 = .ok (.if_icmp .ne 7, 3) := by decide +kernel
theorem dX8_isOn_9 : decode cX8_isOn 9 = .ok (.iconst 1, 1) := by decide +kernel
theorem dX8_isOn_10 : decode cX8_isOn 10 = .ok (.goto 4, 3) := by decide +kernel
theorem dX8_isOn_13 : decode cX8_isOn 13 = .ok (.iconst 0, 1) := by decide +kernel
theorem dX8_isOn_14 : decode cX8_isOn 14 = .ok (.ireturn, 1) := by decide +kernel
set_option maxHeartbeats 4000000 in
set_option maxRecDepth 100000 in
theorem m_X8_isOn (l : Launch) (D : va_G) (cI cJ : ClassId) (sz : Nat) (set k : Int32) : Met l yX8_isOn wtX8_isOn { frames := 0, cells := 0, slots := 0, locals := 0 } (cPc D cI cJ [.int set, .int k] sz []) (cQi D (fun r u => r = bz ((set >>> (k &&& 31)) &&& 1 = 1) ∧ u = []) (va_A [] sz)) 0 0 (va_A [] sz) := by
  refine k_ofW (Qc := cQi D (fun r u => r = bz ((set >>> (k &&& 31)) &&& 1 = 1) ∧ u = [])) (by decide) rfl (Nat.le_of_ble_eq_true rfl) ?_
  intro p e s m below meth c A ls hx hb hr hml hts hown hlk hnm hsz hE hP hD hS hA hl
  have hown : s.vm.findClass RX8 = some m.cls := hown
  have hl : lv_has ls 2 [(0, .int set), (1, .int k)] := hl
  refine lv_iload_n hx hb dX8_isOn_0 rfl (lv_at hl 0 rfl) ?_
  refine lv_iload_n hx hb dX8_isOn_1 rfl (lv_at hl 1 rfl) ?_
  refine lv_ishr hx hb dX8_isOn_2 ?_
  refine lv_iconst (v := 1) hx hb dX8_isOn_3 (by decide) ?_
  refine lv_iand hx hb dX8_isOn_4 ?_
  refine lv_iconst (v := 1) hx hb dX8_isOn_5 (by decide) ?_
  refine lv_icmp_ne (tgt := 13) hx hb dX8_isOn_6 (by decide) (fun c1 => ?_) (fun c1 => ?_)
  · skip
    refine lv_iconst (v := 0) hx hb dX8_isOn_13 (by decide) ?_
    refine k_zret (u := []) hx hb hr (by decide) hlk hP hD hS dX8_isOn_14 ?_
    exact ⟨bz_f c1, rfl⟩
  · skip
    refine lv_iconst (v := 1) hx hb dX8_isOn_9 (by decide) ?_
    refine lv_goto (tgt := 14) hx hb dX8_isOn_10 (by decide) ?_
    refine k_zret (u := []) hx hb hr (by decide) hlk hP hD hS dX8_isOn_14 ?_
    exact ⟨bz_t c1, rfl⟩
theorem dX8_all_0 : decode cX8_all 0 = .ok (.iconst 1, 1) := by decide +kernel
theorem dX8_all_1 : decode cX8_all 1 = .ok (.aload_n 0, 1) := by decide +kernel
theorem dX8_all_2 : decode cX8_all 2 = .ok (.getfield 120, 3) := by decide +kernel
theorem dX8_all_5 : decode cX8_all 5 = .ok (.ishl, 1) := by decide +kernel
theorem dX8_all_6 : decode cX8_all 6 = .ok (.iconst 1, 1) := by decide +kernel
theorem dX8_all_7 : decode cX8_all 7 = .ok (.isub, 1) := by decide +kernel
theorem dX8_all_8 : decode cX8_all 8 = .ok (.ireturn, 1) := by decide +kernel
set_option maxHeartbeats 4000000 in
set_option maxRecDepth 100000 in
theorem m_X8_all (l : Launch) (D : va_G) (cI cJ : ClassId) (sz : Nat) (g g2 g3 g4 g5 g6 g7 g8 g9 g10 g12 g13 g15 g16 g17 g19 g20 g21 g22 g23 g24 g25 g26 g27 g28 g33 g34 g35 g36 g37 g38 g39 g41 g42 g44 g45 mn ml mv : Nat) (gi0 gi14 gi18 gi29 gi30 gi32 gi40 gi43 : Int32) (hmn : mn ≤ 8) : Met l yX8_all wtX8_all { frames := 0, cells := 0, slots := 0, locals := 0 } (cPc D cI cJ [.ref g] sz [(oX8 g gi0 (nI mn) g2 g3 g4 g5 g6 g7 g8 g9 g10 (nI ml) g12 g13 gi14 g15 g16 g17 gi18 g19 g20 g21 g22 g23 g24 g25 g26 g27 g28 gi29 gi30 (nI mv) gi32 g33 g34 g35 g36 g37 g38 g39 gi40 g41 g42 gi43 g44 g45)]) (cQi D (fun r u => r = (nI (2 ^ mn - 1)) ∧ u = [(oX8 g gi0 (nI mn) g2 g3 g4 g5 g6 g7 g8 g9 g10 (nI ml) g12 g13 gi14 g15 g16 g17 gi18 g19 g20 g21 g22 g23 g24 g25 g26 g27 g28 gi29 gi30 (nI mv) gi32 g33 g34 g35 g36 g37 g38 g39 gi40 g41 g42 gi43 g44 g45)]) (va_A [(oX8 g gi0 (nI mn) g2 g3 g4 g5 g6 g7 g8 g9 g10 (nI ml) g12 g13 gi14 g15 g16 g17 gi18 g19 g20 g21 g22 g23 g24 g25 g26 g27 g28 gi29 gi30 (nI mv) gi32 g33 g34 g35 g36 g37 g38 g39 gi40 g41 g42 gi43 g44 g45)] sz)) 0 0 (va_A [(oX8 g gi0 (nI mn) g2 g3 g4 g5 g6 g7 g8 g9 g10 (nI ml) g12 g13 gi14 g15 g16 g17 gi18 g19 g20 g21 g22 g23 g24 g25 g26 g27 g28 gi29 gi30 (nI mv) gi32 g33 g34 g35 g36 g37 g38 g39 gi40 g41 g42 gi43 g44 g45)] sz) := by
  refine k_ofW (Qc := cQi D (fun r u => r = (nI (2 ^ mn - 1)) ∧ u = [(oX8 g gi0 (nI mn) g2 g3 g4 g5 g6 g7 g8 g9 g10 (nI ml) g12 g13 gi14 g15 g16 g17 gi18 g19 g20 g21 g22 g23 g24 g25 g26 g27 g28 gi29 gi30 (nI mv) gi32 g33 g34 g35 g36 g37 g38 g39 gi40 g41 g42 gi43 g44 g45)])) (by decide) rfl (Nat.le_of_ble_eq_true rfl) ?_
  intro p e s m below meth c A ls hx hb hr hml hts hown hlk hnm hsz hE hP hD hS hA hl
  have hown : s.vm.findClass RX8 = some m.cls := hown
  have hiX8 : ∀ w ∈ u_ws RX8 TX8 46, w ∈ wtX8_all := fun w h => List.mem_cons_of_mem _ (iuX8 w h)
  have hl : lv_has ls 1 [(0, .ref g)] := hl
  refine lv_iconst (v := 1) hx hb dX8_all_0 (by decide) ?_
  refine lv_aload_n hx hb dX8_all_1 rfl (lv_at hl 0 rfl) ?_
  refine va_get (D := D) (ci := 8) (v := .int (nI mn)) (C := RX8) (T := TX8) (N := 46) hx hb hts hiX8 hown hE.1 hP 0 rfl rfl 1 (by decide) (hts _ (List.mem_cons_of_mem _ wd_176)) (fun _ h9 => h9) rfl dX8_all_2 ?_
  refine lv_ishl hx hb dX8_all_5 ?_
  refine lv_topi (fun v1 ev1 => ?_)
  refine lv_iconst (v := 1) hx hb dX8_all_6 (by decide) ?_
  refine lv_isub hx hb dX8_all_7 ?_
  refine lv_topi (fun v2 ev2 => ?_)
  obtain rfl := ev_np hmn ev1 ev2
  refine k_iret (u := [(oX8 g gi0 (nI mn) g2 g3 g4 g5 g6 g7 g8 g9 g10 (nI ml) g12 g13 gi14 g15 g16 g17 gi18 g19 g20 g21 g22 g23 g24 g25 g26 g27 g28 gi29 gi30 (nI mv) gi32 g33 g34 g35 g36 g37 g38 g39 gi40 g41 g42 gi43 g44 g45)]) hx hb hr hlk hP hD hS dX8_all_8 ?_
  exact ⟨rfl, rfl⟩
theorem dX8_policy_0 : decode cX8_policy 0 = .ok (.aload_n 0, 1) := by decide +kernel
theorem dX8_policy_1 : decode cX8_policy 1 = .ok (.iconst 0, 1) := by decide +kernel
theorem dX8_policy_2 : decode cX8_policy 2 = .ok (.putfield 116, 3) := by decide +kernel
theorem dX8_policy_5 : decode cX8_policy 5 = .ok (.iload_n 1, 1) := by decide +kernel
theorem dX8_policy_6 : decode cX8_policy 6 = .ok (.i2l, 1) := by decide +kernel
theorem dX8_policy_7 : decode cX8_policy 7 = .ok (.lconst 1, 1) := by decide +kernel
theorem dX8_policy_8 : decode cX8_policy 8 = .ok (.ldc2_w 132, 3) := by decide +kernel
theorem dX8_policy_11 : decode cX8_policy 11 = .ok (.invokestatic 123, 3) := by decide +kernel
theorem dX8_policy_14 : decode cX8_policy 14 = .ok (.ifCond .eq 57, 3) := by decide +kernel
theorem dX8_policy_17 : decode cX8_policy 17 = .ok (.iload_n 2, 1) := by decide +kernel
theorem dX8_policy_18 : decode cX8_policy 18 = .ok (.i2l, 1) := by decide +kernel
theorem dX8_policy_19 : decode cX8_policy 19 = .ok (.lconst 1, 1) := by decide +kernel
theorem dX8_policy_20 : decode cX8_policy 20 = .ok (.ldc2_w 134, 3) := by decide +kernel
theorem dX8_policy_23 : decode cX8_policy 23 = .ok (.invokestatic 123, 3) := by decide +kernel
theorem dX8_policy_26 : decode cX8_policy 26 = .ok (.ifCond .eq 45, 3) := by decide +kernel
theorem dX8_policy_29 : decode cX8_policy 29 = .ok (.iload_n 3, 1) := by decide +kernel
theorem dX8_policy_30 : decode cX8_policy 30 = .ok (.i2l, 1) := by decide +kernel
theorem dX8_policy_31 : decode cX8_policy 31 = .ok (.lconst 0, 1) := by decide +kernel
theorem dX8_policy_32 : decode cX8_policy 32 = .ok (.ldc2_w 136, 3) := by decide +kernel
theorem dX8_policy_35 : decode cX8_policy 35 = .ok (.invokestatic 123, 3) := by decide +kernel
theorem dX8_policy_38 : decode cX8_policy 38 = .ok (.ifCond .eq 33, 3) := by decide +kernel
theorem dX8_policy_41 : decode cX8_policy 41 = .ok (.iload 4, 2) := by decide +kernel
theorem dX8_policy_43 : decode cX8_policy 43 = .ok (.i2l, 1) := by decide +kernel
theorem dX8_policy_44 : decode cX8_policy 44 = .ok (.lconst 0, 1) := by decide +kernel
theorem dX8_policy_45 : decode cX8_policy 45 = .ok (.ldc2_w 134, 3) := by decide +kernel
theorem dX8_policy_48 : decode cX8_policy 48 = .ok (.invokestatic 123, 3) := by decide +kernel
theorem dX8_policy_51 : decode cX8_policy 51 = .ok (.ifCond .eq 20, 3) := by decide +kernel
theorem dX8_policy_54 : decode cX8_policy 54 = .ok (.iload 5, 2) := by decide +kernel
theorem dX8_policy_56 : decode cX8_policy 56 = .ok (.i2l, 1) := by decide +kernel
theorem dX8_policy_57 : decode cX8_policy 57 = .ok (.lconst 1, 1) := by decide +kernel
theorem dX8_policy_58 : decode cX8_policy 58 = .ok (.ldc2_w 138, 3) := by decide +kernel
theorem dX8_policy_61 : decode cX8_policy 61 = .ok (.invokestatic 123, 3) := by decide +kernel
theorem dX8_policy_64 : decode cX8_policy 64 = .ok (.ifCond .eq 7, 3) := by decide +kernel
theorem dX8_policy_67 : decode cX8_policy 67 = .ok (.iconst 1, 1) := by decide +kernel
theorem dX8_policy_68 : decode cX8_policy 68 = .ok (.goto 4, 3) := by decide +kernel
theorem dX8_policy_71 : decode cX8_policy 71 = .ok (.iconst 0, 1) := by decide +kernel
theorem dX8_policy_72 : decode cX8_policy 72 = .ok (.istore 6, 2) := by decide +kernel
theorem dX8_policy_74 : decode cX8_policy 74 = .ok (.iload 6, 2) := by decide +kernel
theorem dX8_policy_76 : decode cX8_policy 76 = .ok (.ifCond .eq 12, 3) := by decide +kernel
theorem dX8_policy_79 : decode cX8_policy 79 = .ok (.aload_n 0, 1) := by decide +kernel
theorem dX8_policy_80 : decode cX8_policy 80 = .ok (.getfield 120, 3) := by decide +kernel
theorem dX8_policy_83 : decode cX8_policy 83 = .ok (.bipush 8, 2) := by decide +kernel
theorem dX8_policy_85 : decode cX8_policy 85 = .ok (.if_icmp .ne 5, 3) := by decide +kernel
theorem dX8_policy_88 : decode cX8_policy 88 = .ok (.iconst (-1), 1) := by decide +kernel
theorem dX8_policy_89 : decode cX8_policy 89 = .ok (.ireturn, 1) := by decide +kernel
theorem dX8_policy_90 : decode cX8_policy 90 = .ok (.aload_n 0, 1) := by decide +kernel
theorem dX8_policy_91 : decode cX8_policy 91 = .ok (.getfield 7, 3) := by decide +kernel
theorem dX8_policy_94 : decode cX8_policy 94 = .ok (.aload_n 0, 1) := by decide +kernel
theorem dX8_policy_95 : decode cX8_policy 95 = .ok (.getfield 120, 3) := by decide +kernel
theorem dX8_policy_98 : decode cX8_policy 98 = .ok (.iload_n 1, 1) := by decide +kernel
theorem dX8_policy_99 : decode cX8_policy 99 = .ok (.iastore, 1) := by decide +kernel
theorem dX8_policy_100 : decode cX8_policy 100 = .ok (.aload_n 0, 1) := by decide +kernel
theorem dX8_policy_101 : decode cX8_policy 101 = .ok (.getfield 13, 3) := by decide +kernel
theorem dX8_policy_104 : decode cX8_policy 104 = .ok (.aload_n 0, 1) := by decide +kernel
theorem dX8_policy_105 : decode cX8_policy 105 = .ok (.getfield 120, 3) := by decide +kernel
theorem dX8_policy_108 : decode cX8_policy 108 = .ok (.iload_n 2, 1) := by decide +kernel
theorem dX8_policy_109 : decode cX8_policy 109 = .ok (.iastore, 1) := by decide +kernel
theorem dX8_policy_110 : decode cX8_policy 110 = .ok (.aload_n 0, 1) := by decide +kernel
theorem dX8_policy_111 : decode cX8_policy 111 = .ok (.getfield 16, 3) := by decide +kernel
theorem dX8_policy_114 : decode cX8_policy 114 = .ok (.aload_n 0, 1) := by decide +kernel
theorem dX8_policy_115 : decode cX8_policy 115 = .ok (.getfield 120, 3) := by decide +kernel
theorem dX8_policy_118 : decode cX8_policy 118 = .ok (.iload_n 3, 1) := by decide +kernel
theorem dX8_policy_119 : decode cX8_policy 119 = .ok (.iastore, 1) := by decide +kernel
theorem dX8_policy_120 : decode cX8_policy 120 = .ok (.aload_n 0, 1) := by decide +kernel
theorem dX8_policy_121 : decode cX8_policy 121 = .ok (.getfield 19, 3) := by decide +kernel
theorem dX8_policy_124 : decode cX8_policy 124 = .ok (.aload_n 0, 1) := by decide +kernel
theorem dX8_policy_125 : decode cX8_policy 125 = .ok (.getfield 120, 3) := by decide +kernel
theorem dX8_policy_128 : decode cX8_policy 128 = .ok (.iload 4, 2) := by decide +kernel
theorem dX8_policy_130 : decode cX8_policy 130 = .ok (.iastore, 1) := by decide +kernel
theorem dX8_policy_131 : decode cX8_policy 131 = .ok (.aload_n 0, 1) := by decide +kernel
theorem dX8_policy_132 : decode cX8_policy 132 = .ok (.getfield 22, 3) := by decide +kernel
theorem dX8_policy_135 : decode cX8_policy 135 = .ok (.aload_n 0, 1) := by decide +kernel
theorem dX8_policy_136 : decode cX8_policy 136 = .ok (.getfield 120, 3) := by decide +kernel
theorem dX8_policy_139 : decode cX8_policy 139 = .ok (.iload 5, 2) := by decide +kernel
theorem dX8_policy_141 : decode cX8_policy 141 = .ok (.iastore, 1) := by decide +kernel
theorem dX8_policy_142 : decode cX8_policy 142 = .ok (.aload_n 0, 1) := by decide +kernel
theorem dX8_policy_143 : decode cX8_policy 143 = .ok (.dup, 1) := by decide +kernel
theorem dX8_policy_144 : decode cX8_policy 144 = .ok (.getfield 120, 3) := by decide +kernel
theorem dX8_policy_147 : decode cX8_policy 147 = .ok (.iconst 1, 1) := by decide +kernel
theorem dX8_policy_148 : decode cX8_policy 148 = .ok (.iadd, 1) := by decide +kernel
theorem dX8_policy_149 : decode cX8_policy 149 = .ok (.putfield 120, 3) := by decide +kernel
theorem dX8_policy_152 : decode cX8_policy 152 = .ok (.aload_n 0, 1) := by decide +kernel
theorem dX8_policy_153 : decode cX8_policy 153 = .ok (.getfield 120, 3) := by decide +kernel
theorem dX8_policy_156 : decode cX8_policy 156 = .ok (.iconst 1, 1) := by decide +kernel
theorem dX8_policy_157 : decode cX8_policy 157 = .ok (.isub, 1) := by decide +kernel
theorem dX8_policy_158 : decode cX8_policy 158 = .ok (.ireturn, 1) := by decide +kernel
theorem gX8_policy_X8_in : GoodIn wtX8_policy (va_wsS RX8 123 yX8_in wtX8_in) := tb_good (tb_s0 wd_177 wd_178 wd_5 wd_179)
set_option maxHeartbeats 4000000 in
set_option maxRecDepth 100000 in
theorem m_X8_policy (l : Launch) (D : va_G) (cI cJ : ClassId) (sz : Nat) (g g2 g3 g4 g5 g6 g7 g8 g9 g10 g12 g13 g15 g16 g17 g19 g20 g21 g22 g23 g24 g25 g26 g27 g28 g33 g34 g35 g36 g37 g38 g39 g41 g42 g44 g45 mn ml mv : Nat) (gi0 gi14 gi18 gi29 gi30 gi32 gi40 gi43 p0 p1 p2 p3 p4 : Int32) (G2 G3 G4 G5 G6 : Nat → Int32) (hmn : mn ≤ 8) : Met l yX8_policy wtX8_policy { frames := 1, cells := 0, slots := 0, locals := 25 } (cPc D cI cJ [.ref g, .int p0, .int p1, .int p2, .int p3, .int p4] sz [(oX8 g gi0 (nI mn) g2 g3 g4 g5 g6 g7 g8 g9 g10 (nI ml) g12 g13 gi14 g15 g16 g17 gi18 g19 g20 g21 g22 g23 g24 g25 g26 g27 g28 gi29 gi30 (nI mv) gi32 g33 g34 g35 g36 g37 g38 g39 gi40 g41 g42 gi43 g44 g45), (aIc cI g2 8 G2), (aIc cI g3 8 G3), (aIc cI g4 8 G4), (aIc cI g5 8 G5), (aIc cI g6 8 G6)]) (cQi D (fun r u => ((((1 ≤ p0 ∧ p0 ≤ 1000000) ∧ (1 ≤ p1 ∧ p1 ≤ 9000000) ∧ (0 ≤ p2 ∧ p2 ≤ 99999) ∧ (0 ≤ p3 ∧ p3 ≤ 9000000) ∧ 1 ≤ p4 ∧ p4 ≤ 255) ∧ mn < 8) ∧ r = nI mn ∧ u = [(oX8 g 0 (nI (mn + 1)) g2 g3 g4 g5 g6 g7 g8 g9 g10 (nI ml) g12 g13 gi14 g15 g16 g17 gi18 g19 g20 g21 g22 g23 g24 g25 g26 g27 g28 gi29 gi30 (nI mv) gi32 g33 g34 g35 g36 g37 g38 g39 gi40 g41 g42 gi43 g44 g45), (aIc cI g2 8 (upd G2 (Int32.toNatClampNeg (nI mn)) p0)), (aIc cI g3 8 (upd G3 (Int32.toNatClampNeg (nI mn)) p1)), (aIc cI g4 8 (upd G4 (Int32.toNatClampNeg (nI mn)) p2)), (aIc cI g5 8 (upd G5 (Int32.toNatClampNeg (nI mn)) p3)), (aIc cI g6 8 (upd G6 (Int32.toNatClampNeg (nI mn)) p4))]) ∨ ((¬ (((1 ≤ p0 ∧ p0 ≤ 1000000) ∧ (1 ≤ p1 ∧ p1 ≤ 9000000) ∧ (0 ≤ p2 ∧ p2 ≤ 99999) ∧ (0 ≤ p3 ∧ p3 ≤ 9000000) ∧ 1 ≤ p4 ∧ p4 ≤ 255) ∧ mn < 8)) ∧ r = -1 ∧ u = [(oX8 g 0 (nI mn) g2 g3 g4 g5 g6 g7 g8 g9 g10 (nI ml) g12 g13 gi14 g15 g16 g17 gi18 g19 g20 g21 g22 g23 g24 g25 g26 g27 g28 gi29 gi30 (nI mv) gi32 g33 g34 g35 g36 g37 g38 g39 gi40 g41 g42 gi43 g44 g45), (aIc cI g2 8 G2), (aIc cI g3 8 G3), (aIc cI g4 8 G4), (aIc cI g5 8 G5), (aIc cI g6 8 G6)])) (va_A [(oX8 g gi0 (nI mn) g2 g3 g4 g5 g6 g7 g8 g9 g10 (nI ml) g12 g13 gi14 g15 g16 g17 gi18 g19 g20 g21 g22 g23 g24 g25 g26 g27 g28 gi29 gi30 (nI mv) gi32 g33 g34 g35 g36 g37 g38 g39 gi40 g41 g42 gi43 g44 g45), (aIc cI g2 8 G2), (aIc cI g3 8 G3), (aIc cI g4 8 G4), (aIc cI g5 8 G5), (aIc cI g6 8 G6)] sz)) 0 0 (va_A [(oX8 g gi0 (nI mn) g2 g3 g4 g5 g6 g7 g8 g9 g10 (nI ml) g12 g13 gi14 g15 g16 g17 gi18 g19 g20 g21 g22 g23 g24 g25 g26 g27 g28 gi29 gi30 (nI mv) gi32 g33 g34 g35 g36 g37 g38 g39 gi40 g41 g42 gi43 g44 g45), (aIc cI g2 8 G2), (aIc cI g3 8 G3), (aIc cI g4 8 G4), (aIc cI g5 8 G5), (aIc cI g6 8 G6)] sz) := by
  refine k_ofW (Qc := cQi D (fun r u => ((((1 ≤ p0 ∧ p0 ≤ 1000000) ∧ (1 ≤ p1 ∧ p1 ≤ 9000000) ∧ (0 ≤ p2 ∧ p2 ≤ 99999) ∧ (0 ≤ p3 ∧ p3 ≤ 9000000) ∧ 1 ≤ p4 ∧ p4 ≤ 255) ∧ mn < 8) ∧ r = nI mn ∧ u = [(oX8 g 0 (nI (mn + 1)) g2 g3 g4 g5 g6 g7 g8 g9 g10 (nI ml) g12 g13 gi14 g15 g16 g17 gi18 g19 g20 g21 g22 g23 g24 g25 g26 g27 g28 gi29 gi30 (nI mv) gi32 g33 g34 g35 g36 g37 g38 g39 gi40 g41 g42 gi43 g44 g45), (aIc cI g2 8 (upd G2 (Int32.toNatClampNeg (nI mn)) p0)), (aIc cI g3 8 (upd G3 (Int32.toNatClampNeg (nI mn)) p1)), (aIc cI g4 8 (upd G4 (Int32.toNatClampNeg (nI mn)) p2)), (aIc cI g5 8 (upd G5 (Int32.toNatClampNeg (nI mn)) p3)), (aIc cI g6 8 (upd G6 (Int32.toNatClampNeg (nI mn)) p4))]) ∨ ((¬ (((1 ≤ p0 ∧ p0 ≤ 1000000) ∧ (1 ≤ p1 ∧ p1 ≤ 9000000) ∧ (0 ≤ p2 ∧ p2 ≤ 99999) ∧ (0 ≤ p3 ∧ p3 ≤ 9000000) ∧ 1 ≤ p4 ∧ p4 ≤ 255) ∧ mn < 8)) ∧ r = -1 ∧ u = [(oX8 g 0 (nI mn) g2 g3 g4 g5 g6 g7 g8 g9 g10 (nI ml) g12 g13 gi14 g15 g16 g17 gi18 g19 g20 g21 g22 g23 g24 g25 g26 g27 g28 gi29 gi30 (nI mv) gi32 g33 g34 g35 g36 g37 g38 g39 gi40 g41 g42 gi43 g44 g45), (aIc cI g2 8 G2), (aIc cI g3 8 G3), (aIc cI g4 8 G4), (aIc cI g5 8 G5), (aIc cI g6 8 G6)]))) (by decide) rfl (Nat.le_of_ble_eq_true rfl) ?_
  intro p e s m below meth c A ls hx hb hr hml hts hown hlk hnm hsz hE hP hD hS hA hl
  have hown : s.vm.findClass RX8 = some m.cls := hown
  have hiX8 : ∀ w ∈ u_ws RX8 TX8 46, w ∈ wtX8_policy := fun w h => List.mem_cons_of_mem _ (iuX8 w h)
  have hl : lv_has ls 7 [(0, .ref g), (1, .int p0), (2, .int p1), (3, .int p2), (4, .int p3), (5, .int p4)] := hl
  refine lv_aload_n hx hb dX8_policy_0 rfl (lv_at hl 0 rfl) ?_
  refine lv_iconst (v := 0) hx hb dX8_policy_1 (by decide) ?_
  refine va_put (D := D) (ci := 8) (v := .int 0) (ty := .int) (C := RX8) (T := TX8) (N := 46) hx hb hts hiX8 tyX8 tyX8_ok nmX8 hown hE.1 hP hD hS 0 rfl rfl 0 (by decide) (hts _ (List.mem_cons_of_mem _ wd_171)) (fun _ h9 => h9) rfl (by decide +kernel) rfl rfl (Nat.le_of_ble_eq_true rfl) dX8_policy_2 (fun H locs hP hD hS => ?_)
  refine k_re (w := [(oX8 g 0 (nI mn) g2 g3 g4 g5 g6 g7 g8 g9 g10 (nI ml) g12 g13 gi14 g15 g16 g17 gi18 g19 g20 g21 g22 g23 g24 g25 g26 g27 g28 gi29 gi30 (nI mv) gi32 g33 g34 g35 g36 g37 g38 g39 gi40 g41 g42 gi43 g44 g45), (aIc cI g2 8 G2), (aIc cI g3 8 G3), (aIc cI g4 8 G4), (aIc cI g5 8 G5), (aIc cI g6 8 G6)]) hP hD (fun hP hD => ?_)
  refine lv_iload_n hx hb dX8_policy_5 rfl (lv_at hl 1 rfl) ?_
  refine lv_i2l hx hb dX8_policy_6 rfl ?_
  refine lv_lconst (v := 1) hx hb dX8_policy_7 (by decide) ?_
  refine lv_ldc2 (v := 1000000) hx hb hown (hts _ (List.mem_cons_of_mem _ wd_172)) dX8_policy_8 ?_
  refine k_iS (va_runS (As := [.long (Int32.toInt64 p0), .long 1, .long 1000000]) (rest := []) ⟨hx, hb, hml, hown, hts⟩ (m_X8_in l D cI cJ H.size (Int32.toInt64 p0) 1 1000000) (va_cwS 3 hts gX8_policy_X8_in rfl rfl rfl (by decide +kernel) ⟨Nat.le_of_ble_eq_true rfl, Nat.le_of_ble_eq_true rfl⟩) (k_pre hE hP hD [] (by decide +kernel) rfl) rfl rfl hl.1 rfl (lv_room (Nat.le_of_ble_eq_true rfl)) dX8_policy_11 ⟨Nat.le_of_ble_eq_true rfl, Nat.le_of_ble_eq_true rfl⟩) hP hD hS hA [] rfl (fun _ _ h9 => h9.2) (fun r1 H locs hw2 hP hD hS => ?_)
  obtain ⟨hw2, -⟩ := hw2
  have hw3 : r1 = bz (1 ≤ p0 ∧ p0 ≤ 1000000) := by rw [hw2]; exact bz_c (w3 (a := p0) (lo := 1) (hi := 1000000) (by decide) (by decide))
  refine lv_if_eq (tgt := 71) hx hb dX8_policy_14 (by decide) (fun c4 => ?_) (fun c4 => ?_)
  · skip
    have hc4 : ¬ (1 ≤ p0 ∧ p0 ≤ 1000000) := bz_0 hw3 c4
    refine lv_iconst (v := 0) hx hb dX8_policy_71 (by decide) ?_
    refine lv_istore (lv' := [(6, .int 0), (0, .ref g), (1, .int p0), (2, .int p1), (3, .int p2), (4, .int p3), (5, .int p4)]) hx hb dX8_policy_72 hl (by decide) rfl (fun ls hl => ?_)
    refine lv_iload hx hb dX8_policy_74 (lv_at hl 0 rfl) ?_
    refine lv_if_eq (tgt := 88) hx hb dX8_policy_76 (by decide) (fun _ => ?_) (fun c5 => absurd (by decide) c5)
    refine lv_iconst (v := (-1)) hx hb dX8_policy_88 (by decide) ?_
    refine k_iret (u := [(oX8 g 0 (nI mn) g2 g3 g4 g5 g6 g7 g8 g9 g10 (nI ml) g12 g13 gi14 g15 g16 g17 gi18 g19 g20 g21 g22 g23 g24 g25 g26 g27 g28 gi29 gi30 (nI mv) gi32 g33 g34 g35 g36 g37 g38 g39 gi40 g41 g42 gi43 g44 g45), (aIc cI g2 8 G2), (aIc cI g3 8 G3), (aIc cI g4 8 G4), (aIc cI g5 8 G5), (aIc cI g6 8 G6)]) hx hb hr hlk hP hD hS dX8_policy_89 ?_
    exact Or.inr ⟨(fun q => hc4 q.1.1), rfl, rfl⟩
  · skip
    have hc4 : 1 ≤ p0 ∧ p0 ≤ 1000000 := bz_1 hw3 c4
    refine lv_iload_n hx hb dX8_policy_17 rfl (lv_at hl 2 rfl) ?_
    refine lv_i2l hx hb dX8_policy_18 rfl ?_
    refine lv_lconst (v := 1) hx hb dX8_policy_19 (by decide) ?_
    refine lv_ldc2 (v := 9000000) hx hb hown (hts _ (List.mem_cons_of_mem _ wd_173)) dX8_policy_20 ?_
    refine k_iS (va_runS (As := [.long (Int32.toInt64 p1), .long 1, .long 9000000]) (rest := []) ⟨hx, hb, hml, hown, hts⟩ (m_X8_in l D cI cJ H.size (Int32.toInt64 p1) 1 9000000) (va_cwS 3 hts gX8_policy_X8_in rfl rfl rfl (by decide +kernel) ⟨Nat.le_of_ble_eq_true rfl, Nat.le_of_ble_eq_true rfl⟩) (k_pre hE hP hD [] (by decide +kernel) rfl) rfl rfl hl.1 rfl (lv_room (Nat.le_of_ble_eq_true rfl)) dX8_policy_23 ⟨Nat.le_of_ble_eq_true rfl, Nat.le_of_ble_eq_true rfl⟩) hP hD hS hA [] rfl (fun _ _ h9 => h9.2) (fun r6 H locs hw7 hP hD hS => ?_)
    obtain ⟨hw7, -⟩ := hw7
    have hw8 : r6 = bz (1 ≤ p1 ∧ p1 ≤ 9000000) := by rw [hw7]; exact bz_c (w3 (a := p1) (lo := 1) (hi := 9000000) (by decide) (by decide))
    refine lv_if_eq (tgt := 71) hx hb dX8_policy_26 (by decide) (fun c9 => ?_) (fun c9 => ?_)
    · skip
      have hc9 : ¬ (1 ≤ p1 ∧ p1 ≤ 9000000) := bz_0 hw8 c9
      refine lv_iconst (v := 0) hx hb dX8_policy_71 (by decide) ?_
      refine lv_istore (lv' := [(6, .int 0), (0, .ref g), (1, .int p0), (2, .int p1), (3, .int p2), (4, .int p3), (5, .int p4)]) hx hb dX8_policy_72 hl (by decide) rfl (fun ls hl => ?_)
      refine lv_iload hx hb dX8_policy_74 (lv_at hl 0 rfl) ?_
      refine lv_if_eq (tgt := 88) hx hb dX8_policy_76 (by decide) (fun _ => ?_) (fun c10 => absurd (by decide) c10)
      refine lv_iconst (v := (-1)) hx hb dX8_policy_88 (by decide) ?_
      refine k_iret (u := [(oX8 g 0 (nI mn) g2 g3 g4 g5 g6 g7 g8 g9 g10 (nI ml) g12 g13 gi14 g15 g16 g17 gi18 g19 g20 g21 g22 g23 g24 g25 g26 g27 g28 gi29 gi30 (nI mv) gi32 g33 g34 g35 g36 g37 g38 g39 gi40 g41 g42 gi43 g44 g45), (aIc cI g2 8 G2), (aIc cI g3 8 G3), (aIc cI g4 8 G4), (aIc cI g5 8 G5), (aIc cI g6 8 G6)]) hx hb hr hlk hP hD hS dX8_policy_89 ?_
      exact Or.inr ⟨(fun q => hc9 q.1.2.1), rfl, rfl⟩
    · skip
      have hc9 : 1 ≤ p1 ∧ p1 ≤ 9000000 := bz_1 hw8 c9
      refine lv_iload_n hx hb dX8_policy_29 rfl (lv_at hl 3 rfl) ?_
      refine lv_i2l hx hb dX8_policy_30 rfl ?_
      refine lv_lconst (v := 0) hx hb dX8_policy_31 (by decide) ?_
      refine lv_ldc2 (v := 99999) hx hb hown (hts _ (List.mem_cons_of_mem _ wd_174)) dX8_policy_32 ?_
      refine k_iS (va_runS (As := [.long (Int32.toInt64 p2), .long 0, .long 99999]) (rest := []) ⟨hx, hb, hml, hown, hts⟩ (m_X8_in l D cI cJ H.size (Int32.toInt64 p2) 0 99999) (va_cwS 3 hts gX8_policy_X8_in rfl rfl rfl (by decide +kernel) ⟨Nat.le_of_ble_eq_true rfl, Nat.le_of_ble_eq_true rfl⟩) (k_pre hE hP hD [] (by decide +kernel) rfl) rfl rfl hl.1 rfl (lv_room (Nat.le_of_ble_eq_true rfl)) dX8_policy_35 ⟨Nat.le_of_ble_eq_true rfl, Nat.le_of_ble_eq_true rfl⟩) hP hD hS hA [] rfl (fun _ _ h9 => h9.2) (fun r11 H locs hw12 hP hD hS => ?_)
      obtain ⟨hw12, -⟩ := hw12
      have hw13 : r11 = bz (0 ≤ p2 ∧ p2 ≤ 99999) := by rw [hw12]; exact bz_c (w3 (a := p2) (lo := 0) (hi := 99999) (by decide) (by decide))
      refine lv_if_eq (tgt := 71) hx hb dX8_policy_38 (by decide) (fun c14 => ?_) (fun c14 => ?_)
      · skip
        have hc14 : ¬ (0 ≤ p2 ∧ p2 ≤ 99999) := bz_0 hw13 c14
        refine lv_iconst (v := 0) hx hb dX8_policy_71 (by decide) ?_
        refine lv_istore (lv' := [(6, .int 0), (0, .ref g), (1, .int p0), (2, .int p1), (3, .int p2), (4, .int p3), (5, .int p4)]) hx hb dX8_policy_72 hl (by decide) rfl (fun ls hl => ?_)
        refine lv_iload hx hb dX8_policy_74 (lv_at hl 0 rfl) ?_
        refine lv_if_eq (tgt := 88) hx hb dX8_policy_76 (by decide) (fun _ => ?_) (fun c15 => absurd (by decide) c15)
        refine lv_iconst (v := (-1)) hx hb dX8_policy_88 (by decide) ?_
        refine k_iret (u := [(oX8 g 0 (nI mn) g2 g3 g4 g5 g6 g7 g8 g9 g10 (nI ml) g12 g13 gi14 g15 g16 g17 gi18 g19 g20 g21 g22 g23 g24 g25 g26 g27 g28 gi29 gi30 (nI mv) gi32 g33 g34 g35 g36 g37 g38 g39 gi40 g41 g42 gi43 g44 g45), (aIc cI g2 8 G2), (aIc cI g3 8 G3), (aIc cI g4 8 G4), (aIc cI g5 8 G5), (aIc cI g6 8 G6)]) hx hb hr hlk hP hD hS dX8_policy_89 ?_
        exact Or.inr ⟨(fun q => hc14 q.1.2.2.1), rfl, rfl⟩
      · skip
        have hc14 : 0 ≤ p2 ∧ p2 ≤ 99999 := bz_1 hw13 c14
        refine lv_iload hx hb dX8_policy_41 (lv_at hl 4 rfl) ?_
        refine lv_i2l hx hb dX8_policy_43 rfl ?_
        refine lv_lconst (v := 0) hx hb dX8_policy_44 (by decide) ?_
        refine lv_ldc2 (v := 9000000) hx hb hown (hts _ (List.mem_cons_of_mem _ wd_173)) dX8_policy_45 ?_
        refine k_iS (va_runS (As := [.long (Int32.toInt64 p3), .long 0, .long 9000000]) (rest := []) ⟨hx, hb, hml, hown, hts⟩ (m_X8_in l D cI cJ H.size (Int32.toInt64 p3) 0 9000000) (va_cwS 3 hts gX8_policy_X8_in rfl rfl rfl (by decide +kernel) ⟨Nat.le_of_ble_eq_true rfl, Nat.le_of_ble_eq_true rfl⟩) (k_pre hE hP hD [] (by decide +kernel) rfl) rfl rfl hl.1 rfl (lv_room (Nat.le_of_ble_eq_true rfl)) dX8_policy_48 ⟨Nat.le_of_ble_eq_true rfl, Nat.le_of_ble_eq_true rfl⟩) hP hD hS hA [] rfl (fun _ _ h9 => h9.2) (fun r16 H locs hw17 hP hD hS => ?_)
        obtain ⟨hw17, -⟩ := hw17
        have hw18 : r16 = bz (0 ≤ p3 ∧ p3 ≤ 9000000) := by rw [hw17]; exact bz_c (w3 (a := p3) (lo := 0) (hi := 9000000) (by decide) (by decide))
        refine lv_if_eq (tgt := 71) hx hb dX8_policy_51 (by decide) (fun c19 => ?_) (fun c19 => ?_)
        · skip
          have hc19 : ¬ (0 ≤ p3 ∧ p3 ≤ 9000000) := bz_0 hw18 c19
          refine lv_iconst (v := 0) hx hb dX8_policy_71 (by decide) ?_
          refine lv_istore (lv' := [(6, .int 0), (0, .ref g), (1, .int p0), (2, .int p1), (3, .int p2), (4, .int p3), (5, .int p4)]) hx hb dX8_policy_72 hl (by decide) rfl (fun ls hl => ?_)
          refine lv_iload hx hb dX8_policy_74 (lv_at hl 0 rfl) ?_
          refine lv_if_eq (tgt := 88) hx hb dX8_policy_76 (by decide) (fun _ => ?_) (fun c20 => absurd (by decide) c20)
          refine lv_iconst (v := (-1)) hx hb dX8_policy_88 (by decide) ?_
          refine k_iret (u := [(oX8 g 0 (nI mn) g2 g3 g4 g5 g6 g7 g8 g9 g10 (nI ml) g12 g13 gi14 g15 g16 g17 gi18 g19 g20 g21 g22 g23 g24 g25 g26 g27 g28 gi29 gi30 (nI mv) gi32 g33 g34 g35 g36 g37 g38 g39 gi40 g41 g42 gi43 g44 g45), (aIc cI g2 8 G2), (aIc cI g3 8 G3), (aIc cI g4 8 G4), (aIc cI g5 8 G5), (aIc cI g6 8 G6)]) hx hb hr hlk hP hD hS dX8_policy_89 ?_
          exact Or.inr ⟨(fun q => hc19 q.1.2.2.2.1), rfl, rfl⟩
        · skip
          have hc19 : 0 ≤ p3 ∧ p3 ≤ 9000000 := bz_1 hw18 c19
          refine lv_iload hx hb dX8_policy_54 (lv_at hl 5 rfl) ?_
          refine lv_i2l hx hb dX8_policy_56 rfl ?_
          refine lv_lconst (v := 1) hx hb dX8_policy_57 (by decide) ?_
          refine lv_ldc2 (v := 255) hx hb hown (hts _ (List.mem_cons_of_mem _ wd_175)) dX8_policy_58 ?_
          refine k_iS (va_runS (As := [.long (Int32.toInt64 p4), .long 1, .long 255]) (rest := []) ⟨hx, hb, hml, hown, hts⟩ (m_X8_in l D cI cJ H.size (Int32.toInt64 p4) 1 255) (va_cwS 3 hts gX8_policy_X8_in rfl rfl rfl (by decide +kernel) ⟨Nat.le_of_ble_eq_true rfl, Nat.le_of_ble_eq_true rfl⟩) (k_pre hE hP hD [] (by decide +kernel) rfl) rfl rfl hl.1 rfl (lv_room (Nat.le_of_ble_eq_true rfl)) dX8_policy_61 ⟨Nat.le_of_ble_eq_true rfl, Nat.le_of_ble_eq_true rfl⟩) hP hD hS hA [] rfl (fun _ _ h9 => h9.2) (fun r21 H locs hw22 hP hD hS => ?_)
          obtain ⟨hw22, -⟩ := hw22
          have hw23 : r21 = bz (1 ≤ p4 ∧ p4 ≤ 255) := by rw [hw22]; exact bz_c (w3 (a := p4) (lo := 1) (hi := 255) (by decide) (by decide))
          refine lv_if_eq (tgt := 71) hx hb dX8_policy_64 (by decide) (fun c24 => ?_) (fun c24 => ?_)
          · skip
            have hc24 : ¬ (1 ≤ p4 ∧ p4 ≤ 255) := bz_0 hw23 c24
            refine lv_iconst (v := 0) hx hb dX8_policy_71 (by decide) ?_
            refine lv_istore (lv' := [(6, .int 0), (0, .ref g), (1, .int p0), (2, .int p1), (3, .int p2), (4, .int p3), (5, .int p4)]) hx hb dX8_policy_72 hl (by decide) rfl (fun ls hl => ?_)
            refine lv_iload hx hb dX8_policy_74 (lv_at hl 0 rfl) ?_
            refine lv_if_eq (tgt := 88) hx hb dX8_policy_76 (by decide) (fun _ => ?_) (fun c25 => absurd (by decide) c25)
            refine lv_iconst (v := (-1)) hx hb dX8_policy_88 (by decide) ?_
            refine k_iret (u := [(oX8 g 0 (nI mn) g2 g3 g4 g5 g6 g7 g8 g9 g10 (nI ml) g12 g13 gi14 g15 g16 g17 gi18 g19 g20 g21 g22 g23 g24 g25 g26 g27 g28 gi29 gi30 (nI mv) gi32 g33 g34 g35 g36 g37 g38 g39 gi40 g41 g42 gi43 g44 g45), (aIc cI g2 8 G2), (aIc cI g3 8 G3), (aIc cI g4 8 G4), (aIc cI g5 8 G5), (aIc cI g6 8 G6)]) hx hb hr hlk hP hD hS dX8_policy_89 ?_
            exact Or.inr ⟨(fun q => hc24 q.1.2.2.2.2), rfl, rfl⟩
          · skip
            have hc24 : 1 ≤ p4 ∧ p4 ≤ 255 := bz_1 hw23 c24
            refine lv_iconst (v := 1) hx hb dX8_policy_67 (by decide) ?_
            refine lv_goto (tgt := 72) hx hb dX8_policy_68 (by decide) ?_
            refine lv_istore (lv' := [(6, .int 1), (0, .ref g), (1, .int p0), (2, .int p1), (3, .int p2), (4, .int p3), (5, .int p4)]) hx hb dX8_policy_72 hl (by decide) rfl (fun ls hl => ?_)
            refine lv_iload hx hb dX8_policy_74 (lv_at hl 0 rfl) ?_
            refine lv_if_eq (tgt := 88) hx hb dX8_policy_76 (by decide) (fun c26 => absurd c26 (by decide)) (fun _ => ?_)
            refine lv_aload_n hx hb dX8_policy_79 rfl (lv_at hl 1 rfl) ?_
            refine va_get (D := D) (ci := 8) (v := .int (nI mn)) (C := RX8) (T := TX8) (N := 46) hx hb hts hiX8 hown hE.1 hP 0 rfl rfl 1 (by decide) (hts _ (List.mem_cons_of_mem _ wd_176)) (fun _ h9 => h9) rfl dX8_policy_80 ?_
            refine lv_bipush (v := 8) hx hb dX8_policy_83 (by decide) ?_
            refine lv_icmp_ne (tgt := 90) hx hb dX8_policy_85 (by decide) (fun c27 => ?_) (fun c27 => ?_)
            · skip
              have nc27 : ¬ mn = 8 := fun q9 => c27 ((nI_eq (a := mn) (b := 8) (by omega) (by omega)).mpr q9)
              refine lv_aload_n hx hb dX8_policy_90 rfl (lv_at hl 1 rfl) ?_
              refine va_get (D := D) (ci := 8) (v := .ref g2) (C := RX8) (T := TX8) (N := 46) hx hb hts hiX8 hown hE.1 hP 0 rfl rfl 2 (by decide) (hts _ (List.mem_cons_of_mem _ wd_116)) (fun _ h9 => h9) rfl dX8_policy_91 ?_
              refine lv_aload_n hx hb dX8_policy_94 rfl (lv_at hl 1 rfl) ?_
              refine va_get (D := D) (ci := 8) (v := .int (nI mn)) (C := RX8) (T := TX8) (N := 46) hx hb hts hiX8 hown hE.1 hP 0 rfl rfl 1 (by decide) (hts _ (List.mem_cons_of_mem _ wd_176)) (fun _ h9 => h9) rfl dX8_policy_95 ?_
              refine lv_iload_n hx hb dX8_policy_98 rfl (lv_at hl 2 rfl) ?_
              refine va_iast hx hb hE.1 hP hD hS 1 0 rfl rfl (vp_in_nI (n := mn) (by omega) (by decide)) dX8_policy_99 (fun H locs hP hD hS => ?_)
              refine k_re (w := [(oX8 g 0 (nI mn) g2 g3 g4 g5 g6 g7 g8 g9 g10 (nI ml) g12 g13 gi14 g15 g16 g17 gi18 g19 g20 g21 g22 g23 g24 g25 g26 g27 g28 gi29 gi30 (nI mv) gi32 g33 g34 g35 g36 g37 g38 g39 gi40 g41 g42 gi43 g44 g45), (aIc cI g2 8 (upd G2 (Int32.toNatClampNeg (nI mn)) p0)), (aIc cI g3 8 G3), (aIc cI g4 8 G4), (aIc cI g5 8 G5), (aIc cI g6 8 G6)]) hP hD (fun hP hD => ?_)
              refine lv_aload_n hx hb dX8_policy_100 rfl (lv_at hl 1 rfl) ?_
              refine va_get (D := D) (ci := 8) (v := .ref g3) (C := RX8) (T := TX8) (N := 46) hx hb hts hiX8 hown hE.1 hP 0 rfl rfl 3 (by decide) (hts _ (List.mem_cons_of_mem _ wd_117)) (fun _ h9 => h9) rfl dX8_policy_101 ?_
              refine lv_aload_n hx hb dX8_policy_104 rfl (lv_at hl 1 rfl) ?_
              refine va_get (D := D) (ci := 8) (v := .int (nI mn)) (C := RX8) (T := TX8) (N := 46) hx hb hts hiX8 hown hE.1 hP 0 rfl rfl 1 (by decide) (hts _ (List.mem_cons_of_mem _ wd_176)) (fun _ h9 => h9) rfl dX8_policy_105 ?_
              refine lv_iload_n hx hb dX8_policy_108 rfl (lv_at hl 3 rfl) ?_
              refine va_iast hx hb hE.1 hP hD hS 2 0 rfl rfl (vp_in_nI (n := mn) (by omega) (by decide)) dX8_policy_109 (fun H locs hP hD hS => ?_)
              refine k_re (w := [(oX8 g 0 (nI mn) g2 g3 g4 g5 g6 g7 g8 g9 g10 (nI ml) g12 g13 gi14 g15 g16 g17 gi18 g19 g20 g21 g22 g23 g24 g25 g26 g27 g28 gi29 gi30 (nI mv) gi32 g33 g34 g35 g36 g37 g38 g39 gi40 g41 g42 gi43 g44 g45), (aIc cI g2 8 (upd G2 (Int32.toNatClampNeg (nI mn)) p0)), (aIc cI g3 8 (upd G3 (Int32.toNatClampNeg (nI mn)) p1)), (aIc cI g4 8 G4), (aIc cI g5 8 G5), (aIc cI g6 8 G6)]) hP hD (fun hP hD => ?_)
              refine lv_aload_n hx hb dX8_policy_110 rfl (lv_at hl 1 rfl) ?_
              refine va_get (D := D) (ci := 8) (v := .ref g4) (C := RX8) (T := TX8) (N := 46) hx hb hts hiX8 hown hE.1 hP 0 rfl rfl 4 (by decide) (hts _ (List.mem_cons_of_mem _ wd_118)) (fun _ h9 => h9) rfl dX8_policy_111 ?_
              refine lv_aload_n hx hb dX8_policy_114 rfl (lv_at hl 1 rfl) ?_
              refine va_get (D := D) (ci := 8) (v := .int (nI mn)) (C := RX8) (T := TX8) (N := 46) hx hb hts hiX8 hown hE.1 hP 0 rfl rfl 1 (by decide) (hts _ (List.mem_cons_of_mem _ wd_176)) (fun _ h9 => h9) rfl dX8_policy_115 ?_
              refine lv_iload_n hx hb dX8_policy_118 rfl (lv_at hl 4 rfl) ?_
              refine va_iast hx hb hE.1 hP hD hS 3 0 rfl rfl (vp_in_nI (n := mn) (by omega) (by decide)) dX8_policy_119 (fun H locs hP hD hS => ?_)
              refine k_re (w := [(oX8 g 0 (nI mn) g2 g3 g4 g5 g6 g7 g8 g9 g10 (nI ml) g12 g13 gi14 g15 g16 g17 gi18 g19 g20 g21 g22 g23 g24 g25 g26 g27 g28 gi29 gi30 (nI mv) gi32 g33 g34 g35 g36 g37 g38 g39 gi40 g41 g42 gi43 g44 g45), (aIc cI g2 8 (upd G2 (Int32.toNatClampNeg (nI mn)) p0)), (aIc cI g3 8 (upd G3 (Int32.toNatClampNeg (nI mn)) p1)), (aIc cI g4 8 (upd G4 (Int32.toNatClampNeg (nI mn)) p2)), (aIc cI g5 8 G5), (aIc cI g6 8 G6)]) hP hD (fun hP hD => ?_)
              refine lv_aload_n hx hb dX8_policy_120 rfl (lv_at hl 1 rfl) ?_
              refine va_get (D := D) (ci := 8) (v := .ref g5) (C := RX8) (T := TX8) (N := 46) hx hb hts hiX8 hown hE.1 hP 0 rfl rfl 5 (by decide) (hts _ (List.mem_cons_of_mem _ wd_119)) (fun _ h9 => h9) rfl dX8_policy_121 ?_
              refine lv_aload_n hx hb dX8_policy_124 rfl (lv_at hl 1 rfl) ?_
              refine va_get (D := D) (ci := 8) (v := .int (nI mn)) (C := RX8) (T := TX8) (N := 46) hx hb hts hiX8 hown hE.1 hP 0 rfl rfl 1 (by decide) (hts _ (List.mem_cons_of_mem _ wd_176)) (fun _ h9 => h9) rfl dX8_policy_125 ?_
              refine lv_iload hx hb dX8_policy_128 (lv_at hl 5 rfl) ?_
              refine va_iast hx hb hE.1 hP hD hS 4 0 rfl rfl (vp_in_nI (n := mn) (by omega) (by decide)) dX8_policy_130 (fun H locs hP hD hS => ?_)
              refine k_re (w := [(oX8 g 0 (nI mn) g2 g3 g4 g5 g6 g7 g8 g9 g10 (nI ml) g12 g13 gi14 g15 g16 g17 gi18 g19 g20 g21 g22 g23 g24 g25 g26 g27 g28 gi29 gi30 (nI mv) gi32 g33 g34 g35 g36 g37 g38 g39 gi40 g41 g42 gi43 g44 g45), (aIc cI g2 8 (upd G2 (Int32.toNatClampNeg (nI mn)) p0)), (aIc cI g3 8 (upd G3 (Int32.toNatClampNeg (nI mn)) p1)), (aIc cI g4 8 (upd G4 (Int32.toNatClampNeg (nI mn)) p2)), (aIc cI g5 8 (upd G5 (Int32.toNatClampNeg (nI mn)) p3)), (aIc cI g6 8 G6)]) hP hD (fun hP hD => ?_)
              refine lv_aload_n hx hb dX8_policy_131 rfl (lv_at hl 1 rfl) ?_
              refine va_get (D := D) (ci := 8) (v := .ref g6) (C := RX8) (T := TX8) (N := 46) hx hb hts hiX8 hown hE.1 hP 0 rfl rfl 6 (by decide) (hts _ (List.mem_cons_of_mem _ wd_120)) (fun _ h9 => h9) rfl dX8_policy_132 ?_
              refine lv_aload_n hx hb dX8_policy_135 rfl (lv_at hl 1 rfl) ?_
              refine va_get (D := D) (ci := 8) (v := .int (nI mn)) (C := RX8) (T := TX8) (N := 46) hx hb hts hiX8 hown hE.1 hP 0 rfl rfl 1 (by decide) (hts _ (List.mem_cons_of_mem _ wd_176)) (fun _ h9 => h9) rfl dX8_policy_136 ?_
              refine lv_iload hx hb dX8_policy_139 (lv_at hl 6 rfl) ?_
              refine va_iast hx hb hE.1 hP hD hS 5 0 rfl rfl (vp_in_nI (n := mn) (by omega) (by decide)) dX8_policy_141 (fun H locs hP hD hS => ?_)
              refine k_re (w := [(oX8 g 0 (nI mn) g2 g3 g4 g5 g6 g7 g8 g9 g10 (nI ml) g12 g13 gi14 g15 g16 g17 gi18 g19 g20 g21 g22 g23 g24 g25 g26 g27 g28 gi29 gi30 (nI mv) gi32 g33 g34 g35 g36 g37 g38 g39 gi40 g41 g42 gi43 g44 g45), (aIc cI g2 8 (upd G2 (Int32.toNatClampNeg (nI mn)) p0)), (aIc cI g3 8 (upd G3 (Int32.toNatClampNeg (nI mn)) p1)), (aIc cI g4 8 (upd G4 (Int32.toNatClampNeg (nI mn)) p2)), (aIc cI g5 8 (upd G5 (Int32.toNatClampNeg (nI mn)) p3)), (aIc cI g6 8 (upd G6 (Int32.toNatClampNeg (nI mn)) p4))]) hP hD (fun hP hD => ?_)
              refine lv_aload_n hx hb dX8_policy_142 rfl (lv_at hl 1 rfl) ?_
              refine lv_dup hx hb dX8_policy_143 rfl ?_
              refine va_get (D := D) (ci := 8) (v := .int (nI mn)) (C := RX8) (T := TX8) (N := 46) hx hb hts hiX8 hown hE.1 hP 0 rfl rfl 1 (by decide) (hts _ (List.mem_cons_of_mem _ wd_176)) (fun _ h9 => h9) rfl dX8_policy_144 ?_
              refine lv_iconst (v := 1) hx hb dX8_policy_147 (by decide) ?_
              refine lv_iadd hx hb dX8_policy_148 ?_
              refine lv_topi (fun v28 ev28 => ?_)
              obtain rfl : v28 = (nI (mn + 1)) := by rw [ev28]; exact nI_add mn 1
              refine va_put (D := D) (ci := 8) (v := .int (nI (mn + 1))) (ty := .int) (C := RX8) (T := TX8) (N := 46) hx hb hts hiX8 tyX8 tyX8_ok nmX8 hown hE.1 hP hD hS 0 rfl rfl 1 (by decide) (hts _ (List.mem_cons_of_mem _ wd_176)) (fun _ h9 => h9) rfl (by decide +kernel) rfl rfl (Nat.le_of_ble_eq_true rfl) dX8_policy_149 (fun H locs hP hD hS => ?_)
              refine k_re (w := [(oX8 g 0 (nI (mn + 1)) g2 g3 g4 g5 g6 g7 g8 g9 g10 (nI ml) g12 g13 gi14 g15 g16 g17 gi18 g19 g20 g21 g22 g23 g24 g25 g26 g27 g28 gi29 gi30 (nI mv) gi32 g33 g34 g35 g36 g37 g38 g39 gi40 g41 g42 gi43 g44 g45), (aIc cI g2 8 (upd G2 (Int32.toNatClampNeg (nI mn)) p0)), (aIc cI g3 8 (upd G3 (Int32.toNatClampNeg (nI mn)) p1)), (aIc cI g4 8 (upd G4 (Int32.toNatClampNeg (nI mn)) p2)), (aIc cI g5 8 (upd G5 (Int32.toNatClampNeg (nI mn)) p3)), (aIc cI g6 8 (upd G6 (Int32.toNatClampNeg (nI mn)) p4))]) hP hD (fun hP hD => ?_)
              refine lv_aload_n hx hb dX8_policy_152 rfl (lv_at hl 1 rfl) ?_
              refine va_get (D := D) (ci := 8) (v := .int (nI (mn + 1))) (C := RX8) (T := TX8) (N := 46) hx hb hts hiX8 hown hE.1 hP 0 rfl rfl 1 (by decide) (hts _ (List.mem_cons_of_mem _ wd_176)) (fun _ h9 => h9) rfl dX8_policy_153 ?_
              refine lv_iconst (v := 1) hx hb dX8_policy_156 (by decide) ?_
              refine lv_isub hx hb dX8_policy_157 ?_
              refine lv_topi (fun v29 ev29 => ?_)
              obtain rfl : v29 = nI mn := by rw [ev29]; exact nI_pred mn
              refine k_iret (u := [(oX8 g 0 (nI (mn + 1)) g2 g3 g4 g5 g6 g7 g8 g9 g10 (nI ml) g12 g13 gi14 g15 g16 g17 gi18 g19 g20 g21 g22 g23 g24 g25 g26 g27 g28 gi29 gi30 (nI mv) gi32 g33 g34 g35 g36 g37 g38 g39 gi40 g41 g42 gi43 g44 g45), (aIc cI g2 8 (upd G2 (Int32.toNatClampNeg (nI mn)) p0)), (aIc cI g3 8 (upd G3 (Int32.toNatClampNeg (nI mn)) p1)), (aIc cI g4 8 (upd G4 (Int32.toNatClampNeg (nI mn)) p2)), (aIc cI g5 8 (upd G5 (Int32.toNatClampNeg (nI mn)) p3)), (aIc cI g6 8 (upd G6 (Int32.toNatClampNeg (nI mn)) p4))]) hx hb hr hlk hP hD hS dX8_policy_158 ?_
              exact Or.inl ⟨⟨⟨hc4, hc9, hc14, hc19, hc24⟩, by omega⟩, rfl, rfl⟩
            · skip
              have nc27 : mn = 8 := (nI_eq (a := mn) (b := 8) (by omega) (by omega)).mp c27
              refine lv_iconst (v := (-1)) hx hb dX8_policy_88 (by decide) ?_
              refine k_iret (u := [(oX8 g 0 (nI mn) g2 g3 g4 g5 g6 g7 g8 g9 g10 (nI ml) g12 g13 gi14 g15 g16 g17 gi18 g19 g20 g21 g22 g23 g24 g25 g26 g27 g28 gi29 gi30 (nI mv) gi32 g33 g34 g35 g36 g37 g38 g39 gi40 g41 g42 gi43 g44 g45), (aIc cI g2 8 G2), (aIc cI g3 8 G3), (aIc cI g4 8 G4), (aIc cI g5 8 G5), (aIc cI g6 8 G6)]) hx hb hr hlk hP hD hS dX8_policy_89 ?_
              exact Or.inr ⟨(fun q => by omega), rfl, rfl⟩

