theorem dX7_part_0 : decode cX7_part 0 = .ok (.aload_n 0, 1) := by decide +kernel
theorem dX7_part_1 : decode cX7_part 1 = .ok (.iload_n 1, 1) := by decide +kernel
theorem dX7_part_2 : decode cX7_part 2 = .ok (.invokevirtual 137, 3) := by decide +kernel
theorem dX7_part_5 : decode cX7_part 5 = .ok (.ifCond .eq 11, 3) := by decide +kernel
theorem dX7_part_8 : decode cX7_part 8 = .ok (.aload_n 0, 1) := by decide +kernel
theorem dX7_part_9 : decode cX7_part 9 = .ok (.iload_n 2, 1) := by decide +kernel
theorem dX7_part_10 : decode cX7_part 10 = .ok (.invokevirtual 74, 3) := by decide +kernel
theorem dX7_part_13 : decode cX7_part 13 = .ok (.ifCond .ne 5, 3) := by decide +kernel
theorem dX7_part_16 : decode cX7_part 16 = .ok (.iconst (-1), 1) := by decide +kernel
theorem dX7_part_17 : decode cX7_part 17 = .ok (.ireturn, 1) := by decide +kernel
theorem dX7_part_18 : decode cX7_part 18 = .ok (.aload_n 0, 1) := by decide +kernel
theorem dX7_part_19 : decode cX7_part 19 = .ok (.iload_n 1, 1) := by decide +kernel
theorem dX7_part_20 : decode cX7_part 20 = .ok (.invokevirtual 140, 3) := by decide +kernel
theorem dX7_part_23 : decode cX7_part 23 = .ok (.aload_n 0, 1) := by decide +kernel
theorem dX7_part_24 : decode cX7_part 24 = .ok (.getfield 10, 3) := by decide +kernel
theorem dX7_part_27 : decode cX7_part 27 = .ok (.getfield 148, 3) := by decide +kernel
theorem dX7_part_30 : decode cX7_part 30 = .ok (.ifCond .ne 5, 3) := by decide +kernel
theorem dX7_part_33 : decode cX7_part 33 = .ok (.iconst (-1), 1) := by decide +kernel
theorem dX7_part_34 : decode cX7_part 34 = .ok (.ireturn, 1) := by decide +kernel
theorem dX7_part_35 : decode cX7_part 35 = .ok (.aload_n 0, 1) := by decide +kernel
theorem dX7_part_36 : decode cX7_part 36 = .ok (.getfield 10, 3) := by decide +kernel
theorem dX7_part_39 : decode cX7_part 39 = .ok (.getfield 180, 3) := by decide +kernel
theorem dX7_part_42 : decode cX7_part 42 = .ok (.iload_n 2, 1) := by decide +kernel
theorem dX7_part_43 : decode cX7_part 43 = .ok (.iaload, 1) := by decide +kernel
theorem dX7_part_44 : decode cX7_part 44 = .ok (.i2f, 1) := by decide +kernel
theorem dX7_part_45 : decode cX7_part 45 = .ok (.aload_n 0, 1) := by decide +kernel
theorem dX7_part_46 : decode cX7_part 46 = .ok (.getfield 10, 3) := by decide +kernel
theorem dX7_part_49 : decode cX7_part 49 = .ok (.getfield 148, 3) := by decide +kernel
theorem dX7_part_52 : decode cX7_part 52 = .ok (.i2f, 1) := by decide +kernel
theorem dX7_part_53 : decode cX7_part 53 = .ok (.fdiv, 1) := by decide +kernel
theorem dX7_part_54 : decode cX7_part 54 = .ok (.invokestatic 199, 3) := by decide +kernel
theorem dX7_part_57 : decode cX7_part 57 = .ok (.ireturn, 1) := by decide +kernel
theorem gX7_part_X7_bitsOfFloat : GoodIn wtX7_part (va_wsS RX7 199 yX7_bitsOfFloat wtX7_bitsOfFloat) := tb_good (tb_s0 wd_602 wd_603 wd_2 wd_604)
theorem gX7_part_X7_isLoss : GoodIn wtX7_part (wsV RX7 137 RX7 yX7_isLoss wtX7_isLoss) := tb_good (tb_v0 wd_519 wd_520 wd_521 wd_2 wd_522)
theorem gX7_part_X7_isPolicy : GoodIn wtX7_part (wsV RX7 74 RX7 yX7_isPolicy wtX7_isPolicy) := tb_good (tb_v0 wd_186 wd_187 wd_188 wd_2 wd_189)
theorem gX7_part_X7_settle : GoodIn wtX7_part (wsV RX7 140 RX7 yX7_settle wtX7_settle) := tb_good (tb_v0 wd_523 wd_524 wd_525 wd_2 wd_526)
set_option maxHeartbeats 4000000 in
set_option maxRecDepth 100000 in
theorem m_X7_part (l : Launch) (D : va_G) (cI cJ : ClassId) (sz : Nat) (x x0 x1 x2 x3 x4 x5 s1 s2 s5 s6 s7 s8 s9 s10 s11 b0 b1 b2 b3 b4 b5 b6 b7 b8 b9 b10 b11 w0 w1 w2 w3 w4 w8 d0 d1 d2 wn lv np nl pn : Nat) (si4 si12 si13 bi14 wi6 p0 p1 : Int32) (B0 B1 B2 B3 B4 B6 B8 B10 B11 S5 S6 S7 S8 S9 S10 S11 W0 W1 W2 W3 W4 W8 D0 D1 : Nat → Int32) (D2 : Nat → Int64) (B5 : Nat → Int32) (hwn : wn < 256) (hlv : lv ≤ 8) (hli : ∀ k, k < 10 → ∃ j : Nat, j < 8 ∧ B10 k = nI j) (hnp : np ≤ 8) (hnl : nl ≤ 10) (hpn : pn < 256) : MetD lw_cs l yX7_part wtX7_part { frames := 6, cells := 0, slots := 0, locals := 146 } (cPc D cI cJ [.ref x, .int p0, .int p1] sz [(oX7 x x0 x1 x2 x3 x4 x5), (oX4 x1 x0 s1 s2 (nI pn) si4 s5 s6 s7 s8 s9 s10 s11 si12 si13), (oX0 x0 b0 b1 b2 b3 b4 b5 b6 b7 b8 b9 b10 b11 (nI np) (nI nl) bi14), (oX6 s1 w0 w1 w2 w3 w4 (nI wn) wi6 (nI lv) w8), (oX2 s2 d0 d1 d2), (aIc cI b0 8 B0), (aIc cI b1 8 B1), (aIc cI b2 8 B2), (aIc cI b3 8 B3), (aIc cI b4 8 B4), (aIc cI b6 8 B6), (aIc cI b8 64 B8), (aIc cI b10 10 B10), (aIc cI b11 10 B11), (aIc cI s5 8 S5), (aIc cI s6 8 S6), (aIc cI s7 8 S7), (aIc cI s8 8 S8), (aIc cI s9 8 S9), (aIc cI s10 8 S10), (aIc cI s11 8 S11), (aIc cI w0 8 W0), (aIc cI w1 8 W1), (aIc cI w2 8 W2), (aIc cI w3 8 W3), (aIc cI w4 8 W4), (aIc cI w8 8 W8), (aIc cI d0 8 D0), (aIc cI d1 8 D1), (aJc cJ d2 8 D2), (aIc cI b5 8 B5)]) (cQi D (fun r u => ∃ (S5p S6p S7p S8p S9p S10p S11p W1p W2p W3p W4p W8p D0p D1p : Nat → Int32) (D2p : Nat → Int64) (si12p si13p wi6p : Int32) (lvp : Nat) (W0p : Nat → Int32) (si4p : Int32) (wnp pnp : Nat), (lvp ≤ 8) ∧ (wnp < 256) ∧ (pnp < 256) ∧ u = [(oX7 x x0 x1 x2 x3 x4 x5), (oX4 x1 x0 s1 s2 (nI pnp) si4p s5 s6 s7 s8 s9 s10 s11 si12p si13p), (oX0 x0 b0 b1 b2 b3 b4 b5 b6 b7 b8 b9 b10 b11 (nI np) (nI nl) bi14), (oX6 s1 w0 w1 w2 w3 w4 (nI wnp) wi6p (nI lvp) w8), (oX2 s2 d0 d1 d2), (aIc cI b0 8 B0), (aIc cI b1 8 B1), (aIc cI b2 8 B2), (aIc cI b3 8 B3), (aIc cI b4 8 B4), (aIc cI b6 8 B6), (aIc cI b8 64 B8), (aIc cI b10 10 B10), (aIc cI b11 10 B11), (aIc cI s5 8 S5p), (aIc cI s6 8 S6p), (aIc cI s7 8 S7p), (aIc cI s8 8 S8p), (aIc cI s9 8 S9p), (aIc cI s10 8 S10p), (aIc cI s11 8 S11p), (aIc cI w0 8 W0p), (aIc cI w1 8 W1p), (aIc cI w2 8 W2p), (aIc cI w3 8 W3p), (aIc cI w4 8 W4p), (aIc cI w8 8 W8p), (aIc cI d0 8 D0p), (aIc cI d1 8 D1p), (aJc cJ d2 8 D2p), (aIc cI b5 8 B5)]) (va_A [(oX7 x x0 x1 x2 x3 x4 x5), (oX4 x1 x0 s1 s2 (nI pn) si4 s5 s6 s7 s8 s9 s10 s11 si12 si13), (oX0 x0 b0 b1 b2 b3 b4 b5 b6 b7 b8 b9 b10 b11 (nI np) (nI nl) bi14), (oX6 s1 w0 w1 w2 w3 w4 (nI wn) wi6 (nI lv) w8), (oX2 s2 d0 d1 d2), (aIc cI b0 8 B0), (aIc cI b1 8 B1), (aIc cI b2 8 B2), (aIc cI b3 8 B3), (aIc cI b4 8 B4), (aIc cI b6 8 B6), (aIc cI b8 64 B8), (aIc cI b10 10 B10), (aIc cI b11 10 B11), (aIc cI s5 8 S5), (aIc cI s6 8 S6), (aIc cI s7 8 S7), (aIc cI s8 8 S8), (aIc cI s9 8 S9), (aIc cI s10 8 S10), (aIc cI s11 8 S11), (aIc cI w0 8 W0), (aIc cI w1 8 W1), (aIc cI w2 8 W2), (aIc cI w3 8 W3), (aIc cI w4 8 W4), (aIc cI w8 8 W8), (aIc cI d0 8 D0), (aIc cI d1 8 D1), (aJc cJ d2 8 D2), (aIc cI b5 8 B5)] sz)) 0 0 (va_A [(oX7 x x0 x1 x2 x3 x4 x5), (oX4 x1 x0 s1 s2 (nI pn) si4 s5 s6 s7 s8 s9 s10 s11 si12 si13), (oX0 x0 b0 b1 b2 b3 b4 b5 b6 b7 b8 b9 b10 b11 (nI np) (nI nl) bi14), (oX6 s1 w0 w1 w2 w3 w4 (nI wn) wi6 (nI lv) w8), (oX2 s2 d0 d1 d2), (aIc cI b0 8 B0), (aIc cI b1 8 B1), (aIc cI b2 8 B2), (aIc cI b3 8 B3), (aIc cI b4 8 B4), (aIc cI b6 8 B6), (aIc cI b8 64 B8), (aIc cI b10 10 B10), (aIc cI b11 10 B11), (aIc cI s5 8 S5), (aIc cI s6 8 S6), (aIc cI s7 8 S7), (aIc cI s8 8 S8), (aIc cI s9 8 S9), (aIc cI s10 8 S10), (aIc cI s11 8 S11), (aIc cI w0 8 W0), (aIc cI w1 8 W1), (aIc cI w2 8 W2), (aIc cI w3 8 W3), (aIc cI w4 8 W4), (aIc cI w8 8 W8), (aIc cI d0 8 D0), (aIc cI d1 8 D1), (aJc cJ d2 8 D2), (aIc cI b5 8 B5)] sz) := by
  refine k_ofWD (Qc := cQi D (fun r u => ∃ (S5p S6p S7p S8p S9p S10p S11p W1p W2p W3p W4p W8p D0p D1p : Nat → Int32) (D2p : Nat → Int64) (si12p si13p wi6p : Int32) (lvp : Nat) (W0p : Nat → Int32) (si4p : Int32) (wnp pnp : Nat), (lvp ≤ 8) ∧ (wnp < 256) ∧ (pnp < 256) ∧ u = [(oX7 x x0 x1 x2 x3 x4 x5), (oX4 x1 x0 s1 s2 (nI pnp) si4p s5 s6 s7 s8 s9 s10 s11 si12p si13p), (oX0 x0 b0 b1 b2 b3 b4 b5 b6 b7 b8 b9 b10 b11 (nI np) (nI nl) bi14), (oX6 s1 w0 w1 w2 w3 w4 (nI wnp) wi6p (nI lvp) w8), (oX2 s2 d0 d1 d2), (aIc cI b0 8 B0), (aIc cI b1 8 B1), (aIc cI b2 8 B2), (aIc cI b3 8 B3), (aIc cI b4 8 B4), (aIc cI b6 8 B6), (aIc cI b8 64 B8), (aIc cI b10 10 B10), (aIc cI b11 10 B11), (aIc cI s5 8 S5p), (aIc cI s6 8 S6p), (aIc cI s7 8 S7p), (aIc cI s8 8 S8p), (aIc cI s9 8 S9p), (aIc cI s10 8 S10p), (aIc cI s11 8 S11p), (aIc cI w0 8 W0p), (aIc cI w1 8 W1p), (aIc cI w2 8 W2p), (aIc cI w3 8 W3p), (aIc cI w4 8 W4p), (aIc cI w8 8 W8p), (aIc cI d0 8 D0p), (aIc cI d1 8 D1p), (aJc cJ d2 8 D2p), (aIc cI b5 8 B5)])) (by decide) rfl (Nat.le_of_ble_eq_true rfl) ?_
  intro p e s m below meth c A ls hx hb hr hml hts hown hlk hnm hsz hE hP hD hS hA hl
  have hown : s.vm.findClass RX7 = some m.cls := hown
  have htsB := hts
  have hts := dr_words htsB s.drawn
  have hE : eK D cI cJ (s.setDrawn s.drawn) := hE
  have hown : (s.setDrawn s.drawn).vm.findClass RX7 = some m.cls := hown
  have hiX7 : ∀ w ∈ u_ws RX7 TX7 6, w ∈ wtX7_part := fun w h => List.mem_cons_of_mem _ (iuX7 w h)
  have hiX4 : ∀ w ∈ u_ws RX4 TX4 14, w ∈ wtX7_part := fun w h => List.mem_cons_of_mem _ (iuX4 w h)
  have hl : lv_has ls 3 [(0, .ref x), (1, .int p0), (2, .int p1)] := hl
  refine lv_aload_n hx hb dX7_part_0 rfl (lv_at hl 0 rfl) ?_
  refine lv_iload_n hx hb dX7_part_1 rfl (lv_at hl 1 rfl) ?_
  refine k_iS (va_runV (As := [.int p0]) (rest := []) ⟨hx, hb, hml, hown, hts⟩ (m_X7_isLoss l D cI cJ (s.heap).size x x0 x1 x2 x3 x4 x5 b0 b1 b2 b3 b4 b5 b6 b7 b8 b9 b10 b11 (nI np) (nI nl) bi14 p0) (cwV 1 hts gX7_part_X7_isLoss rfl rfl rfl (by decide +kernel) ⟨Nat.le_of_ble_eq_true rfl, Nat.le_of_ble_eq_true rfl⟩) (k_preV hE hP hD [0, 2] (by decide +kernel) rfl 0 rfl rfl) rfl rfl hl.1 rfl (lv_room (Nat.le_of_ble_eq_true rfl)) dX7_part_2 ⟨Nat.le_of_ble_eq_true rfl, Nat.le_of_ble_eq_true rfl⟩) hP hD hS hA [0, 2] rfl (fun _ _ h9 => h9.2) (fun r1 H locs hw2 hP hD hS => ?_)
  obtain ⟨hw2, -⟩ := hw2
  refine lv_if_eq (tgt := 16) hx hb dX7_part_5 (by decide) (fun c3 => ?_) (fun c3 => ?_)
  · skip
    have hc3 : ¬ (0 ≤ p0 ∧ p0 ≤ (nI nl) - 1) := bz_0 hw2 c3
    refine lv_iconst (v := (-1)) hx hb dX7_part_16 (by decide) ?_
    refine k_iretD (u := [(oX7 x x0 x1 x2 x3 x4 x5), (oX4 x1 x0 s1 s2 (nI pn) si4 s5 s6 s7 s8 s9 s10 s11 si12 si13), (oX0 x0 b0 b1 b2 b3 b4 b5 b6 b7 b8 b9 b10 b11 (nI np) (nI nl) bi14), (oX6 s1 w0 w1 w2 w3 w4 (nI wn) wi6 (nI lv) w8), (oX2 s2 d0 d1 d2), (aIc cI b0 8 B0), (aIc cI b1 8 B1), (aIc cI b2 8 B2), (aIc cI b3 8 B3), (aIc cI b4 8 B4), (aIc cI b6 8 B6), (aIc cI b8 64 B8), (aIc cI b10 10 B10), (aIc cI b11 10 B11), (aIc cI s5 8 S5), (aIc cI s6 8 S6), (aIc cI s7 8 S7), (aIc cI s8 8 S8), (aIc cI s9 8 S9), (aIc cI s10 8 S10), (aIc cI s11 8 S11), (aIc cI w0 8 W0), (aIc cI w1 8 W1), (aIc cI w2 8 W2), (aIc cI w3 8 W3), (aIc cI w4 8 W4), (aIc cI w8 8 W8), (aIc cI d0 8 D0), (aIc cI d1 8 D1), (aJc cJ d2 8 D2), (aIc cI b5 8 B5)]) (Drawn.sameBut.refl s.drawn lw_cs) hx hb hr hlk hP hD hS dX7_part_17 ?_
    exact ⟨S5, S6, S7, S8, S9, S10, S11, W1, W2, W3, W4, W8, D0, D1, D2, si12, si13, wi6, lv, W0, si4, wn, pn, (by omega), (by omega), (by first | omega | exact ev_lt hnp), rfl⟩
  · skip
    have hc3 : 0 ≤ p0 ∧ p0 ≤ (nI nl) - 1 := bz_1 hw2 c3
    refine lv_aload_n hx hb dX7_part_8 rfl (lv_at hl 0 rfl) ?_
    refine lv_iload_n hx hb dX7_part_9 rfl (lv_at hl 2 rfl) ?_
    refine k_iS (va_runV (As := [.int p1]) (rest := []) ⟨hx, hb, hml, hown, hts⟩ (m_X7_isPolicy l D cI cJ H.size x x0 x1 x2 x3 x4 x5 b0 b1 b2 b3 b4 b5 b6 b7 b8 b9 b10 b11 (nI np) (nI nl) bi14 p1) (cwV 1 hts gX7_part_X7_isPolicy rfl rfl rfl (by decide +kernel) ⟨Nat.le_of_ble_eq_true rfl, Nat.le_of_ble_eq_true rfl⟩) (k_preV hE hP hD [0, 2] (by decide +kernel) rfl 0 rfl rfl) rfl rfl hl.1 rfl (lv_room (Nat.le_of_ble_eq_true rfl)) dX7_part_10 ⟨Nat.le_of_ble_eq_true rfl, Nat.le_of_ble_eq_true rfl⟩) hP hD hS hA [0, 2] rfl (fun _ _ h9 => h9.2) (fun r4 H locs hw5 hP hD hS => ?_)
    obtain ⟨hw5, -⟩ := hw5
    refine lv_if_ne (tgt := 18) hx hb dX7_part_13 (by decide) (fun c6 => ?_) (fun c6 => ?_)
    · skip
      have hc6 : 0 ≤ p1 ∧ p1 ≤ (nI np) - 1 := bz_1 hw5 c6
      obtain ⟨lj, hlj, elj⟩ := wi_n (by omega) hc3
      rw [elj] at hl
      obtain ⟨pj, hpj, epj⟩ := wi_n (by omega) hc6
      rw [epj] at hl
      refine lv_aload_n hx hb dX7_part_18 rfl (lv_at hl 0 rfl) ?_
      refine lv_iload_n hx hb dX7_part_19 rfl (lv_at hl 1 rfl) ?_
      refine k_v (va_runV (As := [.int (nI lj)]) (rest := []) ⟨hx, hb, hml, hown, hts⟩ (m_X7_settle l D cI cJ H.size x x0 x1 x2 x3 x4 x5 s1 s2 s5 s6 s7 s8 s9 s10 s11 b0 b1 b2 b3 b4 b5 b6 b7 b8 b9 b10 b11 w0 w1 w2 w3 w4 w8 d0 d1 d2 wn lv np nl pn si4 si12 si13 bi14 wi6 (nI lj) B0 B1 B2 B3 B4 B6 B8 B10 B11 S5 S6 S7 S8 S9 S10 S11 W0 W1 W2 W3 W4 W8 D0 D1 D2 B5 hwn hlv hli hnp hnl hpn) (cwV 1 hts gX7_part_X7_settle rfl rfl rfl (by decide +kernel) ⟨Nat.le_of_ble_eq_true rfl, Nat.le_of_ble_eq_true rfl⟩) (k_preV hE hP hD [0, 1, 2, 3, 4, 5, 6, 7, 8, 9, 10, 11, 12, 13, 14, 15, 16, 17, 18, 19, 20, 21, 22, 23, 24, 25, 26, 27, 28, 29, 30] (by decide +kernel) rfl 0 rfl rfl) rfl rfl hl.1 rfl (lv_room (Nat.le_of_ble_eq_true rfl)) dX7_part_20 ⟨Nat.le_of_ble_eq_true rfl, Nat.le_of_ble_eq_true rfl⟩) hP hD hS hA [0, 1, 2, 3, 4, 5, 6, 7, 8, 9, 10, 11, 12, 13, 14, 15, 16, 17, 18, 19, 20, 21, 22, 23, 24, 25, 26, 27, 28, 29, 30] [] rfl (wr := []) rfl (by decide +kernel) (by decide +kernel) (fun u H locs hw7 hP hD hS => ?_)
      obtain ⟨z8, z9, z10, z11, z12, z13, z14, z15, z16, z17, z18, z19, z20, z21, z22, z23, z24, z25, z26, z27, z28, z29, z30, hz31, hz32, hz33, rfl⟩ := hw7
      refine k_re (w := [(oX7 x x0 x1 x2 x3 x4 x5), (oX4 x1 x0 s1 s2 (nI z30) z28 s5 s6 s7 s8 s9 s10 s11 z23 z24), (oX0 x0 b0 b1 b2 b3 b4 b5 b6 b7 b8 b9 b10 b11 (nI np) (nI nl) bi14), (oX6 s1 w0 w1 w2 w3 w4 (nI z29) z25 (nI z26) w8), (oX2 s2 d0 d1 d2), (aIc cI b0 8 B0), (aIc cI b1 8 B1), (aIc cI b2 8 B2), (aIc cI b3 8 B3), (aIc cI b4 8 B4), (aIc cI b6 8 B6), (aIc cI b8 64 B8), (aIc cI b10 10 B10), (aIc cI b11 10 B11), (aIc cI s5 8 z8), (aIc cI s6 8 z9), (aIc cI s7 8 z10), (aIc cI s8 8 z11), (aIc cI s9 8 z12), (aIc cI s10 8 z13), (aIc cI s11 8 z14), (aIc cI w0 8 z27), (aIc cI w1 8 z15), (aIc cI w2 8 z16), (aIc cI w3 8 z17), (aIc cI w4 8 z18), (aIc cI w8 8 z19), (aIc cI d0 8 z20), (aIc cI d1 8 z21), (aJc cJ d2 8 z22), (aIc cI b5 8 B5)]) hP hD (fun hP hD => ?_)
      refine lv_aload_n hx hb dX7_part_23 rfl (lv_at hl 0 rfl) ?_
      refine va_get (D := D) (ci := 7) (v := .ref x1) (C := RX7) (T := TX7) (N := 6) hx hb hts hiX7 hown hE.1 hP 0 rfl rfl 1 (by decide) (hts _ (List.mem_cons_of_mem _ wd_17)) (fun _ h9 => h9) rfl dX7_part_24 ?_
      refine va_get (D := D) (ci := 4) (v := .int z23) (C := RX4) (T := TX4) (N := 14) hx hb hts hiX4 hown hE.1 hP 1 rfl rfl 12 (by decide) (hts _ (List.mem_cons_of_mem _ wd_515)) (fun _ h9 => h9) rfl dX7_part_27 ?_
      refine lv_if_ne (tgt := 35) hx hb dX7_part_30 (by decide) (fun c34 => ?_) (fun c34 => ?_)
      · skip
        refine lv_aload_n hx hb dX7_part_35 rfl (lv_at hl 0 rfl) ?_
        refine va_get (D := D) (ci := 7) (v := .ref x1) (C := RX7) (T := TX7) (N := 6) hx hb hts hiX7 hown hE.1 hP 0 rfl rfl 1 (by decide) (hts _ (List.mem_cons_of_mem _ wd_17)) (fun _ h9 => h9) rfl dX7_part_36 ?_
        refine va_get (D := D) (ci := 4) (v := .ref s10) (C := RX4) (T := TX4) (N := 14) hx hb hts hiX4 hown hE.1 hP 1 rfl rfl 10 (by decide) (hts _ (List.mem_cons_of_mem _ wd_583)) (fun _ h9 => h9) rfl dX7_part_39 ?_
        refine lv_iload_n hx hb dX7_part_42 rfl (lv_at hl 2 rfl) ?_
        refine va_iald hx hb hE.1 hP 19 0 rfl rfl (vp_in_nI (n := pj) (by omega) (by decide)) dX7_part_43 ?_
        refine lv_topi (fun v35 ev35 => ?_)
        refine lv_i2f hx hb dX7_part_44 ?_
        refine lv_topf (fun y36 ey36 => ?_)
        refine lv_aload_n hx hb dX7_part_45 rfl (lv_at hl 0 rfl) ?_
        refine va_get (D := D) (ci := 7) (v := .ref x1) (C := RX7) (T := TX7) (N := 6) hx hb hts hiX7 hown hE.1 hP 0 rfl rfl 1 (by decide) (hts _ (List.mem_cons_of_mem _ wd_17)) (fun _ h9 => h9) rfl dX7_part_46 ?_
        refine va_get (D := D) (ci := 4) (v := .int z23) (C := RX4) (T := TX4) (N := 14) hx hb hts hiX4 hown hE.1 hP 1 rfl rfl 12 (by decide) (hts _ (List.mem_cons_of_mem _ wd_515)) (fun _ h9 => h9) rfl dX7_part_49 ?_
        refine lv_i2f hx hb dX7_part_52 ?_
        refine lv_topf (fun y37 ey37 => ?_)
        refine lv_fdiv_any (Drawn.sameBut.refl s.drawn lw_cs) lw_bits hx hb dX7_part_53 (fun y38 dn39 _ hdn39 => ?_)
        have hts := dr_words htsB dn39
        have hE : eK D cI cJ (s.setDrawn dn39) := hE
        have hown : (s.setDrawn dn39).vm.findClass RX7 = some m.cls := hown
        refine k_iD hdn39 (va_runS_D (As := [.float y38]) (rest := []) ⟨hx, hb, hml, hown, hts⟩ (m_X7_bitsOfFloat l D cI cJ H.size y38) (va_cwS 1 hts gX7_part_X7_bitsOfFloat rfl rfl rfl (by decide +kernel) ⟨Nat.le_of_ble_eq_true rfl, Nat.le_of_ble_eq_true rfl⟩) (k_pre hE hP hD [] (by decide +kernel) rfl) rfl rfl hl.1 rfl (lv_room (Nat.le_of_ble_eq_true rfl)) dX7_part_54 ⟨Nat.le_of_ble_eq_true rfl, Nat.le_of_ble_eq_true rfl⟩) hP hD hS hA [] [0, 1, 2, 3, 4, 5, 6, 7, 8, 9, 10, 11, 12, 13, 14, 15, 16, 17, 18, 19, 20, 21, 22, 23, 24, 25, 26, 27, 28, 29, 30] rfl (wr := [(oX7 x x0 x1 x2 x3 x4 x5), (oX4 x1 x0 s1 s2 (nI z30) z28 s5 s6 s7 s8 s9 s10 s11 z23 z24), (oX0 x0 b0 b1 b2 b3 b4 b5 b6 b7 b8 b9 b10 b11 (nI np) (nI nl) bi14), (oX6 s1 w0 w1 w2 w3 w4 (nI z29) z25 (nI z26) w8), (oX2 s2 d0 d1 d2), (aIc cI b0 8 B0), (aIc cI b1 8 B1), (aIc cI b2 8 B2), (aIc cI b3 8 B3), (aIc cI b4 8 B4), (aIc cI b6 8 B6), (aIc cI b8 64 B8), (aIc cI b10 10 B10), (aIc cI b11 10 B11), (aIc cI s5 8 z8), (aIc cI s6 8 z9), (aIc cI s7 8 z10), (aIc cI s8 8 z11), (aIc cI s9 8 z12), (aIc cI s10 8 z13), (aIc cI s11 8 z14), (aIc cI w0 8 z27), (aIc cI w1 8 z15), (aIc cI w2 8 z16), (aIc cI w3 8 z17), (aIc cI w4 8 z18), (aIc cI w8 8 z19), (aIc cI d0 8 z20), (aIc cI d1 8 z21), (aJc cJ d2 8 z22), (aIc cI b5 8 B5)]) rfl (by decide +kernel) (by decide +kernel) (fun r40 u H locs hw41 hP hD hS dn42 hdn42 => ?_)
        have hts := dr_words htsB dn42
        have hE : eK D cI cJ (s.setDrawn dn42) := hE
        have hown : (s.setDrawn dn42).vm.findClass RX7 = some m.cls := hown
        subst hw41
        refine k_re (w := [(oX7 x x0 x1 x2 x3 x4 x5), (oX4 x1 x0 s1 s2 (nI z30) z28 s5 s6 s7 s8 s9 s10 s11 z23 z24), (oX0 x0 b0 b1 b2 b3 b4 b5 b6 b7 b8 b9 b10 b11 (nI np) (nI nl) bi14), (oX6 s1 w0 w1 w2 w3 w4 (nI z29) z25 (nI z26) w8), (oX2 s2 d0 d1 d2), (aIc cI b0 8 B0), (aIc cI b1 8 B1), (aIc cI b2 8 B2), (aIc cI b3 8 B3), (aIc cI b4 8 B4), (aIc cI b6 8 B6), (aIc cI b8 64 B8), (aIc cI b10 10 B10), (aIc cI b11 10 B11), (aIc cI s5 8 z8), (aIc cI s6 8 z9), (aIc cI s7 8 z10), (aIc cI s8 8 z11), (aIc cI s9 8 z12), (aIc cI s10 8 z13), (aIc cI s11 8 z14), (aIc cI w0 8 z27), (aIc cI w1 8 z15), (aIc cI w2 8 z16), (aIc cI w3 8 z17), (aIc cI w4 8 z18), (aIc cI w8 8 z19), (aIc cI d0 8 z20), (aIc cI d1 8 z21), (aJc cJ d2 8 z22), (aIc cI b5 8 B5)]) hP hD (fun hP hD => ?_)
        refine k_iretD (u := [(oX7 x x0 x1 x2 x3 x4 x5), (oX4 x1 x0 s1 s2 (nI z30) z28 s5 s6 s7 s8 s9 s10 s11 z23 z24), (oX0 x0 b0 b1 b2 b3 b4 b5 b6 b7 b8 b9 b10 b11 (nI np) (nI nl) bi14), (oX6 s1 w0 w1 w2 w3 w4 (nI z29) z25 (nI z26) w8), (oX2 s2 d0 d1 d2), (aIc cI b0 8 B0), (aIc cI b1 8 B1), (aIc cI b2 8 B2), (aIc cI b3 8 B3), (aIc cI b4 8 B4), (aIc cI b6 8 B6), (aIc cI b8 64 B8), (aIc cI b10 10 B10), (aIc cI b11 10 B11), (aIc cI s5 8 z8), (aIc cI s6 8 z9), (aIc cI s7 8 z10), (aIc cI s8 8 z11), (aIc cI s9 8 z12), (aIc cI s10 8 z13), (aIc cI s11 8 z14), (aIc cI w0 8 z27), (aIc cI w1 8 z15), (aIc cI w2 8 z16), (aIc cI w3 8 z17), (aIc cI w4 8 z18), (aIc cI w8 8 z19), (aIc cI d0 8 z20), (aIc cI d1 8 z21), (aJc cJ d2 8 z22), (aIc cI b5 8 B5)]) hdn42 hx hb hr hlk hP hD hS dX7_part_57 ?_
        exact ⟨z8, z9, z10, z11, z12, z13, z14, z15, z16, z17, z18, z19, z20, z21, z22, z23, z24, z25, z26, z27, z28, z29, z30, (by omega), (by omega), (by first | omega | exact ev_lt hnp), rfl⟩
      · skip
        refine lv_iconst (v := (-1)) hx hb dX7_part_33 (by decide) ?_
        refine k_iretD (u := [(oX7 x x0 x1 x2 x3 x4 x5), (oX4 x1 x0 s1 s2 (nI z30) z28 s5 s6 s7 s8 s9 s10 s11 z23 z24), (oX0 x0 b0 b1 b2 b3 b4 b5 b6 b7 b8 b9 b10 b11 (nI np) (nI nl) bi14), (oX6 s1 w0 w1 w2 w3 w4 (nI z29) z25 (nI z26) w8), (oX2 s2 d0 d1 d2), (aIc cI b0 8 B0), (aIc cI b1 8 B1), (aIc cI b2 8 B2), (aIc cI b3 8 B3), (aIc cI b4 8 B4), (aIc cI b6 8 B6), (aIc cI b8 64 B8), (aIc cI b10 10 B10), (aIc cI b11 10 B11), (aIc cI s5 8 z8), (aIc cI s6 8 z9), (aIc cI s7 8 z10), (aIc cI s8 8 z11), (aIc cI s9 8 z12), (aIc cI s10 8 z13), (aIc cI s11 8 z14), (aIc cI w0 8 z27), (aIc cI w1 8 z15), (aIc cI w2 8 z16), (aIc cI w3 8 z17), (aIc cI w4 8 z18), (aIc cI w8 8 z19), (aIc cI d0 8 z20), (aIc cI d1 8 z21), (aJc cJ d2 8 z22), (aIc cI b5 8 B5)]) (Drawn.sameBut.refl s.drawn lw_cs) hx hb hr hlk hP hD hS dX7_part_34 ?_
        exact ⟨z8, z9, z10, z11, z12, z13, z14, z15, z16, z17, z18, z19, z20, z21, z22, z23, z24, z25, z26, z27, z28, z29, z30, (by omega), (by omega), (by first | omega | exact ev_lt hnp), rfl⟩
    · skip
      have hc6 : ¬ (0 ≤ p1 ∧ p1 ≤ (nI np) - 1) := bz_0 hw5 c6
      refine lv_iconst (v := (-1)) hx hb dX7_part_16 (by decide) ?_
      refine k_iretD (u := [(oX7 x x0 x1 x2 x3 x4 x5), (oX4 x1 x0 s1 s2 (nI pn) si4 s5 s6 s7 s8 s9 s10 s11 si12 si13), (oX0 x0 b0 b1 b2 b3 b4 b5 b6 b7 b8 b9 b10 b11 (nI np) (nI nl) bi14), (oX6 s1 w0 w1 w2 w3 w4 (nI wn) wi6 (nI lv) w8), (oX2 s2 d0 d1 d2), (aIc cI b0 8 B0), (aIc cI b1 8 B1), (aIc cI b2 8 B2), (aIc cI b3 8 B3), (aIc cI b4 8 B4), (aIc cI b6 8 B6), (aIc cI b8 64 B8), (aIc cI b10 10 B10), (aIc cI b11 10 B11), (aIc cI s5 8 S5), (aIc cI s6 8 S6), (aIc cI s7 8 S7), (aIc cI s8 8 S8), (aIc cI s9 8 S9), (aIc cI s10 8 S10), (aIc cI s11 8 S11), (aIc cI w0 8 W0), (aIc cI w1 8 W1), (aIc cI w2 8 W2), (aIc cI w3 8 W3), (aIc cI w4 8 W4), (aIc cI w8 8 W8), (aIc cI d0 8 D0), (aIc cI d1 8 D1), (aJc cJ d2 8 D2), (aIc cI b5 8 B5)]) (Drawn.sameBut.refl s.drawn lw_cs) hx hb hr hlk hP hD hS dX7_part_17 ?_
      exact ⟨S5, S6, S7, S8, S9, S10, S11, W1, W2, W3, W4, W8, D0, D1, D2, si12, si13, wi6, lv, W0, si4, wn, pn, (by omega), (by omega), (by first | omega | exact ev_lt hnp), rfl⟩
theorem dX7_strain_0 : decode cX7_strain 0 = .ok (.aload_n 0, 1) := by decide +kernel
theorem dX7_strain_1 : decode cX7_strain 1 = .ok (.iload_n 1, 1) := by decide +kernel
theorem dX7_strain_2 : decode cX7_strain 2 = .ok (.invokevirtual 137, 3) := by decide +kernel
theorem dX7_strain_5 : decode cX7_strain 5 = .ok (.ifCond .eq 23, 3) := by decide +kernel
theorem dX7_strain_8 : decode cX7_strain 8 = .ok (.aload_n 0, 1) := by decide +kernel
theorem dX7_strain_9 : decode cX7_strain 9 = .ok (.iload_n 2, 1) := by decide +kernel
theorem dX7_strain_10 : decode cX7_strain 10 = .ok (.invokevirtual 74, 3) := by decide +kernel
theorem dX7_strain_13 : decode cX7_strain 13 = .ok (.ifCond .eq 15, 3) := by decide +kernel
theorem dX7_strain_16 : decode cX7_strain 16 = .ok (.aload_n 0, 1) := by decide +kernel
theorem dX7_strain_17 : decode cX7_strain 17 = .ok (.getfield 20, 3) := by decide +kernel
theorem dX7_strain_20 : decode cX7_strain 20 = .ok (.getfield 59, 3) := by decide +kernel
theorem dX7_strain_23 : decode cX7_strain 23 = .ok (.iload_n 2, 1) := by decide +kernel
theorem dX7_strain_24 : decode cX7_strain 24 = .ok (.iaload, 1) := by decide +kernel
theorem dX7_strain_25 : decode cX7_strain 25 = .ok (.ifCond .ne 7, 3) := by decide +kernel
theorem dX7_strain_28 : decode cX7_strain 28 = .ok (.ldc2_w 203, 3) := by decide +kernel
theorem dX7_strain_31 : decode cX7_strain 31 = .ok (.lreturn, 1) := by decide +kernel
theorem dX7_strain_32 : decode cX7_strain 32 = .ok (.aload_n 0, 1) := by decide +kernel
theorem dX7_strain_33 : decode cX7_strain 33 = .ok (.iload_n 1, 1) := by decide +kernel
theorem dX7_strain_34 : decode cX7_strain 34 = .ok (.invokevirtual 140, 3) := by decide +kernel
theorem dX7_strain_37 : decode cX7_strain 37 = .ok (.aload_n 0, 1) := by decide +kernel
theorem dX7_strain_38 : decode cX7_strain 38 = .ok (.getfield 10, 3) := by decide +kernel
theorem dX7_strain_41 : decode cX7_strain 41 = .ok (.getfield 180, 3) := by decide +kernel
theorem dX7_strain_44 : decode cX7_strain 44 = .ok (.iload_n 2, 1) := by decide +kernel
theorem dX7_strain_45 : decode cX7_strain 45 = .ok (.iaload, 1) := by decide +kernel
theorem dX7_strain_46 : decode cX7_strain 46 = .ok (.i2d, 1) := by decide +kernel
theorem dX7_strain_47 : decode cX7_strain 47 = .ok (.aload_n 0, 1) := by decide +kernel
theorem dX7_strain_48 : decode cX7_strain 48 = .ok (.getfield 20, 3) := by decide +kernel
theorem dX7_strain_51 : decode cX7_strain 51 = .ok (.getfield 59, 3) := by decide +kernel
theorem dX7_strain_54 : decode cX7_strain 54 = .ok (.iload_n 2, 1) := by decide +kernel
theorem dX7_strain_55 : decode cX7_strain 55 = .ok (.iaload, 1) := by decide +kernel
theorem dX7_strain_56 : decode cX7_strain 56 = .ok (.i2d, 1) := by decide +kernel
theorem dX7_strain_57 : decode cX7_strain 57 = .ok (.ddiv, 1) := by decide +kernel
theorem dX7_strain_58 : decode cX7_strain 58 = .ok (.invokestatic 205, 3) := by decide +kernel
theorem dX7_strain_61 : decode cX7_strain 61 = .ok (.lreturn, 1) := by decide +kernel
theorem gX7_strain_X7_bitsOfDouble : GoodIn wtX7_strain (va_wsS RX7 205 yX7_bitsOfDouble wtX7_bitsOfDouble) := tb_good (tb_s0 wd_632 wd_633 wd_2 wd_634)
theorem gX7_strain_X7_isLoss : GoodIn wtX7_strain (wsV RX7 137 RX7 yX7_isLoss wtX7_isLoss) := tb_good (tb_v0 wd_519 wd_520 wd_521 wd_2 wd_522)
theorem gX7_strain_X7_isPolicy : GoodIn wtX7_strain (wsV RX7 74 RX7 yX7_isPolicy wtX7_isPolicy) := tb_good (tb_v0 wd_186 wd_187 wd_188 wd_2 wd_189)
theorem gX7_strain_X7_settle : GoodIn wtX7_strain (wsV RX7 140 RX7 yX7_settle wtX7_settle) := tb_good (tb_v0 wd_523 wd_524 wd_525 wd_2 wd_526)
theorem dX8_part_0 : decode cX8_part 0 = .ok (.aload_n 0, 1) := by decide +kernel
theorem dX8_part_1 : decode cX8_part 1 = .ok (.iload_n 1, 1) := by decide +kernel
theorem dX8_part_2 : decode cX8_part 2 = .ok (.iload_n 2, 1) := by decide +kernel
theorem dX8_part_3 : decode cX8_part 3 = .ok (.invokevirtual 264, 3) := by decide +kernel
theorem dX8_part_6 : decode cX8_part 6 = .ok (.ifCond .eq 10, 3) := by decide +kernel
theorem dX8_part_9 : decode cX8_part 9 = .ok (.aload_n 0, 1) := by decide +kernel
theorem dX8_part_10 : decode cX8_part 10 = .ok (.getfield 198, 3) := by decide +kernel
theorem dX8_part_13 : decode cX8_part 13 = .ok (.ifCond .ne 5, 3) := by decide +kernel
theorem dX8_part_16 : decode cX8_part 16 = .ok (.iconst (-1), 1) := by decide +kernel
theorem dX8_part_17 : decode cX8_part 17 = .ok (.ireturn, 1) := by decide +kernel
theorem dX8_part_18 : decode cX8_part 18 = .ok (.aload_n 0, 1) := by decide +kernel
theorem dX8_part_19 : decode cX8_part 19 = .ok (.getfield 76, 3) := by decide +kernel
theorem dX8_part_22 : decode cX8_part 22 = .ok (.iload_n 2, 1) := by decide +kernel
theorem dX8_part_23 : decode cX8_part 23 = .ok (.iaload, 1) := by decide +kernel
theorem dX8_part_24 : decode cX8_part 24 = .ok (.i2f, 1) := by decide +kernel
theorem dX8_part_25 : decode cX8_part 25 = .ok (.aload_n 0, 1) := by decide +kernel
theorem dX8_part_26 : decode cX8_part 26 = .ok (.getfield 198, 3) := by decide +kernel
theorem dX8_part_29 : decode cX8_part 29 = .ok (.i2f, 1) := by decide +kernel
theorem dX8_part_30 : decode cX8_part 30 = .ok (.fdiv, 1) := by decide +kernel
theorem dX8_part_31 : decode cX8_part 31 = .ok (.invokestatic 267, 3) := by decide +kernel
theorem dX8_part_34 : decode cX8_part 34 = .ok (.ireturn, 1) := by decide +kernel
theorem gX8_part_Jxf58ca_floatToIntBits_5c35a : GoodIn wtX8_part (va_wsS RX8 267 yJxf58ca_floatToIntBits_5c35a wtJxf58ca_floatToIntBits_5c35a) := tb_good (tb_s0 wd_615 wd_616 wd_617 wd_618)
theorem gX8_part_X8_isBoth : GoodIn wtX8_part (wsV RX8 264 RX8 yX8_isBoth wtX8_isBoth) := tb_good (tb_v0 wd_611 wd_612 wd_613 wd_5 wd_614)
set_option maxHeartbeats 4000000 in
set_option maxRecDepth 100000 in
theorem m_X8_part (l : Launch) (D : va_G) (cI cJ : ClassId) (sz : Nat) (g g2 g3 g4 g5 g6 g7 g8 g9 g10 g12 g13 g15 g16 g17 g19 g20 g21 g22 g23 g24 g25 g26 g27 g28 g33 g34 g35 g36 g37 g38 g39 g41 g42 g44 g45 mn ml mv tt : Nat) (gi0 gi14 gi18 gi29 gi30 gi40 gi43 p0 p1 : Int32) (G2 G3 G4 G5 G6 G7 G8 G10 G12 G13 G19 G20 G21 G22 G23 G24 G25 G26 G27 G28 G33 G34 G35 G36 : Nat → Int32) (G37 : Nat → Int64) (li0 wo0 de0 ag0 : Nat → Nat) (hmn : mn ≤ 8) (hmL : ml ≤ 10) (hit : ∀ k, k < 10 → ∃ j : Nat, j < 8 ∧ G12 k = nI j) (hsu : ∀ k, k < 64 → ∃ j : Nat, j ≤ 1000001 ∧ G10 k = nI j) (hliv : nv G2 li0) (hlib : ∀ k, k < 8 → li0 k ≤ 1000000) (hwov : nv G5 wo0) (hwob : ∀ k, k < 8 → wo0 k ≤ 9000000) (hdev : nv G4 de0) (hdeb : ∀ k, k < 8 → de0 k ≤ 99999) (hagv : nv G3 ag0) (hagb : ∀ k, k < 8 → ag0 k ≤ 9000000) (hamt : ∀ k, k < 10 → ∃ j : Nat, j < 1000001 ∧ G13 k = nI j) (hLE : LE G19) (hLO : LO G20) (hLW : LW G25) (hSH : SH G27 tt) (htt : tt ≤ 1000000) (hmv : mv ≤ 8) : MetD lw_cs l yX8_part wtX8_part { frames := 9, cells := 0, slots := 0, locals := 211 } (cPc D cI cJ [.ref g, .int p0, .int p1] sz [(oX8 g gi0 (nI mn) g2 g3 g4 g5 g6 g7 g8 g9 g10 (nI ml) g12 g13 gi14 g15 g16 g17 gi18 g19 g20 g21 g22 g23 g24 g25 g26 g27 g28 gi29 gi30 (nI mv) (nI tt) g33 g34 g35 g36 g37 g38 g39 gi40 g41 g42 gi43 g44 g45), (aIc cI g2 8 G2), (aIc cI g3 8 G3), (aIc cI g4 8 G4), (aIc cI g5 8 G5), (aIc cI g6 8 G6), (aIc cI g7 8 G7), (aIc cI g8 8 G8), (aIc cI g10 64 G10), (aIc cI g12 10 G12), (aIc cI g13 10 G13), (aIc cI g19 8 G19), (aIc cI g20 8 G20), (aIc cI g21 8 G21), (aIc cI g22 8 G22), (aIc cI g23 8 G23), (aIc cI g24 8 G24), (aIc cI g25 8 G25), (aIc cI g26 8 G26), (aIc cI g27 8 G27), (aIc cI g28 8 G28), (aIc cI g33 8 G33), (aIc cI g34 8 G34), (aIc cI g35 8 G35), (aIc cI g36 8 G36), (aJc cJ g37 8 G37)]) (cQi D (fun r u => ∃ (G19p G20p G21p G22p G23p G24p G25p G26p G27p G28p G33p G34p G35p G36p : Nat → Int32) (G37p : Nat → Int64) (gi29p gi30p gi18p : Int32) (mvp ttp : Nat) (gi0p : Int32), (LE G19p) ∧ (LO G20p) ∧ (LW G25p) ∧ (SH G27p ttp) ∧ (ttp ≤ 1000000) ∧ (mvp ≤ 8) ∧ u = [(oX8 g gi0p (nI mn) g2 g3 g4 g5 g6 g7 g8 g9 g10 (nI ml) g12 g13 gi14 g15 g16 g17 gi18p g19 g20 g21 g22 g23 g24 g25 g26 g27 g28 gi29p gi30p (nI mvp) (nI ttp) g33 g34 g35 g36 g37 g38 g39 gi40 g41 g42 gi43 g44 g45), (aIc cI g2 8 G2), (aIc cI g3 8 G3), (aIc cI g4 8 G4), (aIc cI g5 8 G5), (aIc cI g6 8 G6), (aIc cI g7 8 G7), (aIc cI g8 8 G8), (aIc cI g10 64 G10), (aIc cI g12 10 G12), (aIc cI g13 10 G13), (aIc cI g19 8 G19p), (aIc cI g20 8 G20p), (aIc cI g21 8 G21p), (aIc cI g22 8 G22p), (aIc cI g23 8 G23p), (aIc cI g24 8 G24p), (aIc cI g25 8 G25p), (aIc cI g26 8 G26p), (aIc cI g27 8 G27p), (aIc cI g28 8 G28p), (aIc cI g33 8 G33p), (aIc cI g34 8 G34p), (aIc cI g35 8 G35p), (aIc cI g36 8 G36p), (aJc cJ g37 8 G37p)]) (va_A [(oX8 g gi0 (nI mn) g2 g3 g4 g5 g6 g7 g8 g9 g10 (nI ml) g12 g13 gi14 g15 g16 g17 gi18 g19 g20 g21 g22 g23 g24 g25 g26 g27 g28 gi29 gi30 (nI mv) (nI tt) g33 g34 g35 g36 g37 g38 g39 gi40 g41 g42 gi43 g44 g45), (aIc cI g2 8 G2), (aIc cI g3 8 G3), (aIc cI g4 8 G4), (aIc cI g5 8 G5), (aIc cI g6 8 G6), (aIc cI g7 8 G7), (aIc cI g8 8 G8), (aIc cI g10 64 G10), (aIc cI g12 10 G12), (aIc cI g13 10 G13), (aIc cI g19 8 G19), (aIc cI g20 8 G20), (aIc cI g21 8 G21), (aIc cI g22 8 G22), (aIc cI g23 8 G23), (aIc cI g24 8 G24), (aIc cI g25 8 G25), (aIc cI g26 8 G26), (aIc cI g27 8 G27), (aIc cI g28 8 G28), (aIc cI g33 8 G33), (aIc cI g34 8 G34), (aIc cI g35 8 G35), (aIc cI g36 8 G36), (aJc cJ g37 8 G37)] sz)) 0 0 (va_A [(oX8 g gi0 (nI mn) g2 g3 g4 g5 g6 g7 g8 g9 g10 (nI ml) g12 g13 gi14 g15 g16 g17 gi18 g19 g20 g21 g22 g23 g24 g25 g26 g27 g28 gi29 gi30 (nI mv) (nI tt) g33 g34 g35 g36 g37 g38 g39 gi40 g41 g42 gi43 g44 g45), (aIc cI g2 8 G2), (aIc cI g3 8 G3), (aIc cI g4 8 G4), (aIc cI g5 8 G5), (aIc cI g6 8 G6), (aIc cI g7 8 G7), (aIc cI g8 8 G8), (aIc cI g10 64 G10), (aIc cI g12 10 G12), (aIc cI g13 10 G13), (aIc cI g19 8 G19), (aIc cI g20 8 G20), (aIc cI g21 8 G21), (aIc cI g22 8 G22), (aIc cI g23 8 G23), (aIc cI g24 8 G24), (aIc cI g25 8 G25), (aIc cI g26 8 G26), (aIc cI g27 8 G27), (aIc cI g28 8 G28), (aIc cI g33 8 G33), (aIc cI g34 8 G34), (aIc cI g35 8 G35), (aIc cI g36 8 G36), (aJc cJ g37 8 G37)] sz) := by
  refine k_ofWD (Qc := cQi D (fun r u => ∃ (G19p G20p G21p G22p G23p G24p G25p G26p G27p G28p G33p G34p G35p G36p : Nat → Int32) (G37p : Nat → Int64) (gi29p gi30p gi18p : Int32) (mvp ttp : Nat) (gi0p : Int32), (LE G19p) ∧ (LO G20p) ∧ (LW G25p) ∧ (SH G27p ttp) ∧ (ttp ≤ 1000000) ∧ (mvp ≤ 8) ∧ u = [(oX8 g gi0p (nI mn) g2 g3 g4 g5 g6 g7 g8 g9 g10 (nI ml) g12 g13 gi14 g15 g16 g17 gi18p g19 g20 g21 g22 g23 g24 g25 g26 g27 g28 gi29p gi30p (nI mvp) (nI ttp) g33 g34 g35 g36 g37 g38 g39 gi40 g41 g42 gi43 g44 g45), (aIc cI g2 8 G2), (aIc cI g3 8 G3), (aIc cI g4 8 G4), (aIc cI g5 8 G5), (aIc cI g6 8 G6), (aIc cI g7 8 G7), (aIc cI g8 8 G8), (aIc cI g10 64 G10), (aIc cI g12 10 G12), (aIc cI g13 10 G13), (aIc cI g19 8 G19p), (aIc cI g20 8 G20p), (aIc cI g21 8 G21p), (aIc cI g22 8 G22p), (aIc cI g23 8 G23p), (aIc cI g24 8 G24p), (aIc cI g25 8 G25p), (aIc cI g26 8 G26p), (aIc cI g27 8 G27p), (aIc cI g28 8 G28p), (aIc cI g33 8 G33p), (aIc cI g34 8 G34p), (aIc cI g35 8 G35p), (aIc cI g36 8 G36p), (aJc cJ g37 8 G37p)])) (by decide) rfl (Nat.le_of_ble_eq_true rfl) ?_
  intro p e s m below meth c A ls hx hb hr hml hts hown hlk hnm hsz hE hP hD hS hA hl
  have hown : s.vm.findClass RX8 = some m.cls := hown
  have htsB := hts
  have hts := dr_words htsB s.drawn
  have hE : eK D cI cJ (s.setDrawn s.drawn) := hE
  have hown : (s.setDrawn s.drawn).vm.findClass RX8 = some m.cls := hown
  have hiX8 : ∀ w ∈ u_ws RX8 TX8 46, w ∈ wtX8_part := fun w h => List.mem_cons_of_mem _ (iuX8 w h)
  have hl : lv_has ls 3 [(0, .ref g), (1, .int p0), (2, .int p1)] := hl
  refine lv_aload_n hx hb dX8_part_0 rfl (lv_at hl 0 rfl) ?_
  refine lv_iload_n hx hb dX8_part_1 rfl (lv_at hl 1 rfl) ?_
  refine lv_iload_n hx hb dX8_part_2 rfl (lv_at hl 2 rfl) ?_
  refine k_i (va_runV (As := [.int p0, .int p1]) (rest := []) ⟨hx, hb, hml, hown, hts⟩ (m_X8_isBoth l D cI cJ (s.heap).size g g2 g3 g4 g5 g6 g7 g8 g9 g10 g12 g13 g15 g16 g17 g19 g20 g21 g22 g23 g24 g25 g26 g27 g28 g33 g34 g35 g36 g37 g38 g39 g41 g42 g44 g45 mn ml mv tt gi0 gi14 gi18 gi29 gi30 gi40 gi43 p0 p1 G2 G3 G4 G5 G6 G7 G8 G10 G12 G13 G19 G20 G21 G22 G23 G24 G25 G26 G27 G28 G33 G34 G35 G36 G37 li0 wo0 de0 ag0 hmn hmL hit hsu hliv hlib hwov hwob hdev hdeb hagv hagb hamt hLE hLO hLW hSH htt hmv) (cwV 2 hts gX8_part_X8_isBoth rfl rfl rfl (by decide +kernel) ⟨Nat.le_of_ble_eq_true rfl, Nat.le_of_ble_eq_true rfl⟩) (k_preV hE hP hD [0, 1, 2, 3, 4, 5, 6, 7, 8, 9, 10, 11, 12, 13, 14, 15, 16, 17, 18, 19, 20, 21, 22, 23, 24, 25] (by decide +kernel) rfl 0 rfl rfl) rfl rfl hl.1 rfl (lv_room (Nat.le_of_ble_eq_true rfl)) dX8_part_3 ⟨Nat.le_of_ble_eq_true rfl, Nat.le_of_ble_eq_true rfl⟩) hP hD hS hA [0, 1, 2, 3, 4, 5, 6, 7, 8, 9, 10, 11, 12, 13, 14, 15, 16, 17, 18, 19, 20, 21, 22, 23, 24, 25] [] rfl (wr := []) rfl (by decide +kernel) (by decide +kernel) (fun r1 u H locs hw2 hP hD hS => ?_)
  obtain ⟨z3, z4, z5, z6, z7, z8, z9, z10, z11, z12, z13, z14, z15, z16, z17, z18, z19, z20, z21, z22, z23, hz24, hz25, hz26, hz27, hz28, hz29, hz30, rfl⟩ := hw2
  refine k_re (w := [(oX8 g z23 (nI mn) g2 g3 g4 g5 g6 g7 g8 g9 g10 (nI ml) g12 g13 gi14 g15 g16 g17 z20 g19 g20 g21 g22 g23 g24 g25 g26 g27 g28 z18 z19 (nI z21) (nI z22) g33 g34 g35 g36 g37 g38 g39 gi40 g41 g42 gi43 g44 g45), (aIc cI g2 8 G2), (aIc cI g3 8 G3), (aIc cI g4 8 G4), (aIc cI g5 8 G5), (aIc cI g6 8 G6), (aIc cI g7 8 G7), (aIc cI g8 8 G8), (aIc cI g10 64 G10), (aIc cI g12 10 G12), (aIc cI g13 10 G13), (aIc cI g19 8 z3), (aIc cI g20 8 z4), (aIc cI g21 8 z5), (aIc cI g22 8 z6), (aIc cI g23 8 z7), (aIc cI g24 8 z8), (aIc cI g25 8 z9), (aIc cI g26 8 z10), (aIc cI g27 8 z11), (aIc cI g28 8 z12), (aIc cI g33 8 z13), (aIc cI g34 8 z14), (aIc cI g35 8 z15), (aIc cI g36 8 z16), (aJc cJ g37 8 z17)]) hP hD (fun hP hD => ?_)
  refine lv_if_eq (tgt := 16) hx hb dX8_part_6 (by decide) (fun c31 => ?_) (fun c31 => ?_)
  · skip
    refine lv_iconst (v := (-1)) hx hb dX8_part_16 (by decide) ?_
    refine k_iretD (u := [(oX8 g z23 (nI mn) g2 g3 g4 g5 g6 g7 g8 g9 g10 (nI ml) g12 g13 gi14 g15 g16 g17 z20 g19 g20 g21 g22 g23 g24 g25 g26 g27 g28 z18 z19 (nI z21) (nI z22) g33 g34 g35 g36 g37 g38 g39 gi40 g41 g42 gi43 g44 g45), (aIc cI g2 8 G2), (aIc cI g3 8 G3), (aIc cI g4 8 G4), (aIc cI g5 8 G5), (aIc cI g6 8 G6), (aIc cI g7 8 G7), (aIc cI g8 8 G8), (aIc cI g10 64 G10), (aIc cI g12 10 G12), (aIc cI g13 10 G13), (aIc cI g19 8 z3), (aIc cI g20 8 z4), (aIc cI g21 8 z5), (aIc cI g22 8 z6), (aIc cI g23 8 z7), (aIc cI g24 8 z8), (aIc cI g25 8 z9), (aIc cI g26 8 z10), (aIc cI g27 8 z11), (aIc cI g28 8 z12), (aIc cI g33 8 z13), (aIc cI g34 8 z14), (aIc cI g35 8 z15), (aIc cI g36 8 z16), (aJc cJ g37 8 z17)]) (Drawn.sameBut.refl s.drawn lw_cs) hx hb hr hlk hP hD hS dX8_part_17 ?_
    exact ⟨z3, z4, z5, z6, z7, z8, z9, z10, z11, z12, z13, z14, z15, z16, z17, z18, z19, z20, z21, z22, z23, hz24, hz25, hz26, hz27, hz28, hz29, rfl⟩
  · skip
    obtain ⟨_, hbl, hbp⟩ := hz30.resolve_left c31
    obtain ⟨lj, hlj, elj⟩ := wi_n (by omega) hbl
    rw [elj] at hl
    obtain ⟨pj, hpj, epj⟩ := wi_n (by omega) hbp
    rw [epj] at hl
    refine lv_aload_n hx hb dX8_part_9 rfl (lv_at hl 0 rfl) ?_
    refine va_get (D := D) (ci := 8) (v := .int (nI z22)) (C := RX8) (T := TX8) (N := 46) hx hb hts hiX8 hown hE.1 hP 0 rfl rfl 32 (by decide) (hts _ (List.mem_cons_of_mem _ wd_412)) (fun _ h9 => h9) rfl dX8_part_10 ?_
    refine lv_if_ne (tgt := 18) hx hb dX8_part_13 (by decide) (fun c32 => ?_) (fun c32 => ?_)
    · skip
      have nc32 : ¬ z22 = 0 := fun q9 => c32 ((nI_eq (a := z22) (b := 0) (by omega) (by omega)).mpr q9)
      refine lv_aload_n hx hb dX8_part_18 rfl (lv_at hl 0 rfl) ?_
      refine va_get (D := D) (ci := 8) (v := .ref g27) (C := RX8) (T := TX8) (N := 46) hx hb hts hiX8 hown hE.1 hP 0 rfl rfl 27 (by decide) (hts _ (List.mem_cons_of_mem _ wd_138)) (fun _ h9 => h9) rfl dX8_part_19 ?_
      refine lv_iload_n hx hb dX8_part_22 rfl (lv_at hl 2 rfl) ?_
      refine va_iald hx hb hE.1 hP 19 0 rfl rfl (vp_in_nI (n := pj) (by omega) (by decide)) dX8_part_23 ?_
      refine lv_topi (fun v33 ev33 => ?_)
      refine lv_i2f hx hb dX8_part_24 ?_
      refine lv_topf (fun y34 ey34 => ?_)
      refine lv_aload_n hx hb dX8_part_25 rfl (lv_at hl 0 rfl) ?_
      refine va_get (D := D) (ci := 8) (v := .int (nI z22)) (C := RX8) (T := TX8) (N := 46) hx hb hts hiX8 hown hE.1 hP 0 rfl rfl 32 (by decide) (hts _ (List.mem_cons_of_mem _ wd_412)) (fun _ h9 => h9) rfl dX8_part_26 ?_
      refine lv_i2f hx hb dX8_part_29 ?_
      refine lv_topf (fun y35 ey35 => ?_)
      refine lv_fdiv_any (Drawn.sameBut.refl s.drawn lw_cs) lw_bits hx hb dX8_part_30 (fun y36 dn37 _ hdn37 => ?_)
      have hts := dr_words htsB dn37
      have hE : eK D cI cJ (s.setDrawn dn37) := hE
      have hown : (s.setDrawn dn37).vm.findClass RX8 = some m.cls := hown
      refine k_iS (va_runS (As := [.float y36]) (rest := []) ⟨hx, hb, hml, hown, hts⟩ (m_J_fbits l D cI cJ H.size y36) (va_cwS 1 hts gX8_part_Jxf58ca_floatToIntBits_5c35a rfl rfl rfl (by decide +kernel) ⟨Nat.le_of_ble_eq_true rfl, Nat.le_of_ble_eq_true rfl⟩) (k_pre hE hP hD [] (by decide +kernel) rfl) rfl rfl hl.1 rfl (lv_room (Nat.le_of_ble_eq_true rfl)) dX8_part_31 ⟨Nat.le_of_ble_eq_true rfl, Nat.le_of_ble_eq_true rfl⟩) hP hD hS hA [] rfl (fun _ _ h9 => h9) (fun r38 H locs hw39 hP hD hS => ?_)
      refine k_iretD (u := [(oX8 g z23 (nI mn) g2 g3 g4 g5 g6 g7 g8 g9 g10 (nI ml) g12 g13 gi14 g15 g16 g17 z20 g19 g20 g21 g22 g23 g24 g25 g26 g27 g28 z18 z19 (nI z21) (nI z22) g33 g34 g35 g36 g37 g38 g39 gi40 g41 g42 gi43 g44 g45), (aIc cI g2 8 G2), (aIc cI g3 8 G3), (aIc cI g4 8 G4), (aIc cI g5 8 G5), (aIc cI g6 8 G6), (aIc cI g7 8 G7), (aIc cI g8 8 G8), (aIc cI g10 64 G10), (aIc cI g12 10 G12), (aIc cI g13 10 G13), (aIc cI g19 8 z3), (aIc cI g20 8 z4), (aIc cI g21 8 z5), (aIc cI g22 8 z6), (aIc cI g23 8 z7), (aIc cI g24 8 z8), (aIc cI g25 8 z9), (aIc cI g26 8 z10), (aIc cI g27 8 z11), (aIc cI g28 8 z12), (aIc cI g33 8 z13), (aIc cI g34 8 z14), (aIc cI g35 8 z15), (aIc cI g36 8 z16), (aJc cJ g37 8 z17)]) hdn37 hx hb hr hlk hP hD hS dX8_part_34 ?_
      exact ⟨z3, z4, z5, z6, z7, z8, z9, z10, z11, z12, z13, z14, z15, z16, z17, z18, z19, z20, z21, z22, z23, hz24, hz25, hz26, hz27, hz28, hz29, rfl⟩
    · skip
      have nc32 : z22 = 0 := (nI_eq (a := z22) (b := 0) (by omega) (by omega)).mp c32
      refine lv_iconst (v := (-1)) hx hb dX8_part_16 (by decide) ?_
      refine k_iretD (u := [(oX8 g z23 (nI mn) g2 g3 g4 g5 g6 g7 g8 g9 g10 (nI ml) g12 g13 gi14 g15 g16 g17 z20 g19 g20 g21 g22 g23 g24 g25 g26 g27 g28 z18 z19 (nI z21) (nI z22) g33 g34 g35 g36 g37 g38 g39 gi40 g41 g42 gi43 g44 g45), (aIc cI g2 8 G2), (aIc cI g3 8 G3), (aIc cI g4 8 G4), (aIc cI g5 8 G5), (aIc cI g6 8 G6), (aIc cI g7 8 G7), (aIc cI g8 8 G8), (aIc cI g10 64 G10), (aIc cI g12 10 G12), (aIc cI g13 10 G13), (aIc cI g19 8 z3), (aIc cI g20 8 z4), (aIc cI g21 8 z5), (aIc cI g22 8 z6), (aIc cI g23 8 z7), (aIc cI g24 8 z8), (aIc cI g25 8 z9), (aIc cI g26 8 z10), (aIc cI g27 8 z11), (aIc cI g28 8 z12), (aIc cI g33 8 z13), (aIc cI g34 8 z14), (aIc cI g35 8 z15), (aIc cI g36 8 z16), (aJc cJ g37 8 z17)]) (Drawn.sameBut.refl s.drawn lw_cs) hx hb hr hlk hP hD hS dX8_part_17 ?_
      exact ⟨z3, z4, z5, z6, z7, z8, z9, z10, z11, z12, z13, z14, z15, z16, z17, z18, z19, z20, z21, z22, z23, hz24, hz25, hz26, hz27, hz28, hz29, rfl⟩
theorem dX8_strain_0 : decode cX8_strain 0 = .ok (.aload_n 0, 1) := by decide +kernel
theorem dX8_strain_1 : decode cX8_strain 1 = .ok (.iload_n 1, 1) := by decide +kernel
theorem dX8_strain_2 : decode cX8_strain 2 = .ok (.iload_n 2, 1) := by decide +kernel
theorem dX8_strain_3 : decode cX8_strain 3 = .ok (.invokevirtual 264, 3) := by decide +kernel
theorem dX8_strain_6 : decode cX8_strain 6 = .ok (.ifCond .ne 7, 3) := by decide +kernel
theorem dX8_strain_9 : decode cX8_strain 9 = .ok (.ldc2_w 149, 3) := by decide +kernel
theorem dX8_strain_12 : decode cX8_strain 12 = .ok (.lreturn, 1) := by decide +kernel
theorem dX8_strain_13 : decode cX8_strain 13 = .ok (.aload_n 0, 1) := by decide +kernel
theorem dX8_strain_14 : decode cX8_strain 14 = .ok (.getfield 76, 3) := by decide +kernel
theorem dX8_strain_17 : decode cX8_strain 17 = .ok (.iload_n 2, 1) := by decide +kernel
theorem dX8_strain_18 : decode cX8_strain 18 = .ok (.iaload, 1) := by decide +kernel
theorem dX8_strain_19 : decode cX8_strain 19 = .ok (.i2d, 1) := by decide +kernel
theorem dX8_strain_20 : decode cX8_strain 20 = .ok (.aload_n 0, 1) := by decide +kernel
theorem dX8_strain_21 : decode cX8_strain 21 = .ok (.getfield 7, 3) := by decide +kernel
theorem dX8_strain_24 : decode cX8_strain 24 = .ok (.iload_n 2, 1) := by decide +kernel
theorem dX8_strain_25 : decode cX8_strain 25 = .ok (.iaload, 1) := by decide +kernel
theorem dX8_strain_26 : decode cX8_strain 26 = .ok (.i2d, 1) := by decide +kernel
theorem dX8_strain_27 : decode cX8_strain 27 = .ok (.ddiv, 1) := by decide +kernel
theorem dX8_strain_28 : decode cX8_strain 28 = .ok (.invokestatic 273, 3) := by decide +kernel
theorem dX8_strain_31 : decode cX8_strain 31 = .ok (.lreturn, 1) := by decide +kernel
theorem gX8_strain_Jxe99ae_doubleToLongBits_ccdee : GoodIn wtX8_strain (va_wsS RX8 273 yJxe99ae_doubleToLongBits_ccdee wtJxe99ae_doubleToLongBits_ccdee) := tb_good (tb_s0 wd_643 wd_644 wd_645 wd_646)
theorem gX8_strain_X8_isBoth : GoodIn wtX8_strain (wsV RX8 264 RX8 yX8_isBoth wtX8_isBoth) := tb_good (tb_v0 wd_611 wd_612 wd_613 wd_5 wd_614)
