theorem anb_tab : ∀ n : Fin 9, ∀ i : Fin 8, (nI (2 ^ n.val - 1) &&& (((1 : Int32) <<< (nI i.val &&& 31)) ^^^ (-1))) = nI ((2 ^ n.val - 1) - ((2 ^ n.val - 1) &&& 2 ^ i.val)) ∧ (2 ^ n.val - 1) - ((2 ^ n.val - 1) &&& 2 ^ i.val) < 256 := by decide +kernel
theorem anb {n i : Nat} {v w x : Int32} (hn : n ≤ 8) (hi : i < 8) (ev : v = 1 <<< (nI i &&& 31)) (ew : w = v ^^^ (-1)) (ex : x = nI (2 ^ n - 1) &&& w) : ∃ k : Nat, k < 256 ∧ x = nI k := by
  have h := anb_tab ⟨n, by omega⟩ ⟨i, hi⟩
  exact ⟨_, h.2, by rw [ex, ew, ev]; exact h.1⟩
theorem dX7_without_0 : decode cX7_without 0 = .ok (.aload_n 0, 1) := by decide +kernel
theorem dX7_without_1 : decode cX7_without 1 = .ok (.iload_n 1, 1) := by decide +kernel
theorem dX7_without_2 : decode cX7_without 2 = .ok (.invokevirtual 137, 3) := by decide +kernel
theorem dX7_without_5 : decode cX7_without 5 = .ok (.ifCond .eq 11, 3) := by decide +kernel
theorem dX7_without_8 : decode cX7_without 8 = .ok (.aload_n 0, 1) := by decide +kernel
theorem dX7_without_9 : decode cX7_without 9 = .ok (.iload_n 2, 1) := by decide +kernel
theorem dX7_without_10 : decode cX7_without 10 = .ok (.invokevirtual 74, 3) := by decide +kernel
theorem dX7_without_13 : decode cX7_without 13 = .ok (.ifCond .ne 5, 3) := by decide +kernel
theorem dX7_without_16 : decode cX7_without 16 = .ok (.iconst (-1), 1) := by decide +kernel
theorem dX7_without_17 : decode cX7_without 17 = .ok (.ireturn, 1) := by decide +kernel
theorem dX7_without_18 : decode cX7_without 18 = .ok (.aload_n 0, 1) := by decide +kernel
theorem dX7_without_19 : decode cX7_without 19 = .ok (.iload_n 1, 1) := by decide +kernel
theorem dX7_without_20 : decode cX7_without 20 = .ok (.aload_n 0, 1) := by decide +kernel
theorem dX7_without_21 : decode cX7_without 21 = .ok (.getfield 20, 3) := by decide +kernel
theorem dX7_without_24 : decode cX7_without 24 = .ok (.invokevirtual 280, 3) := by decide +kernel
theorem dX7_without_27 : decode cX7_without 27 = .ok (.iconst 1, 1) := by decide +kernel
theorem dX7_without_28 : decode cX7_without 28 = .ok (.iload_n 2, 1) := by decide +kernel
theorem dX7_without_29 : decode cX7_without 29 = .ok (.ishl, 1) := by decide +kernel
theorem dX7_without_30 : decode cX7_without 30 = .ok (.iconst (-1), 1) := by decide +kernel
theorem dX7_without_31 : decode cX7_without 31 = .ok (.ixor, 1) := by decide +kernel
theorem dX7_without_32 : decode cX7_without 32 = .ok (.iand, 1) := by decide +kernel
theorem dX7_without_33 : decode cX7_without 33 = .ok (.invokevirtual 283, 3) := by decide +kernel
theorem dX7_without_36 : decode cX7_without 36 = .ok (.ireturn, 1) := by decide +kernel
theorem gX7_without_X0_everyone : GoodIn wtX7_without (wsV RX7 280 RX0 yX0_everyone wtX0_everyone) := tb_good (tb_v0 wd_809 wd_293 wd_294 wd_39 wd_295)
theorem gX7_without_X7_isLoss : GoodIn wtX7_without (wsV RX7 137 RX7 yX7_isLoss wtX7_isLoss) := tb_good (tb_v0 wd_519 wd_520 wd_521 wd_2 wd_522)
theorem gX7_without_X7_isPolicy : GoodIn wtX7_without (wsV RX7 74 RX7 yX7_isPolicy wtX7_isPolicy) := tb_good (tb_v0 wd_186 wd_187 wd_188 wd_2 wd_189)
theorem gX7_without_X7_totalOfSet : GoodIn wtX7_without (wsV RX7 283 RX7 yX7_totalOfSet wtX7_totalOfSet) := tb_good (tb_v0 wd_823 wd_824 wd_825 wd_2 wd_826)
set_option maxHeartbeats 4000000 in
set_option maxRecDepth 100000 in
theorem m_X7_without (l : Launch) (D : va_G) (cI cJ : ClassId) (sz : Nat) (x x0 x1 x2 x3 x4 x5 s1 s2 s5 s6 s7 s8 s9 s10 s11 b0 b1 b2 b3 b4 b5 b6 b7 b8 b9 b10 b11 w0 w1 w2 w3 w4 w8 d0 d1 d2 wn lv np nl pn : Nat) (si4 si12 si13 bi14 wi6 p0 p1 : Int32) (B0 B1 B2 B3 B4 B6 B8 B10 B11 S5 S6 S7 S8 S9 S10 S11 W0 W1 W2 W3 W4 W8 D0 D1 : Nat → Int32) (D2 : Nat → Int64) (B5 : Nat → Int32) (hwn : wn < 256) (hlv : lv ≤ 8) (hli : ∀ k, k < 10 → ∃ j : Nat, j < 8 ∧ B10 k = nI j) (hnp : np ≤ 8) (hnl : nl ≤ 10) (hpn : pn < 256) : Met l yX7_without wtX7_without { frames := 6, cells := 0, slots := 0, locals := 147 } (cPc D cI cJ [.ref x, .int p0, .int p1] sz [(oX7 x x0 x1 x2 x3 x4 x5), (oX4 x1 x0 s1 s2 (nI pn) si4 s5 s6 s7 s8 s9 s10 s11 si12 si13), (oX0 x0 b0 b1 b2 b3 b4 b5 b6 b7 b8 b9 b10 b11 (nI np) (nI nl) bi14), (oX6 s1 w0 w1 w2 w3 w4 (nI wn) wi6 (nI lv) w8), (oX2 s2 d0 d1 d2), (aIc cI b0 8 B0), (aIc cI b1 8 B1), (aIc cI b2 8 B2), (aIc cI b3 8 B3), (aIc cI b4 8 B4), (aIc cI b6 8 B6), (aIc cI b8 64 B8), (aIc cI b10 10 B10), (aIc cI b11 10 B11), (aIc cI s5 8 S5), (aIc cI s6 8 S6), (aIc cI s7 8 S7), (aIc cI s8 8 S8), (aIc cI s9 8 S9), (aIc cI s10 8 S10), (aIc cI s11 8 S11), (aIc cI w0 8 W0), (aIc cI w1 8 W1), (aIc cI w2 8 W2), (aIc cI w3 8 W3), (aIc cI w4 8 W4), (aIc cI w8 8 W8), (aIc cI d0 8 D0), (aIc cI d1 8 D1), (aJc cJ d2 8 D2), (aIc cI b5 8 B5)]) (cQi D (fun r u => ∃ (S5p S6p S7p S8p S9p S10p S11p W1p W2p W3p W4p W8p D0p D1p : Nat → Int32) (D2p : Nat → Int64) (si12p si13p wi6p : Int32) (lvp : Nat) (W0p : Nat → Int32) (si4p : Int32) (wnp pnp : Nat), (lvp ≤ 8) ∧ (wnp < 256) ∧ (pnp < 256) ∧ u = [(oX7 x x0 x1 x2 x3 x4 x5), (oX4 x1 x0 s1 s2 (nI pnp) si4p s5 s6 s7 s8 s9 s10 s11 si12p si13p), (oX0 x0 b0 b1 b2 b3 b4 b5 b6 b7 b8 b9 b10 b11 (nI np) (nI nl) bi14), (oX6 s1 w0 w1 w2 w3 w4 (nI wnp) wi6p (nI lvp) w8), (oX2 s2 d0 d1 d2), (aIc cI b0 8 B0), (aIc cI b1 8 B1), (aIc cI b2 8 B2), (aIc cI b3 8 B3), (aIc cI b4 8 B4), (aIc cI b6 8 B6), (aIc cI b8 64 B8), (aIc cI b10 10 B10), (aIc cI b11 10 B11), (aIc cI s5 8 S5p), (aIc cI s6 8 S6p), (aIc cI s7 8 S7p), (aIc cI s8 8 S8p), (aIc cI s9 8 S9p), (aIc cI s10 8 S10p), (aIc cI s11 8 S11p), (aIc cI w0 8 W0p), (aIc cI w1 8 W1p), (aIc cI w2 8 W2p), (aIc cI w3 8 W3p), (aIc cI w4 8 W4p), (aIc cI w8 8 W8p), (aIc cI d0 8 D0p), (aIc cI d1 8 D1p), (aJc cJ d2 8 D2p), (aIc cI b5 8 B5)]) (va_A [(oX7 x x0 x1 x2 x3 x4 x5), (oX4 x1 x0 s1 s2 (nI pn) si4 s5 s6 s7 s8 s9 s10 s11 si12 si13), (oX0 x0 b0 b1 b2 b3 b4 b5 b6 b7 b8 b9 b10 b11 (nI np) (nI nl) bi14), (oX6 s1 w0 w1 w2 w3 w4 (nI wn) wi6 (nI lv) w8), (oX2 s2 d0 d1 d2), (aIc cI b0 8 B0), (aIc cI b1 8 B1), (aIc cI b2 8 B2), (aIc cI b3 8 B3), (aIc cI b4 8 B4), (aIc cI b6 8 B6), (aIc cI b8 64 B8), (aIc cI b10 10 B10), (aIc cI b11 10 B11), (aIc cI s5 8 S5), (aIc cI s6 8 S6), (aIc cI s7 8 S7), (aIc cI s8 8 S8), (aIc cI s9 8 S9), (aIc cI s10 8 S10), (aIc cI s11 8 S11), (aIc cI w0 8 W0), (aIc cI w1 8 W1), (aIc cI w2 8 W2), (aIc cI w3 8 W3), (aIc cI w4 8 W4), (aIc cI w8 8 W8), (aIc cI d0 8 D0), (aIc cI d1 8 D1), (aJc cJ d2 8 D2), (aIc cI b5 8 B5)] sz)) 0 0 (va_A [(oX7 x x0 x1 x2 x3 x4 x5), (oX4 x1 x0 s1 s2 (nI pn) si4 s5 s6 s7 s8 s9 s10 s11 si12 si13), (oX0 x0 b0 b1 b2 b3 b4 b5 b6 b7 b8 b9 b10 b11 (nI np) (nI nl) bi14), (oX6 s1 w0 w1 w2 w3 w4 (nI wn) wi6 (nI lv) w8), (oX2 s2 d0 d1 d2), (aIc cI b0 8 B0), (aIc cI b1 8 B1), (aIc cI b2 8 B2), (aIc cI b3 8 B3), (aIc cI b4 8 B4), (aIc cI b6 8 B6), (aIc cI b8 64 B8), (aIc cI b10 10 B10), (aIc cI b11 10 B11), (aIc cI s5 8 S5), (aIc cI s6 8 S6), (aIc cI s7 8 S7), (aIc cI s8 8 S8), (aIc cI s9 8 S9), (aIc cI s10 8 S10), (aIc cI s11 8 S11), (aIc cI w0 8 W0), (aIc cI w1 8 W1), (aIc cI w2 8 W2), (aIc cI w3 8 W3), (aIc cI w4 8 W4), (aIc cI w8 8 W8), (aIc cI d0 8 D0), (aIc cI d1 8 D1), (aJc cJ d2 8 D2), (aIc cI b5 8 B5)] sz) := by
  refine k_ofW (Qc := cQi D (fun r u => ∃ (S5p S6p S7p S8p S9p S10p S11p W1p W2p W3p W4p W8p D0p D1p : Nat → Int32) (D2p : Nat → Int64) (si12p si13p wi6p : Int32) (lvp : Nat) (W0p : Nat → Int32) (si4p : Int32) (wnp pnp : Nat), (lvp ≤ 8) ∧ (wnp < 256) ∧ (pnp < 256) ∧ u = [(oX7 x x0 x1 x2 x3 x4 x5), (oX4 x1 x0 s1 s2 (nI pnp) si4p s5 s6 s7 s8 s9 s10 s11 si12p si13p), (oX0 x0 b0 b1 b2 b3 b4 b5 b6 b7 b8 b9 b10 b11 (nI np) (nI nl) bi14), (oX6 s1 w0 w1 w2 w3 w4 (nI wnp) wi6p (nI lvp) w8), (oX2 s2 d0 d1 d2), (aIc cI b0 8 B0), (aIc cI b1 8 B1), (aIc cI b2 8 B2), (aIc cI b3 8 B3), (aIc cI b4 8 B4), (aIc cI b6 8 B6), (aIc cI b8 64 B8), (aIc cI b10 10 B10), (aIc cI b11 10 B11), (aIc cI s5 8 S5p), (aIc cI s6 8 S6p), (aIc cI s7 8 S7p), (aIc cI s8 8 S8p), (aIc cI s9 8 S9p), (aIc cI s10 8 S10p), (aIc cI s11 8 S11p), (aIc cI w0 8 W0p), (aIc cI w1 8 W1p), (aIc cI w2 8 W2p), (aIc cI w3 8 W3p), (aIc cI w4 8 W4p), (aIc cI w8 8 W8p), (aIc cI d0 8 D0p), (aIc cI d1 8 D1p), (aJc cJ d2 8 D2p), (aIc cI b5 8 B5)])) (by decide) rfl (Nat.le_of_ble_eq_true rfl) ?_
  intro p e s m below meth c A ls hx hb hr hml hts hown hlk hnm hsz hE hP hD hS hA hl
  have hown : s.vm.findClass RX7 = some m.cls := hown
  have hiX7 : ∀ w ∈ u_ws RX7 TX7 6, w ∈ wtX7_without := fun w h => List.mem_cons_of_mem _ (iuX7 w h)
  have hl : lv_has ls 3 [(0, .ref x), (1, .int p0), (2, .int p1)] := hl
  refine lv_aload_n hx hb dX7_without_0 rfl (lv_at hl 0 rfl) ?_
  refine lv_iload_n hx hb dX7_without_1 rfl (lv_at hl 1 rfl) ?_
  refine k_iS (va_runV (As := [.int p0]) (rest := []) ⟨hx, hb, hml, hown, hts⟩ (m_X7_isLoss l D cI cJ (s.heap).size x x0 x1 x2 x3 x4 x5 b0 b1 b2 b3 b4 b5 b6 b7 b8 b9 b10 b11 (nI np) (nI nl) bi14 p0) (cwV 1 hts gX7_without_X7_isLoss rfl rfl rfl (by decide +kernel) ⟨Nat.le_of_ble_eq_true rfl, Nat.le_of_ble_eq_true rfl⟩) (k_preV hE hP hD [0, 2] (by decide +kernel) rfl 0 rfl rfl) rfl rfl hl.1 rfl (lv_room (Nat.le_of_ble_eq_true rfl)) dX7_without_2 ⟨Nat.le_of_ble_eq_true rfl, Nat.le_of_ble_eq_true rfl⟩) hP hD hS hA [0, 2] rfl (fun _ _ h9 => h9.2) (fun r1 H locs hw2 hP hD hS => ?_)
  obtain ⟨hw2, -⟩ := hw2
  refine lv_if_eq (tgt := 16) hx hb dX7_without_5 (by decide) (fun c3 => ?_) (fun c3 => ?_)
  · skip
    have hc3 : ¬ (0 ≤ p0 ∧ p0 ≤ (nI nl) - 1) := bz_0 hw2 c3
    refine lv_iconst (v := (-1)) hx hb dX7_without_16 (by decide) ?_
    refine k_iret (u := [(oX7 x x0 x1 x2 x3 x4 x5), (oX4 x1 x0 s1 s2 (nI pn) si4 s5 s6 s7 s8 s9 s10 s11 si12 si13), (oX0 x0 b0 b1 b2 b3 b4 b5 b6 b7 b8 b9 b10 b11 (nI np) (nI nl) bi14), (oX6 s1 w0 w1 w2 w3 w4 (nI wn) wi6 (nI lv) w8), (oX2 s2 d0 d1 d2), (aIc cI b0 8 B0), (aIc cI b1 8 B1), (aIc cI b2 8 B2), (aIc cI b3 8 B3), (aIc cI b4 8 B4), (aIc cI b6 8 B6), (aIc cI b8 64 B8), (aIc cI b10 10 B10), (aIc cI b11 10 B11), (aIc cI s5 8 S5), (aIc cI s6 8 S6), (aIc cI s7 8 S7), (aIc cI s8 8 S8), (aIc cI s9 8 S9), (aIc cI s10 8 S10), (aIc cI s11 8 S11), (aIc cI w0 8 W0), (aIc cI w1 8 W1), (aIc cI w2 8 W2), (aIc cI w3 8 W3), (aIc cI w4 8 W4), (aIc cI w8 8 W8), (aIc cI d0 8 D0), (aIc cI d1 8 D1), (aJc cJ d2 8 D2), (aIc cI b5 8 B5)]) hx hb hr hlk hP hD hS dX7_without_17 ?_
    exact ⟨S5, S6, S7, S8, S9, S10, S11, W1, W2, W3, W4, W8, D0, D1, D2, si12, si13, wi6, lv, W0, si4, wn, pn, (by omega), (by omega), (by first | omega | exact ev_lt hnp), rfl⟩
  · skip
    have hc3 : 0 ≤ p0 ∧ p0 ≤ (nI nl) - 1 := bz_1 hw2 c3
    refine lv_aload_n hx hb dX7_without_8 rfl (lv_at hl 0 rfl) ?_
    refine lv_iload_n hx hb dX7_without_9 rfl (lv_at hl 2 rfl) ?_
    refine k_iS (va_runV (As := [.int p1]) (rest := []) ⟨hx, hb, hml, hown, hts⟩ (m_X7_isPolicy l D cI cJ H.size x x0 x1 x2 x3 x4 x5 b0 b1 b2 b3 b4 b5 b6 b7 b8 b9 b10 b11 (nI np) (nI nl) bi14 p1) (cwV 1 hts gX7_without_X7_isPolicy rfl rfl rfl (by decide +kernel) ⟨Nat.le_of_ble_eq_true rfl, Nat.le_of_ble_eq_true rfl⟩) (k_preV hE hP hD [0, 2] (by decide +kernel) rfl 0 rfl rfl) rfl rfl hl.1 rfl (lv_room (Nat.le_of_ble_eq_true rfl)) dX7_without_10 ⟨Nat.le_of_ble_eq_true rfl, Nat.le_of_ble_eq_true rfl⟩) hP hD hS hA [0, 2] rfl (fun _ _ h9 => h9.2) (fun r4 H locs hw5 hP hD hS => ?_)
    obtain ⟨hw5, -⟩ := hw5
    refine lv_if_ne (tgt := 18) hx hb dX7_without_13 (by decide) (fun c6 => ?_) (fun c6 => ?_)
    · skip
      have hc6 : 0 ≤ p1 ∧ p1 ≤ (nI np) - 1 := bz_1 hw5 c6
      obtain ⟨lj, hlj, elj⟩ := wi_n (by omega) hc3
      rw [elj] at hl
      obtain ⟨pj, hpj, epj⟩ := wi_n (by omega) hc6
      rw [epj] at hl
      refine lv_aload_n hx hb dX7_without_18 rfl (lv_at hl 0 rfl) ?_
      refine lv_iload_n hx hb dX7_without_19 rfl (lv_at hl 1 rfl) ?_
      refine lv_aload_n hx hb dX7_without_20 rfl (lv_at hl 0 rfl) ?_
      refine va_get (D := D) (ci := 7) (v := .ref x0) (C := RX7) (T := TX7) (N := 6) hx hb hts hiX7 hown hE.1 hP 0 rfl rfl 0 (by decide) (hts _ (List.mem_cons_of_mem _ wd_19)) (fun _ h9 => h9) rfl dX7_without_21 ?_
      refine k_iS (va_runV (As := []) (rest := [.int (nI lj), .ref x]) ⟨hx, hb, hml, hown, hts⟩ (m_X0_everyone l D cI cJ H.size x0 b0 b1 b2 b3 b4 b5 b6 b7 b8 b9 b10 b11 np nl bi14 (by omega)) (cwV 0 hts gX7_without_X0_everyone rfl rfl rfl (by decide +kernel) ⟨Nat.le_of_ble_eq_true rfl, Nat.le_of_ble_eq_true rfl⟩) (k_preV hE hP hD [2] (by decide +kernel) rfl 2 rfl rfl) rfl rfl hl.1 rfl (lv_room (Nat.le_of_ble_eq_true rfl)) dX7_without_24 ⟨Nat.le_of_ble_eq_true rfl, Nat.le_of_ble_eq_true rfl⟩) hP hD hS hA [2] rfl (fun _ _ ⟨_, h9⟩ => h9) (fun r7 H locs hw8 hP hD hS => ?_)
      obtain ⟨rfl, -⟩ := hw8
      refine lv_iconst (v := 1) hx hb dX7_without_27 (by decide) ?_
      refine lv_iload_n hx hb dX7_without_28 rfl (lv_at hl 2 rfl) ?_
      refine lv_ishl hx hb dX7_without_29 ?_
      refine lv_topi (fun v9 ev9 => ?_)
      refine lv_iconst (v := (-1)) hx hb dX7_without_30 (by decide) ?_
      refine lv_ixor hx hb dX7_without_31 ?_
      refine lv_topi (fun v10 ev10 => ?_)
      refine lv_iand hx hb dX7_without_32 ?_
      refine lv_topi (fun v11 ev11 => ?_)
      obtain ⟨n12, hn12, rfl⟩ := anb hnp (by omega) ev9 ev10 ev11
      refine k_i (va_runV (As := [.int (nI lj), .int (nI n12)]) (rest := []) ⟨hx, hb, hml, hown, hts⟩ (m_X7_totalOfSet l D cI cJ H.size x x0 x1 x2 x3 x4 x5 s1 s2 s5 s6 s7 s8 s9 s10 s11 b0 b1 b2 b3 b4 b5 b6 b7 b8 b9 b10 b11 w0 w1 w2 w3 w4 w8 d0 d1 d2 n12 wn lv np nl pn si4 si12 si13 bi14 wi6 (nI lj) B0 B1 B2 B3 B4 B6 B8 B10 B11 S5 S6 S7 S8 S9 S10 S11 W0 W1 W2 W3 W4 W8 D0 D1 D2 B5 (by omega) (by omega) (by omega) (by omega) (by omega) (by omega) (by omega)) (cwV 2 hts gX7_without_X7_totalOfSet rfl rfl rfl (by decide +kernel) ⟨Nat.le_of_ble_eq_true rfl, Nat.le_of_ble_eq_true rfl⟩) (k_preV hE hP hD [0, 1, 2, 3, 4, 5, 6, 7, 8, 9, 10, 11, 12, 13, 14, 15, 16, 17, 18, 19, 20, 21, 22, 23, 24, 25, 26, 27, 28, 29, 30] (by decide +kernel) rfl 0 rfl rfl) rfl rfl hl.1 rfl (lv_room (Nat.le_of_ble_eq_true rfl)) dX7_without_33 ⟨Nat.le_of_ble_eq_true rfl, Nat.le_of_ble_eq_true rfl⟩) hP hD hS hA [0, 1, 2, 3, 4, 5, 6, 7, 8, 9, 10, 11, 12, 13, 14, 15, 16, 17, 18, 19, 20, 21, 22, 23, 24, 25, 26, 27, 28, 29, 30] [] rfl (wr := []) rfl (by decide +kernel) (by decide +kernel) (fun r13 u H locs hw14 hP hD hS => ?_)
      obtain ⟨z15, z16, z17, z18, z19, z20, z21, z22, z23, z24, z25, z26, z27, z28, z29, z30, z31, z32, z33, z34, z35, z36, z37, hz38, hz39, hz40, rfl⟩ := hw14
      refine k_re (w := [(oX7 x x0 x1 x2 x3 x4 x5), (oX4 x1 x0 s1 s2 (nI z37) z35 s5 s6 s7 s8 s9 s10 s11 z30 z31), (oX0 x0 b0 b1 b2 b3 b4 b5 b6 b7 b8 b9 b10 b11 (nI np) (nI nl) bi14), (oX6 s1 w0 w1 w2 w3 w4 (nI z36) z32 (nI z33) w8), (oX2 s2 d0 d1 d2), (aIc cI b0 8 B0), (aIc cI b1 8 B1), (aIc cI b2 8 B2), (aIc cI b3 8 B3), (aIc cI b4 8 B4), (aIc cI b6 8 B6), (aIc cI b8 64 B8), (aIc cI b10 10 B10), (aIc cI b11 10 B11), (aIc cI s5 8 z15), (aIc cI s6 8 z16), (aIc cI s7 8 z17), (aIc cI s8 8 z18), (aIc cI s9 8 z19), (aIc cI s10 8 z20), (aIc cI s11 8 z21), (aIc cI w0 8 z34), (aIc cI w1 8 z22), (aIc cI w2 8 z23), (aIc cI w3 8 z24), (aIc cI w4 8 z25), (aIc cI w8 8 z26), (aIc cI d0 8 z27), (aIc cI d1 8 z28), (aJc cJ d2 8 z29), (aIc cI b5 8 B5)]) hP hD (fun hP hD => ?_)
      refine k_iret (u := [(oX7 x x0 x1 x2 x3 x4 x5), (oX4 x1 x0 s1 s2 (nI z37) z35 s5 s6 s7 s8 s9 s10 s11 z30 z31), (oX0 x0 b0 b1 b2 b3 b4 b5 b6 b7 b8 b9 b10 b11 (nI np) (nI nl) bi14), (oX6 s1 w0 w1 w2 w3 w4 (nI z36) z32 (nI z33) w8), (oX2 s2 d0 d1 d2), (aIc cI b0 8 B0), (aIc cI b1 8 B1), (aIc cI b2 8 B2), (aIc cI b3 8 B3), (aIc cI b4 8 B4), (aIc cI b6 8 B6), (aIc cI b8 64 B8), (aIc cI b10 10 B10), (aIc cI b11 10 B11), (aIc cI s5 8 z15), (aIc cI s6 8 z16), (aIc cI s7 8 z17), (aIc cI s8 8 z18), (aIc cI s9 8 z19), (aIc cI s10 8 z20), (aIc cI s11 8 z21), (aIc cI w0 8 z34), (aIc cI w1 8 z22), (aIc cI w2 8 z23), (aIc cI w3 8 z24), (aIc cI w4 8 z25), (aIc cI w8 8 z26), (aIc cI d0 8 z27), (aIc cI d1 8 z28), (aJc cJ d2 8 z29), (aIc cI b5 8 B5)]) hx hb hr hlk hP hD hS dX7_without_36 ?_
      exact ⟨z15, z16, z17, z18, z19, z20, z21, z22, z23, z24, z25, z26, z27, z28, z29, z30, z31, z32, z33, z34, z35, z36, z37, (by omega), (by omega), (by first | omega | exact ev_lt hnp), rfl⟩
    · skip
      have hc6 : ¬ (0 ≤ p1 ∧ p1 ≤ (nI np) - 1) := bz_0 hw5 c6
      refine lv_iconst (v := (-1)) hx hb dX7_without_16 (by decide) ?_
      refine k_iret (u := [(oX7 x x0 x1 x2 x3 x4 x5), (oX4 x1 x0 s1 s2 (nI pn) si4 s5 s6 s7 s8 s9 s10 s11 si12 si13), (oX0 x0 b0 b1 b2 b3 b4 b5 b6 b7 b8 b9 b10 b11 (nI np) (nI nl) bi14), (oX6 s1 w0 w1 w2 w3 w4 (nI wn) wi6 (nI lv) w8), (oX2 s2 d0 d1 d2), (aIc cI b0 8 B0), (aIc cI b1 8 B1), (aIc cI b2 8 B2), (aIc cI b3 8 B3), (aIc cI b4 8 B4), (aIc cI b6 8 B6), (aIc cI b8 64 B8), (aIc cI b10 10 B10), (aIc cI b11 10 B11), (aIc cI s5 8 S5), (aIc cI s6 8 S6), (aIc cI s7 8 S7), (aIc cI s8 8 S8), (aIc cI s9 8 S9), (aIc cI s10 8 S10), (aIc cI s11 8 S11), (aIc cI w0 8 W0), (aIc cI w1 8 W1), (aIc cI w2 8 W2), (aIc cI w3 8 W3), (aIc cI w4 8 W4), (aIc cI w8 8 W8), (aIc cI d0 8 D0), (aIc cI d1 8 D1), (aJc cJ d2 8 D2), (aIc cI b5 8 B5)]) hx hb hr hlk hP hD hS dX7_without_17 ?_
      exact ⟨S5, S6, S7, S8, S9, S10, S11, W1, W2, W3, W4, W8, D0, D1, D2, si12, si13, wi6, lv, W0, si4, wn, pn, (by omega), (by omega), (by first | omega | exact ev_lt hnp), rfl⟩
theorem dX7_set_0 : decode cX7_set 0 = .ok (.aload_n 0, 1) := by decide +kernel
theorem dX7_set_1 : decode cX7_set 1 = .ok (.iload_n 1, 1) := by decide +kernel
theorem dX7_set_2 : decode cX7_set 2 = .ok (.invokevirtual 137, 3) := by decide +kernel
theorem dX7_set_5 : decode cX7_set 5 = .ok (.ifCond .eq 20, 3) := by decide +kernel
theorem dX7_set_8 : decode cX7_set 8 = .ok (.aload_n 0, 1) := by decide +kernel
theorem dX7_set_9 : decode cX7_set 9 = .ok (.iload_n 2, 1) := by decide +kernel
theorem dX7_set_10 : decode cX7_set 10 = .ok (.invokevirtual 261, 3) := by decide +kernel
theorem dX7_set_13 : decode cX7_set 13 = .ok (.ifCond .eq 12, 3) := by decide +kernel
theorem dX7_set_16 : decode cX7_set 16 = .ok (.aload_n 0, 1) := by decide +kernel
theorem dX7_set_17 : decode cX7_set 17 = .ok (.iload_n 1, 1) := by decide +kernel
theorem dX7_set_18 : decode cX7_set 18 = .ok (.iload_n 2, 1) := by decide +kernel
theorem dX7_set_19 : decode cX7_set 19 = .ok (.invokevirtual 283, 3) := by decide +kernel
theorem dX7_set_22 : decode cX7_set 22 = .ok (.goto 4, 3) := by decide +kernel
theorem dX7_set_25 : decode cX7_set 25 = .ok (.iconst (-1), 1) := by decide +kernel
theorem dX7_set_26 : decode cX7_set 26 = .ok (.ireturn, 1) := by decide +kernel
theorem gX7_set_X7_isLoss : GoodIn wtX7_set (wsV RX7 137 RX7 yX7_isLoss wtX7_isLoss) := tb_good (tb_v0 wd_519 wd_520 wd_521 wd_2 wd_522)
theorem gX7_set_X7_isSet : GoodIn wtX7_set (wsV RX7 261 RX7 yX7_isSet wtX7_isSet) := tb_good (tb_v0 wd_805 wd_806 wd_807 wd_2 wd_808)
theorem gX7_set_X7_totalOfSet : GoodIn wtX7_set (wsV RX7 283 RX7 yX7_totalOfSet wtX7_totalOfSet) := tb_good (tb_v0 wd_823 wd_824 wd_825 wd_2 wd_826)
set_option maxHeartbeats 4000000 in
set_option maxRecDepth 100000 in
theorem m_X7_set (l : Launch) (D : va_G) (cI cJ : ClassId) (sz : Nat) (x x0 x1 x2 x3 x4 x5 s1 s2 s5 s6 s7 s8 s9 s10 s11 b0 b1 b2 b3 b4 b5 b6 b7 b8 b9 b10 b11 w0 w1 w2 w3 w4 w8 d0 d1 d2 wn lv np nl pn : Nat) (si4 si12 si13 bi14 wi6 p0 p1 : Int32) (B0 B1 B2 B3 B4 B6 B8 B10 B11 S5 S6 S7 S8 S9 S10 S11 W0 W1 W2 W3 W4 W8 D0 D1 : Nat → Int32) (D2 : Nat → Int64) (B5 : Nat → Int32) (hwn : wn < 256) (hlv : lv ≤ 8) (hli : ∀ k, k < 10 → ∃ j : Nat, j < 8 ∧ B10 k = nI j) (hnp : np ≤ 8) (hnl : nl ≤ 10) (hpn : pn < 256) : Met l yX7_set wtX7_set { frames := 6, cells := 0, slots := 0, locals := 147 } (cPc D cI cJ [.ref x, .int p0, .int p1] sz [(oX7 x x0 x1 x2 x3 x4 x5), (oX4 x1 x0 s1 s2 (nI pn) si4 s5 s6 s7 s8 s9 s10 s11 si12 si13), (oX0 x0 b0 b1 b2 b3 b4 b5 b6 b7 b8 b9 b10 b11 (nI np) (nI nl) bi14), (oX6 s1 w0 w1 w2 w3 w4 (nI wn) wi6 (nI lv) w8), (oX2 s2 d0 d1 d2), (aIc cI b0 8 B0), (aIc cI b1 8 B1), (aIc cI b2 8 B2), (aIc cI b3 8 B3), (aIc cI b4 8 B4), (aIc cI b6 8 B6), (aIc cI b8 64 B8), (aIc cI b10 10 B10), (aIc cI b11 10 B11), (aIc cI s5 8 S5), (aIc cI s6 8 S6), (aIc cI s7 8 S7), (aIc cI s8 8 S8), (aIc cI s9 8 S9), (aIc cI s10 8 S10), (aIc cI s11 8 S11), (aIc cI w0 8 W0), (aIc cI w1 8 W1), (aIc cI w2 8 W2), (aIc cI w3 8 W3), (aIc cI w4 8 W4), (aIc cI w8 8 W8), (aIc cI d0 8 D0), (aIc cI d1 8 D1), (aJc cJ d2 8 D2), (aIc cI b5 8 B5)]) (cQi D (fun r u => ∃ (S5p S6p S7p S8p S9p S10p S11p W1p W2p W3p W4p W8p D0p D1p : Nat → Int32) (D2p : Nat → Int64) (si12p si13p wi6p : Int32) (lvp : Nat) (W0p : Nat → Int32) (si4p : Int32) (wnp pnp : Nat), (lvp ≤ 8) ∧ (wnp < 256) ∧ (pnp < 256) ∧ u = [(oX7 x x0 x1 x2 x3 x4 x5), (oX4 x1 x0 s1 s2 (nI pnp) si4p s5 s6 s7 s8 s9 s10 s11 si12p si13p), (oX0 x0 b0 b1 b2 b3 b4 b5 b6 b7 b8 b9 b10 b11 (nI np) (nI nl) bi14), (oX6 s1 w0 w1 w2 w3 w4 (nI wnp) wi6p (nI lvp) w8), (oX2 s2 d0 d1 d2), (aIc cI b0 8 B0), (aIc cI b1 8 B1), (aIc cI b2 8 B2), (aIc cI b3 8 B3), (aIc cI b4 8 B4), (aIc cI b6 8 B6), (aIc cI b8 64 B8), (aIc cI b10 10 B10), (aIc cI b11 10 B11), (aIc cI s5 8 S5p), (aIc cI s6 8 S6p), (aIc cI s7 8 S7p), (aIc cI s8 8 S8p), (aIc cI s9 8 S9p), (aIc cI s10 8 S10p), (aIc cI s11 8 S11p), (aIc cI w0 8 W0p), (aIc cI w1 8 W1p), (aIc cI w2 8 W2p), (aIc cI w3 8 W3p), (aIc cI w4 8 W4p), (aIc cI w8 8 W8p), (aIc cI d0 8 D0p), (aIc cI d1 8 D1p), (aJc cJ d2 8 D2p), (aIc cI b5 8 B5)]) (va_A [(oX7 x x0 x1 x2 x3 x4 x5), (oX4 x1 x0 s1 s2 (nI pn) si4 s5 s6 s7 s8 s9 s10 s11 si12 si13), (oX0 x0 b0 b1 b2 b3 b4 b5 b6 b7 b8 b9 b10 b11 (nI np) (nI nl) bi14), (oX6 s1 w0 w1 w2 w3 w4 (nI wn) wi6 (nI lv) w8), (oX2 s2 d0 d1 d2), (aIc cI b0 8 B0), (aIc cI b1 8 B1), (aIc cI b2 8 B2), (aIc cI b3 8 B3), (aIc cI b4 8 B4), (aIc cI b6 8 B6), (aIc cI b8 64 B8), (aIc cI b10 10 B10), (aIc cI b11 10 B11), (aIc cI s5 8 S5), (aIc cI s6 8 S6), (aIc cI s7 8 S7), (aIc cI s8 8 S8), (aIc cI s9 8 S9), (aIc cI s10 8 S10), (aIc cI s11 8 S11), (aIc cI w0 8 W0), (aIc cI w1 8 W1), (aIc cI w2 8 W2), (aIc cI w3 8 W3), (aIc cI w4 8 W4), (aIc cI w8 8 W8), (aIc cI d0 8 D0), (aIc cI d1 8 D1), (aJc cJ d2 8 D2), (aIc cI b5 8 B5)] sz)) 0 0 (va_A [(oX7 x x0 x1 x2 x3 x4 x5), (oX4 x1 x0 s1 s2 (nI pn) si4 s5 s6 s7 s8 s9 s10 s11 si12 si13), (oX0 x0 b0 b1 b2 b3 b4 b5 b6 b7 b8 b9 b10 b11 (nI np) (nI nl) bi14), (oX6 s1 w0 w1 w2 w3 w4 (nI wn) wi6 (nI lv) w8), (oX2 s2 d0 d1 d2), (aIc cI b0 8 B0), (aIc cI b1 8 B1), (aIc cI b2 8 B2), (aIc cI b3 8 B3), (aIc cI b4 8 B4), (aIc cI b6 8 B6), (aIc cI b8 64 B8), (aIc cI b10 10 B10), (aIc cI b11 10 B11), (aIc cI s5 8 S5), (aIc cI s6 8 S6), (aIc cI s7 8 S7), (aIc cI s8 8 S8), (aIc cI s9 8 S9), (aIc cI s10 8 S10), (aIc cI s11 8 S11), (aIc cI w0 8 W0), (aIc cI w1 8 W1), (aIc cI w2 8 W2), (aIc cI w3 8 W3), (aIc cI w4 8 W4), (aIc cI w8 8 W8), (aIc cI d0 8 D0), (aIc cI d1 8 D1), (aJc cJ d2 8 D2), (aIc cI b5 8 B5)] sz) := by
  refine k_ofW (Qc := cQi D (fun r u => ∃ (S5p S6p S7p S8p S9p S10p S11p W1p W2p W3p W4p W8p D0p D1p : Nat → Int32) (D2p : Nat → Int64) (si12p si13p wi6p : Int32) (lvp : Nat) (W0p : Nat → Int32) (si4p : Int32) (wnp pnp : Nat), (lvp ≤ 8) ∧ (wnp < 256) ∧ (pnp < 256) ∧ u = [(oX7 x x0 x1 x2 x3 x4 x5), (oX4 x1 x0 s1 s2 (nI pnp) si4p s5 s6 s7 s8 s9 s10 s11 si12p si13p), (oX0 x0 b0 b1 b2 b3 b4 b5 b6 b7 b8 b9 b10 b11 (nI np) (nI nl) bi14), (oX6 s1 w0 w1 w2 w3 w4 (nI wnp) wi6p (nI lvp) w8), (oX2 s2 d0 d1 d2), (aIc cI b0 8 B0), (aIc cI b1 8 B1), (aIc cI b2 8 B2), (aIc cI b3 8 B3), (aIc cI b4 8 B4), (aIc cI b6 8 B6), (aIc cI b8 64 B8), (aIc cI b10 10 B10), (aIc cI b11 10 B11), (aIc cI s5 8 S5p), (aIc cI s6 8 S6p), (aIc cI s7 8 S7p), (aIc cI s8 8 S8p), (aIc cI s9 8 S9p), (aIc cI s10 8 S10p), (aIc cI s11 8 S11p), (aIc cI w0 8 W0p), (aIc cI w1 8 W1p), (aIc cI w2 8 W2p), (aIc cI w3 8 W3p), (aIc cI w4 8 W4p), (aIc cI w8 8 W8p), (aIc cI d0 8 D0p), (aIc cI d1 8 D1p), (aJc cJ d2 8 D2p), (aIc cI b5 8 B5)])) (by decide) rfl (Nat.le_of_ble_eq_true rfl) ?_
  intro p e s m below meth c A ls hx hb hr hml hts hown hlk hnm hsz hE hP hD hS hA hl
  have hown : s.vm.findClass RX7 = some m.cls := hown
  have hl : lv_has ls 3 [(0, .ref x), (1, .int p0), (2, .int p1)] := hl
  refine lv_aload_n hx hb dX7_set_0 rfl (lv_at hl 0 rfl) ?_
  refine lv_iload_n hx hb dX7_set_1 rfl (lv_at hl 1 rfl) ?_
  refine k_iS (va_runV (As := [.int p0]) (rest := []) ⟨hx, hb, hml, hown, hts⟩ (m_X7_isLoss l D cI cJ (s.heap).size x x0 x1 x2 x3 x4 x5 b0 b1 b2 b3 b4 b5 b6 b7 b8 b9 b10 b11 (nI np) (nI nl) bi14 p0) (cwV 1 hts gX7_set_X7_isLoss rfl rfl rfl (by decide +kernel) ⟨Nat.le_of_ble_eq_true rfl, Nat.le_of_ble_eq_true rfl⟩) (k_preV hE hP hD [0, 2] (by decide +kernel) rfl 0 rfl rfl) rfl rfl hl.1 rfl (lv_room (Nat.le_of_ble_eq_true rfl)) dX7_set_2 ⟨Nat.le_of_ble_eq_true rfl, Nat.le_of_ble_eq_true rfl⟩) hP hD hS hA [0, 2] rfl (fun _ _ h9 => h9.2) (fun r1 H locs hw2 hP hD hS => ?_)
  obtain ⟨hw2, -⟩ := hw2
  refine lv_if_eq (tgt := 25) hx hb dX7_set_5 (by decide) (fun c3 => ?_) (fun c3 => ?_)
  · skip
    have hc3 : ¬ (0 ≤ p0 ∧ p0 ≤ (nI nl) - 1) := bz_0 hw2 c3
    refine lv_iconst (v := (-1)) hx hb dX7_set_25 (by decide) ?_
    refine k_iret (u := [(oX7 x x0 x1 x2 x3 x4 x5), (oX4 x1 x0 s1 s2 (nI pn) si4 s5 s6 s7 s8 s9 s10 s11 si12 si13), (oX0 x0 b0 b1 b2 b3 b4 b5 b6 b7 b8 b9 b10 b11 (nI np) (nI nl) bi14), (oX6 s1 w0 w1 w2 w3 w4 (nI wn) wi6 (nI lv) w8), (oX2 s2 d0 d1 d2), (aIc cI b0 8 B0), (aIc cI b1 8 B1), (aIc cI b2 8 B2), (aIc cI b3 8 B3), (aIc cI b4 8 B4), (aIc cI b6 8 B6), (aIc cI b8 64 B8), (aIc cI b10 10 B10), (aIc cI b11 10 B11), (aIc cI s5 8 S5), (aIc cI s6 8 S6), (aIc cI s7 8 S7), (aIc cI s8 8 S8), (aIc cI s9 8 S9), (aIc cI s10 8 S10), (aIc cI s11 8 S11), (aIc cI w0 8 W0), (aIc cI w1 8 W1), (aIc cI w2 8 W2), (aIc cI w3 8 W3), (aIc cI w4 8 W4), (aIc cI w8 8 W8), (aIc cI d0 8 D0), (aIc cI d1 8 D1), (aJc cJ d2 8 D2), (aIc cI b5 8 B5)]) hx hb hr hlk hP hD hS dX7_set_26 ?_
    exact ⟨S5, S6, S7, S8, S9, S10, S11, W1, W2, W3, W4, W8, D0, D1, D2, si12, si13, wi6, lv, W0, si4, wn, pn, (by omega), (by omega), (by first | omega | exact ev_lt hnp), rfl⟩
  · skip
    have hc3 : 0 ≤ p0 ∧ p0 ≤ (nI nl) - 1 := bz_1 hw2 c3
    refine lv_aload_n hx hb dX7_set_8 rfl (lv_at hl 0 rfl) ?_
    refine lv_iload_n hx hb dX7_set_9 rfl (lv_at hl 2 rfl) ?_
    refine k_iS (va_runV (As := [.int p1]) (rest := []) ⟨hx, hb, hml, hown, hts⟩ (m_X7_isSet l D cI cJ H.size x x0 x1 x2 x3 x4 x5 b0 b1 b2 b3 b4 b5 b6 b7 b8 b9 b10 b11 np nl bi14 p1 (by omega)) (cwV 1 hts gX7_set_X7_isSet rfl rfl rfl (by decide +kernel) ⟨Nat.le_of_ble_eq_true rfl, Nat.le_of_ble_eq_true rfl⟩) (k_preV hE hP hD [0, 2] (by decide +kernel) rfl 0 rfl rfl) rfl rfl hl.1 rfl (lv_room (Nat.le_of_ble_eq_true rfl)) dX7_set_10 ⟨Nat.le_of_ble_eq_true rfl, Nat.le_of_ble_eq_true rfl⟩) hP hD hS hA [0, 2] rfl (fun _ _ ⟨_, h9⟩ => h9) (fun r4 H locs hw5 hP hD hS => ?_)
    obtain ⟨hb6, -⟩ := hw5
    refine lv_if_eq (tgt := 25) hx hb dX7_set_13 (by decide) (fun c7 => ?_) (fun c7 => ?_)
    · skip
      have hc7 : ¬ (0 ≤ p1 ∧ p1 ≤ nI (2 ^ np - 1)) := bz_0 hb6 c7
      refine lv_iconst (v := (-1)) hx hb dX7_set_25 (by decide) ?_
      refine k_iret (u := [(oX7 x x0 x1 x2 x3 x4 x5), (oX4 x1 x0 s1 s2 (nI pn) si4 s5 s6 s7 s8 s9 s10 s11 si12 si13), (oX0 x0 b0 b1 b2 b3 b4 b5 b6 b7 b8 b9 b10 b11 (nI np) (nI nl) bi14), (oX6 s1 w0 w1 w2 w3 w4 (nI wn) wi6 (nI lv) w8), (oX2 s2 d0 d1 d2), (aIc cI b0 8 B0), (aIc cI b1 8 B1), (aIc cI b2 8 B2), (aIc cI b3 8 B3), (aIc cI b4 8 B4), (aIc cI b6 8 B6), (aIc cI b8 64 B8), (aIc cI b10 10 B10), (aIc cI b11 10 B11), (aIc cI s5 8 S5), (aIc cI s6 8 S6), (aIc cI s7 8 S7), (aIc cI s8 8 S8), (aIc cI s9 8 S9), (aIc cI s10 8 S10), (aIc cI s11 8 S11), (aIc cI w0 8 W0), (aIc cI w1 8 W1), (aIc cI w2 8 W2), (aIc cI w3 8 W3), (aIc cI w4 8 W4), (aIc cI w8 8 W8), (aIc cI d0 8 D0), (aIc cI d1 8 D1), (aJc cJ d2 8 D2), (aIc cI b5 8 B5)]) hx hb hr hlk hP hD hS dX7_set_26 ?_
      exact ⟨S5, S6, S7, S8, S9, S10, S11, W1, W2, W3, W4, W8, D0, D1, D2, si12, si13, wi6, lv, W0, si4, wn, pn, (by omega), (by omega), (by first | omega | exact ev_lt hnp), rfl⟩
    · skip
      have hc7 : 0 ≤ p1 ∧ p1 ≤ nI (2 ^ np - 1) := bz_1 hb6 c7
      obtain ⟨lj, hlj, elj⟩ := wi_n (by omega) hc3
      rw [elj] at hl
      have h256 := ev_lt hnp
      obtain ⟨sj, hsj, esj⟩ := wi_k (k := 0) (c := 2 ^ np - 1) (by decide) (by omega) hc7
      rw [esj] at hl
      refine lv_aload_n hx hb dX7_set_16 rfl (lv_at hl 0 rfl) ?_
      refine lv_iload_n hx hb dX7_set_17 rfl (lv_at hl 1 rfl) ?_
      refine lv_iload_n hx hb dX7_set_18 rfl (lv_at hl 2 rfl) ?_
      refine k_i (va_runV (As := [.int (nI lj), .int (nI sj)]) (rest := []) ⟨hx, hb, hml, hown, hts⟩ (m_X7_totalOfSet l D cI cJ H.size x x0 x1 x2 x3 x4 x5 s1 s2 s5 s6 s7 s8 s9 s10 s11 b0 b1 b2 b3 b4 b5 b6 b7 b8 b9 b10 b11 w0 w1 w2 w3 w4 w8 d0 d1 d2 sj wn lv np nl pn si4 si12 si13 bi14 wi6 (nI lj) B0 B1 B2 B3 B4 B6 B8 B10 B11 S5 S6 S7 S8 S9 S10 S11 W0 W1 W2 W3 W4 W8 D0 D1 D2 B5 (by omega) (by omega) (by omega) (by omega) (by omega) (by omega) (by omega)) (cwV 2 hts gX7_set_X7_totalOfSet rfl rfl rfl (by decide +kernel) ⟨Nat.le_of_ble_eq_true rfl, Nat.le_of_ble_eq_true rfl⟩) (k_preV hE hP hD [0, 1, 2, 3, 4, 5, 6, 7, 8, 9, 10, 11, 12, 13, 14, 15, 16, 17, 18, 19, 20, 21, 22, 23, 24, 25, 26, 27, 28, 29, 30] (by decide +kernel) rfl 0 rfl rfl) rfl rfl hl.1 rfl (lv_room (Nat.le_of_ble_eq_true rfl)) dX7_set_19 ⟨Nat.le_of_ble_eq_true rfl, Nat.le_of_ble_eq_true rfl⟩) hP hD hS hA [0, 1, 2, 3, 4, 5, 6, 7, 8, 9, 10, 11, 12, 13, 14, 15, 16, 17, 18, 19, 20, 21, 22, 23, 24, 25, 26, 27, 28, 29, 30] [] rfl (wr := []) rfl (by decide +kernel) (by decide +kernel) (fun r8 u H locs hw9 hP hD hS => ?_)
      obtain ⟨z10, z11, z12, z13, z14, z15, z16, z17, z18, z19, z20, z21, z22, z23, z24, z25, z26, z27, z28, z29, z30, z31, z32, hz33, hz34, hz35, rfl⟩ := hw9
      refine k_re (w := [(oX7 x x0 x1 x2 x3 x4 x5), (oX4 x1 x0 s1 s2 (nI z32) z30 s5 s6 s7 s8 s9 s10 s11 z25 z26), (oX0 x0 b0 b1 b2 b3 b4 b5 b6 b7 b8 b9 b10 b11 (nI np) (nI nl) bi14), (oX6 s1 w0 w1 w2 w3 w4 (nI z31) z27 (nI z28) w8), (oX2 s2 d0 d1 d2), (aIc cI b0 8 B0), (aIc cI b1 8 B1), (aIc cI b2 8 B2), (aIc cI b3 8 B3), (aIc cI b4 8 B4), (aIc cI b6 8 B6), (aIc cI b8 64 B8), (aIc cI b10 10 B10), (aIc cI b11 10 B11), (aIc cI s5 8 z10), (aIc cI s6 8 z11), (aIc cI s7 8 z12), (aIc cI s8 8 z13), (aIc cI s9 8 z14), (aIc cI s10 8 z15), (aIc cI s11 8 z16), (aIc cI w0 8 z29), (aIc cI w1 8 z17), (aIc cI w2 8 z18), (aIc cI w3 8 z19), (aIc cI w4 8 z20), (aIc cI w8 8 z21), (aIc cI d0 8 z22), (aIc cI d1 8 z23), (aJc cJ d2 8 z24), (aIc cI b5 8 B5)]) hP hD (fun hP hD => ?_)
      refine lv_goto (tgt := 26) hx hb dX7_set_22 (by decide) ?_
      refine k_iret (u := [(oX7 x x0 x1 x2 x3 x4 x5), (oX4 x1 x0 s1 s2 (nI z32) z30 s5 s6 s7 s8 s9 s10 s11 z25 z26), (oX0 x0 b0 b1 b2 b3 b4 b5 b6 b7 b8 b9 b10 b11 (nI np) (nI nl) bi14), (oX6 s1 w0 w1 w2 w3 w4 (nI z31) z27 (nI z28) w8), (oX2 s2 d0 d1 d2), (aIc cI b0 8 B0), (aIc cI b1 8 B1), (aIc cI b2 8 B2), (aIc cI b3 8 B3), (aIc cI b4 8 B4), (aIc cI b6 8 B6), (aIc cI b8 64 B8), (aIc cI b10 10 B10), (aIc cI b11 10 B11), (aIc cI s5 8 z10), (aIc cI s6 8 z11), (aIc cI s7 8 z12), (aIc cI s8 8 z13), (aIc cI s9 8 z14), (aIc cI s10 8 z15), (aIc cI s11 8 z16), (aIc cI w0 8 z29), (aIc cI w1 8 z17), (aIc cI w2 8 z18), (aIc cI w3 8 z19), (aIc cI w4 8 z20), (aIc cI w8 8 z21), (aIc cI d0 8 z22), (aIc cI d1 8 z23), (aJc cJ d2 8 z24), (aIc cI b5 8 B5)]) hx hb hr hlk hP hD hS dX7_set_26 ?_
      exact ⟨z10, z11, z12, z13, z14, z15, z16, z17, z18, z19, z20, z21, z22, z23, z24, z25, z26, z27, z28, z29, z30, z31, z32, (by omega), (by omega), (by first | omega | exact ev_lt hnp), rfl⟩
theorem dX7_isPolicyOrNone_0 : decode cX7_isPolicyOrNone 0 = .ok (.iload_n 1, 1) := by decide +kernel
theorem dX7_isPolicyOrNone_1 : decode cX7_isPolicyOrNone 1 = .ok (.iconst (-1), 1) := by decide +kernel
theorem dX7_isPolicyOrNone_2 : decode cX7_isPolicyOrNone 2 = .ok (.if_icmp .eq 11, 3) := by decide +kernel
theorem dX7_isPolicyOrNone_5 : decode cX7_isPolicyOrNone 5 = .ok (.aload_n 0, 1) := by decide +kernel
theorem dX7_isPolicyOrNone_6 : decode cX7_isPolicyOrNone 6 = .ok (.iload_n 1, 1) := by decide +kernel
theorem dX7_isPolicyOrNone_7 : decode cX7_isPolicyOrNone 7 = .ok (.invokevirtual 74, 3) := by decide +kernel
theorem dX7_isPolicyOrNone_10 : decode cX7_isPolicyOrNone 10 = .ok (.ifCond .eq 7, 3) := by decide +kernel
theorem dX7_isPolicyOrNone_13 : decode cX7_isPolicyOrNone 13 = .ok (.iconst 1, 1) := by decide +kernel
theorem dX7_isPolicyOrNone_14 : decode cX7_isPolicyOrNone 14 = .ok (.goto 4, 3) := by decide +kernel
theorem dX7_isPolicyOrNone_17 : decode cX7_isPolicyOrNone 17 = .ok (.iconst 0, 1) := by decide +kernel
theorem dX7_isPolicyOrNone_18 : decode cX7_isPolicyOrNone 18 = .ok (.ireturn, 1) := by decide +kernel
theorem gX7_isPolicyOrNone_X7_isPolicy : GoodIn wtX7_isPolicyOrNone (wsV RX7 74 RX7 yX7_isPolicy wtX7_isPolicy) := tb_good (tb_v0 wd_186 wd_187 wd_188 wd_2 wd_189)
set_option maxHeartbeats 4000000 in
set_option maxRecDepth 100000 in
theorem m_X7_isPolicyOrNone (l : Launch) (D : va_G) (cI cJ : ClassId) (sz : Nat) (x x0 x1 x2 x3 x4 x5 b0 b1 b2 b3 b4 b5 b6 b7 b8 b9 b10 b11 : Nat) (bi12 bi13 bi14 n : Int32) : Met l yX7_isPolicyOrNone wtX7_isPolicyOrNone { frames := 2, cells := 0, slots := 0, locals := 43 } (cPc D cI cJ [.ref x, .int n] sz [(oX7 x x0 x1 x2 x3 x4 x5), (oX0 x0 b0 b1 b2 b3 b4 b5 b6 b7 b8 b9 b10 b11 bi12 bi13 bi14)]) (cQi D (fun r u => r = bz (n = (-1) ∨ (0 ≤ n ∧ n ≤ bi12 - 1)) ∧ u = [(oX7 x x0 x1 x2 x3 x4 x5), (oX0 x0 b0 b1 b2 b3 b4 b5 b6 b7 b8 b9 b10 b11 bi12 bi13 bi14)]) (va_A [(oX7 x x0 x1 x2 x3 x4 x5), (oX0 x0 b0 b1 b2 b3 b4 b5 b6 b7 b8 b9 b10 b11 bi12 bi13 bi14)] sz)) 0 0 (va_A [(oX7 x x0 x1 x2 x3 x4 x5), (oX0 x0 b0 b1 b2 b3 b4 b5 b6 b7 b8 b9 b10 b11 bi12 bi13 bi14)] sz) := by
  refine k_ofW (Qc := cQi D (fun r u => r = bz (n = (-1) ∨ (0 ≤ n ∧ n ≤ bi12 - 1)) ∧ u = [(oX7 x x0 x1 x2 x3 x4 x5), (oX0 x0 b0 b1 b2 b3 b4 b5 b6 b7 b8 b9 b10 b11 bi12 bi13 bi14)])) (by decide) rfl (Nat.le_of_ble_eq_true rfl) ?_
  intro p e s m below meth c A ls hx hb hr hml hts hown hlk hnm hsz hE hP hD hS hA hl
  have hown : s.vm.findClass RX7 = some m.cls := hown
  have hl : lv_has ls 2 [(0, .ref x), (1, .int n)] := hl
  refine lv_iload_n hx hb dX7_isPolicyOrNone_0 rfl (lv_at hl 1 rfl) ?_
  refine lv_iconst (v := (-1)) hx hb dX7_isPolicyOrNone_1 (by decide) ?_
  refine lv_icmp_eq (tgt := 13) hx hb dX7_isPolicyOrNone_2 (by decide) (fun c1 => ?_) (fun c1 => ?_)
  · skip
    refine lv_iconst (v := 1) hx hb dX7_isPolicyOrNone_13 (by decide) ?_
    refine lv_goto (tgt := 18) hx hb dX7_isPolicyOrNone_14 (by decide) ?_
    refine k_zret (u := [(oX7 x x0 x1 x2 x3 x4 x5), (oX0 x0 b0 b1 b2 b3 b4 b5 b6 b7 b8 b9 b10 b11 bi12 bi13 bi14)]) hx hb hr (by decide) hlk hP hD hS dX7_isPolicyOrNone_18 ?_
    exact ⟨bz_t (Or.inl c1), rfl⟩
  · skip
    refine lv_aload_n hx hb dX7_isPolicyOrNone_5 rfl (lv_at hl 0 rfl) ?_
    refine lv_iload_n hx hb dX7_isPolicyOrNone_6 rfl (lv_at hl 1 rfl) ?_
    refine k_iS (va_runV (As := [.int n]) (rest := []) ⟨hx, hb, hml, hown, hts⟩ (m_X7_isPolicy l D cI cJ (s.heap).size x x0 x1 x2 x3 x4 x5 b0 b1 b2 b3 b4 b5 b6 b7 b8 b9 b10 b11 bi12 bi13 bi14 n) (cwV 1 hts gX7_isPolicyOrNone_X7_isPolicy rfl rfl rfl (by decide +kernel) ⟨Nat.le_of_ble_eq_true rfl, Nat.le_of_ble_eq_true rfl⟩) (k_preV hE hP hD [0, 1] (by decide +kernel) rfl 0 rfl rfl) rfl rfl hl.1 rfl (lv_room (Nat.le_of_ble_eq_true rfl)) dX7_isPolicyOrNone_7 ⟨Nat.le_of_ble_eq_true rfl, Nat.le_of_ble_eq_true rfl⟩) hP hD hS hA [0, 1] rfl (fun _ _ h9 => h9.2) (fun r2 H locs hw3 hP hD hS => ?_)
    obtain ⟨hw3, -⟩ := hw3
    refine lv_if_eq (tgt := 17) hx hb dX7_isPolicyOrNone_10 (by decide) (fun c4 => ?_) (fun c4 => ?_)
    · skip
      have hc4 : ¬ (0 ≤ n ∧ n ≤ bi12 - 1) := bz_0 hw3 c4
      refine lv_iconst (v := 0) hx hb dX7_isPolicyOrNone_17 (by decide) ?_
      refine k_zret (u := [(oX7 x x0 x1 x2 x3 x4 x5), (oX0 x0 b0 b1 b2 b3 b4 b5 b6 b7 b8 b9 b10 b11 bi12 bi13 bi14)]) hx hb hr (by decide) hlk hP hD hS dX7_isPolicyOrNone_18 ?_
      exact ⟨bz_f (fun q => q.elim c1 hc4), rfl⟩
    · skip
      have hc4 : 0 ≤ n ∧ n ≤ bi12 - 1 := bz_1 hw3 c4
      refine lv_iconst (v := 1) hx hb dX7_isPolicyOrNone_13 (by decide) ?_
      refine lv_goto (tgt := 18) hx hb dX7_isPolicyOrNone_14 (by decide) ?_
      refine k_zret (u := [(oX7 x x0 x1 x2 x3 x4 x5), (oX0 x0 b0 b1 b2 b3 b4 b5 b6 b7 b8 b9 b10 b11 bi12 bi13 bi14)]) hx hb hr (by decide) hlk hP hD hS dX7_isPolicyOrNone_18 ?_
      exact ⟨bz_t (Or.inr hc4), rfl⟩
theorem dX7_broke_0 : decode cX7_broke 0 = .ok (.aload_n 0, 1) := by decide +kernel
theorem dX7_broke_1 : decode cX7_broke 1 = .ok (.iload_n 1, 1) := by decide +kernel
theorem dX7_broke_2 : decode cX7_broke 2 = .ok (.invokevirtual 137, 3) := by decide +kernel
theorem dX7_broke_5 : decode cX7_broke 5 = .ok (.ifCond .eq 19, 3) := by decide +kernel
theorem dX7_broke_8 : decode cX7_broke 8 = .ok (.aload_n 0, 1) := by decide +kernel
theorem dX7_broke_9 : decode cX7_broke 9 = .ok (.iload_n 3, 1) := by decide +kernel
theorem dX7_broke_10 : decode cX7_broke 10 = .ok (.invokevirtual 228, 3) := by decide +kernel
theorem dX7_broke_13 : decode cX7_broke 13 = .ok (.ifCond .eq 11, 3) := by decide +kernel
theorem dX7_broke_16 : decode cX7_broke 16 = .ok (.aload_n 0, 1) := by decide +kernel
theorem dX7_broke_17 : decode cX7_broke 17 = .ok (.iload_n 2, 1) := by decide +kernel
theorem dX7_broke_18 : decode cX7_broke 18 = .ok (.invokevirtual 261, 3) := by decide +kernel
theorem dX7_broke_21 : decode cX7_broke 21 = .ok (.ifCond .ne 5, 3) := by decide +kernel
theorem dX7_broke_24 : decode cX7_broke 24 = .ok (.iconst (-1), 1) := by decide +kernel
theorem dX7_broke_25 : decode cX7_broke 25 = .ok (.ireturn, 1) := by decide +kernel
theorem dX7_broke_26 : decode cX7_broke 26 = .ok (.aload_n 0, 1) := by decide +kernel
theorem dX7_broke_27 : decode cX7_broke 27 = .ok (.iload_n 1, 1) := by decide +kernel
theorem dX7_broke_28 : decode cX7_broke 28 = .ok (.invokevirtual 140, 3) := by decide +kernel
theorem dX7_broke_31 : decode cX7_broke 31 = .ok (.aload_n 0, 1) := by decide +kernel
theorem dX7_broke_32 : decode cX7_broke 32 = .ok (.getfield 10, 3) := by decide +kernel
theorem dX7_broke_35 : decode cX7_broke 35 = .ok (.iload_n 2, 1) := by decide +kernel
theorem dX7_broke_36 : decode cX7_broke 36 = .ok (.invokevirtual 264, 3) := by decide +kernel
theorem dX7_broke_39 : decode cX7_broke 39 = .ok (.istore 4, 2) := by decide +kernel
theorem dX7_broke_41 : decode cX7_broke 41 = .ok (.iload_n 3, 1) := by decide +kernel
theorem dX7_broke_42 : decode cX7_broke 42 = .ok (.iconst (-1), 1) := by decide +kernel
theorem dX7_broke_43 : decode cX7_broke 43 = .ok (.if_icmp .ne 6, 3) := by decide +kernel
theorem dX7_broke_46 : decode cX7_broke 46 = .ok (.iload 4, 2) := by decide +kernel
theorem dX7_broke_48 : decode cX7_broke 48 = .ok (.ireturn, 1) := by decide +kernel
theorem dX7_broke_49 : decode cX7_broke 49 = .ok (.iload_n 2, 1) := by decide +kernel
theorem dX7_broke_50 : decode cX7_broke 50 = .ok (.iload_n 3, 1) := by decide +kernel
theorem dX7_broke_51 : decode cX7_broke 51 = .ok (.invokestatic 267, 3) := by decide +kernel
theorem dX7_broke_54 : decode cX7_broke 54 = .ok (.ifCond .eq 7, 3) := by decide +kernel
theorem dX7_broke_57 : decode cX7_broke 57 = .ok (.iconst 0, 1) := by decide +kernel
theorem dX7_broke_58 : decode cX7_broke 58 = .ok (.goto 25, 3) := by decide +kernel
theorem dX7_broke_61 : decode cX7_broke 61 = .ok (.aload_n 0, 1) := by decide +kernel
theorem dX7_broke_62 : decode cX7_broke 62 = .ok (.getfield 10, 3) := by decide +kernel
theorem dX7_broke_65 : decode cX7_broke 65 = .ok (.getfield 180, 3) := by decide +kernel
theorem dX7_broke_68 : decode cX7_broke 68 = .ok (.iload_n 3, 1) := by decide +kernel
theorem dX7_broke_69 : decode cX7_broke 69 = .ok (.iaload, 1) := by decide +kernel
theorem dX7_broke_70 : decode cX7_broke 70 = .ok (.aload_n 0, 1) := by decide +kernel
theorem dX7_broke_71 : decode cX7_broke 71 = .ok (.getfield 10, 3) := by decide +kernel
theorem dX7_broke_74 : decode cX7_broke 74 = .ok (.getfield 271, 3) := by decide +kernel
theorem dX7_broke_77 : decode cX7_broke 77 = .ok (.getfield 275, 3) := by decide +kernel
theorem dX7_broke_80 : decode cX7_broke 80 = .ok (.iload_n 3, 1) := by decide +kernel
theorem dX7_broke_81 : decode cX7_broke 81 = .ok (.iaload, 1) := by decide +kernel
theorem dX7_broke_82 : decode cX7_broke 82 = .ok (.iadd, 1) := by decide +kernel
theorem dX7_broke_83 : decode cX7_broke 83 = .ok (.ireturn, 1) := by decide +kernel
theorem gX7_broke_X4_makeGood : GoodIn wtX7_broke (wsV RX7 264 RX4 yX4_makeGood wtX4_makeGood) := tb_good (tb_v0 wd_810 wd_811 wd_812 wd_16 wd_813)
theorem gX7_broke_X7_has : GoodIn wtX7_broke (va_wsS RX7 267 yX7_has wtX7_has) := tb_good (tb_s0 wd_814 wd_311 wd_2 wd_312)
theorem gX7_broke_X7_isLoss : GoodIn wtX7_broke (wsV RX7 137 RX7 yX7_isLoss wtX7_isLoss) := tb_good (tb_v0 wd_519 wd_520 wd_521 wd_2 wd_522)
theorem gX7_broke_X7_isPolicyOrNone : GoodIn wtX7_broke (wsV RX7 228 RX7 yX7_isPolicyOrNone wtX7_isPolicyOrNone) := tb_good (tb_v0 wd_725 wd_726 wd_727 wd_2 wd_728)
theorem gX7_broke_X7_isSet : GoodIn wtX7_broke (wsV RX7 261 RX7 yX7_isSet wtX7_isSet) := tb_good (tb_v0 wd_805 wd_806 wd_807 wd_2 wd_808)
theorem gX7_broke_X7_settle : GoodIn wtX7_broke (wsV RX7 140 RX7 yX7_settle wtX7_settle) := tb_good (tb_v0 wd_523 wd_524 wd_525 wd_2 wd_526)
set_option maxHeartbeats 4000000 in
set_option maxRecDepth 100000 in
theorem m_X7_broke (l : Launch) (D : va_G) (cI cJ : ClassId) (sz : Nat) (x x0 x1 x2 x3 x4 x5 s1 s2 s5 s6 s7 s8 s9 s10 s11 b0 b1 b2 b3 b4 b5 b6 b7 b8 b9 b10 b11 w0 w1 w2 w3 w4 w8 d0 d1 d2 wn lv np nl pn : Nat) (si4 si12 si13 bi14 wi6 p0 p1 p2 : Int32) (B0 B1 B2 B3 B4 B6 B8 B10 B11 S5 S6 S7 S8 S9 S10 S11 W0 W1 W2 W3 W4 W8 D0 D1 : Nat → Int32) (D2 : Nat → Int64) (B5 : Nat → Int32) (hwn : wn < 256) (hlv : lv ≤ 8) (hli : ∀ k, k < 10 → ∃ j : Nat, j < 8 ∧ B10 k = nI j) (hnp : np ≤ 8) (hnl : nl ≤ 10) (hpn : pn < 256) : Met l yX7_broke wtX7_broke { frames := 6, cells := 0, slots := 0, locals := 146 } (cPc D cI cJ [.ref x, .int p0, .int p1, .int p2] sz [(oX7 x x0 x1 x2 x3 x4 x5), (oX4 x1 x0 s1 s2 (nI pn) si4 s5 s6 s7 s8 s9 s10 s11 si12 si13), (oX0 x0 b0 b1 b2 b3 b4 b5 b6 b7 b8 b9 b10 b11 (nI np) (nI nl) bi14), (oX6 s1 w0 w1 w2 w3 w4 (nI wn) wi6 (nI lv) w8), (oX2 s2 d0 d1 d2), (aIc cI b0 8 B0), (aIc cI b1 8 B1), (aIc cI b2 8 B2), (aIc cI b3 8 B3), (aIc cI b4 8 B4), (aIc cI b6 8 B6), (aIc cI b8 64 B8), (aIc cI b10 10 B10), (aIc cI b11 10 B11), (aIc cI s5 8 S5), (aIc cI s6 8 S6), (aIc cI s7 8 S7), (aIc cI s8 8 S8), (aIc cI s9 8 S9), (aIc cI s10 8 S10), (aIc cI s11 8 S11), (aIc cI w0 8 W0), (aIc cI w1 8 W1), (aIc cI w2 8 W2), (aIc cI w3 8 W3), (aIc cI w4 8 W4), (aIc cI w8 8 W8), (aIc cI d0 8 D0), (aIc cI d1 8 D1), (aJc cJ d2 8 D2), (aIc cI b5 8 B5)]) (cQi D (fun r u => ∃ (S5p S6p S7p S8p S9p S10p S11p W1p W2p W3p W4p W8p D0p D1p : Nat → Int32) (D2p : Nat → Int64) (si12p si13p wi6p : Int32) (lvp : Nat) (W0p : Nat → Int32) (si4p : Int32) (wnp pnp : Nat), (lvp ≤ 8) ∧ (wnp < 256) ∧ (pnp < 256) ∧ u = [(oX7 x x0 x1 x2 x3 x4 x5), (oX4 x1 x0 s1 s2 (nI pnp) si4p s5 s6 s7 s8 s9 s10 s11 si12p si13p), (oX0 x0 b0 b1 b2 b3 b4 b5 b6 b7 b8 b9 b10 b11 (nI np) (nI nl) bi14), (oX6 s1 w0 w1 w2 w3 w4 (nI wnp) wi6p (nI lvp) w8), (oX2 s2 d0 d1 d2), (aIc cI b0 8 B0), (aIc cI b1 8 B1), (aIc cI b2 8 B2), (aIc cI b3 8 B3), (aIc cI b4 8 B4), (aIc cI b6 8 B6), (aIc cI b8 64 B8), (aIc cI b10 10 B10), (aIc cI b11 10 B11), (aIc cI s5 8 S5p), (aIc cI s6 8 S6p), (aIc cI s7 8 S7p), (aIc cI s8 8 S8p), (aIc cI s9 8 S9p), (aIc cI s10 8 S10p), (aIc cI s11 8 S11p), (aIc cI w0 8 W0p), (aIc cI w1 8 W1p), (aIc cI w2 8 W2p), (aIc cI w3 8 W3p), (aIc cI w4 8 W4p), (aIc cI w8 8 W8p), (aIc cI d0 8 D0p), (aIc cI d1 8 D1p), (aJc cJ d2 8 D2p), (aIc cI b5 8 B5)]) (va_A [(oX7 x x0 x1 x2 x3 x4 x5), (oX4 x1 x0 s1 s2 (nI pn) si4 s5 s6 s7 s8 s9 s10 s11 si12 si13), (oX0 x0 b0 b1 b2 b3 b4 b5 b6 b7 b8 b9 b10 b11 (nI np) (nI nl) bi14), (oX6 s1 w0 w1 w2 w3 w4 (nI wn) wi6 (nI lv) w8), (oX2 s2 d0 d1 d2), (aIc cI b0 8 B0), (aIc cI b1 8 B1), (aIc cI b2 8 B2), (aIc cI b3 8 B3), (aIc cI b4 8 B4), (aIc cI b6 8 B6), (aIc cI b8 64 B8), (aIc cI b10 10 B10), (aIc cI b11 10 B11), (aIc cI s5 8 S5), (aIc cI s6 8 S6), (aIc cI s7 8 S7), (aIc cI s8 8 S8), (aIc cI s9 8 S9), (aIc cI s10 8 S10), (aIc cI s11 8 S11), (aIc cI w0 8 W0), (aIc cI w1 8 W1), (aIc cI w2 8 W2), (aIc cI w3 8 W3), (aIc cI w4 8 W4), (aIc cI w8 8 W8), (aIc cI d0 8 D0), (aIc cI d1 8 D1), (aJc cJ d2 8 D2), (aIc cI b5 8 B5)] sz)) 0 0 (va_A [(oX7 x x0 x1 x2 x3 x4 x5), (oX4 x1 x0 s1 s2 (nI pn) si4 s5 s6 s7 s8 s9 s10 s11 si12 si13), (oX0 x0 b0 b1 b2 b3 b4 b5 b6 b7 b8 b9 b10 b11 (nI np) (nI nl) bi14), (oX6 s1 w0 w1 w2 w3 w4 (nI wn) wi6 (nI lv) w8), (oX2 s2 d0 d1 d2), (aIc cI b0 8 B0), (aIc cI b1 8 B1), (aIc cI b2 8 B2), (aIc cI b3 8 B3), (aIc cI b4 8 B4), (aIc cI b6 8 B6), (aIc cI b8 64 B8), (aIc cI b10 10 B10), (aIc cI b11 10 B11), (aIc cI s5 8 S5), (aIc cI s6 8 S6), (aIc cI s7 8 S7), (aIc cI s8 8 S8), (aIc cI s9 8 S9), (aIc cI s10 8 S10), (aIc cI s11 8 S11), (aIc cI w0 8 W0), (aIc cI w1 8 W1), (aIc cI w2 8 W2), (aIc cI w3 8 W3), (aIc cI w4 8 W4), (aIc cI w8 8 W8), (aIc cI d0 8 D0), (aIc cI d1 8 D1), (aJc cJ d2 8 D2), (aIc cI b5 8 B5)] sz) := by
  refine k_ofW (Qc := cQi D (fun r u => ∃ (S5p S6p S7p S8p S9p S10p S11p W1p W2p W3p W4p W8p D0p D1p : Nat → Int32) (D2p : Nat → Int64) (si12p si13p wi6p : Int32) (lvp : Nat) (W0p : Nat → Int32) (si4p : Int32) (wnp pnp : Nat), (lvp ≤ 8) ∧ (wnp < 256) ∧ (pnp < 256) ∧ u = [(oX7 x x0 x1 x2 x3 x4 x5), (oX4 x1 x0 s1 s2 (nI pnp) si4p s5 s6 s7 s8 s9 s10 s11 si12p si13p), (oX0 x0 b0 b1 b2 b3 b4 b5 b6 b7 b8 b9 b10 b11 (nI np) (nI nl) bi14), (oX6 s1 w0 w1 w2 w3 w4 (nI wnp) wi6p (nI lvp) w8), (oX2 s2 d0 d1 d2), (aIc cI b0 8 B0), (aIc cI b1 8 B1), (aIc cI b2 8 B2), (aIc cI b3 8 B3), (aIc cI b4 8 B4), (aIc cI b6 8 B6), (aIc cI b8 64 B8), (aIc cI b10 10 B10), (aIc cI b11 10 B11), (aIc cI s5 8 S5p), (aIc cI s6 8 S6p), (aIc cI s7 8 S7p), (aIc cI s8 8 S8p), (aIc cI s9 8 S9p), (aIc cI s10 8 S10p), (aIc cI s11 8 S11p), (aIc cI w0 8 W0p), (aIc cI w1 8 W1p), (aIc cI w2 8 W2p), (aIc cI w3 8 W3p), (aIc cI w4 8 W4p), (aIc cI w8 8 W8p), (aIc cI d0 8 D0p), (aIc cI d1 8 D1p), (aJc cJ d2 8 D2p), (aIc cI b5 8 B5)])) (by decide) rfl (Nat.le_of_ble_eq_true rfl) ?_
  intro p e s m below meth c A ls hx hb hr hml hts hown hlk hnm hsz hE hP hD hS hA hl
  have hown : s.vm.findClass RX7 = some m.cls := hown
  have hiX7 : ∀ w ∈ u_ws RX7 TX7 6, w ∈ wtX7_broke := fun w h => List.mem_cons_of_mem _ (iuX7 w h)
  have hiX4 : ∀ w ∈ u_ws RX4 TX4 14, w ∈ wtX7_broke := fun w h => List.mem_cons_of_mem _ (iuX4 w h)
  have hiX2 : ∀ w ∈ u_ws RX2 TX2 3, w ∈ wtX7_broke := fun w h => List.mem_cons_of_mem _ (iuX2 w h)
  have hl : lv_has ls 5 [(0, .ref x), (1, .int p0), (2, .int p1), (3, .int p2)] := hl
  refine lv_aload_n hx hb dX7_broke_0 rfl (lv_at hl 0 rfl) ?_
  refine lv_iload_n hx hb dX7_broke_1 rfl (lv_at hl 1 rfl) ?_
  refine k_iS (va_runV (As := [.int p0]) (rest := []) ⟨hx, hb, hml, hown, hts⟩ (m_X7_isLoss l D cI cJ (s.heap).size x x0 x1 x2 x3 x4 x5 b0 b1 b2 b3 b4 b5 b6 b7 b8 b9 b10 b11 (nI np) (nI nl) bi14 p0) (cwV 1 hts gX7_broke_X7_isLoss rfl rfl rfl (by decide +kernel) ⟨Nat.le_of_ble_eq_true rfl, Nat.le_of_ble_eq_true rfl⟩) (k_preV hE hP hD [0, 2] (by decide +kernel) rfl 0 rfl rfl) rfl rfl hl.1 rfl (lv_room (Nat.le_of_ble_eq_true rfl)) dX7_broke_2 ⟨Nat.le_of_ble_eq_true rfl, Nat.le_of_ble_eq_true rfl⟩) hP hD hS hA [0, 2] rfl (fun _ _ h9 => h9.2) (fun r1 H locs hw2 hP hD hS => ?_)
  obtain ⟨hw2, -⟩ := hw2
  refine lv_if_eq (tgt := 24) hx hb dX7_broke_5 (by decide) (fun c3 => ?_) (fun c3 => ?_)
  · skip
    have hc3 : ¬ (0 ≤ p0 ∧ p0 ≤ (nI nl) - 1) := bz_0 hw2 c3
    refine lv_iconst (v := (-1)) hx hb dX7_broke_24 (by decide) ?_
    refine k_iret (u := [(oX7 x x0 x1 x2 x3 x4 x5), (oX4 x1 x0 s1 s2 (nI pn) si4 s5 s6 s7 s8 s9 s10 s11 si12 si13), (oX0 x0 b0 b1 b2 b3 b4 b5 b6 b7 b8 b9 b10 b11 (nI np) (nI nl) bi14), (oX6 s1 w0 w1 w2 w3 w4 (nI wn) wi6 (nI lv) w8), (oX2 s2 d0 d1 d2), (aIc cI b0 8 B0), (aIc cI b1 8 B1), (aIc cI b2 8 B2), (aIc cI b3 8 B3), (aIc cI b4 8 B4), (aIc cI b6 8 B6), (aIc cI b8 64 B8), (aIc cI b10 10 B10), (aIc cI b11 10 B11), (aIc cI s5 8 S5), (aIc cI s6 8 S6), (aIc cI s7 8 S7), (aIc cI s8 8 S8), (aIc cI s9 8 S9), (aIc cI s10 8 S10), (aIc cI s11 8 S11), (aIc cI w0 8 W0), (aIc cI w1 8 W1), (aIc cI w2 8 W2), (aIc cI w3 8 W3), (aIc cI w4 8 W4), (aIc cI w8 8 W8), (aIc cI d0 8 D0), (aIc cI d1 8 D1), (aJc cJ d2 8 D2), (aIc cI b5 8 B5)]) hx hb hr hlk hP hD hS dX7_broke_25 ?_
    exact ⟨S5, S6, S7, S8, S9, S10, S11, W1, W2, W3, W4, W8, D0, D1, D2, si12, si13, wi6, lv, W0, si4, wn, pn, (by omega), (by omega), (by first | omega | exact ev_lt hnp), rfl⟩
  · skip
    have hc3 : 0 ≤ p0 ∧ p0 ≤ (nI nl) - 1 := bz_1 hw2 c3
    refine lv_aload_n hx hb dX7_broke_8 rfl (lv_at hl 0 rfl) ?_
    refine lv_iload_n hx hb dX7_broke_9 rfl (lv_at hl 3 rfl) ?_
    refine k_iS (va_runV (As := [.int p2]) (rest := []) ⟨hx, hb, hml, hown, hts⟩ (m_X7_isPolicyOrNone l D cI cJ H.size x x0 x1 x2 x3 x4 x5 b0 b1 b2 b3 b4 b5 b6 b7 b8 b9 b10 b11 (nI np) (nI nl) bi14 p2) (cwV 1 hts gX7_broke_X7_isPolicyOrNone rfl rfl rfl (by decide +kernel) ⟨Nat.le_of_ble_eq_true rfl, Nat.le_of_ble_eq_true rfl⟩) (k_preV hE hP hD [0, 2] (by decide +kernel) rfl 0 rfl rfl) rfl rfl hl.1 rfl (lv_room (Nat.le_of_ble_eq_true rfl)) dX7_broke_10 ⟨Nat.le_of_ble_eq_true rfl, Nat.le_of_ble_eq_true rfl⟩) hP hD hS hA [0, 2] rfl (fun _ _ h9 => h9.2) (fun r4 H locs hw5 hP hD hS => ?_)
    obtain ⟨hw5, -⟩ := hw5
    refine lv_if_eq (tgt := 24) hx hb dX7_broke_13 (by decide) (fun c6 => ?_) (fun c6 => ?_)
    · skip
      have hc6 : ¬ (p2 = (-1) ∨ (0 ≤ p2 ∧ p2 ≤ (nI np) - 1)) := bz_0 hw5 c6
      refine lv_iconst (v := (-1)) hx hb dX7_broke_24 (by decide) ?_
      refine k_iret (u := [(oX7 x x0 x1 x2 x3 x4 x5), (oX4 x1 x0 s1 s2 (nI pn) si4 s5 s6 s7 s8 s9 s10 s11 si12 si13), (oX0 x0 b0 b1 b2 b3 b4 b5 b6 b7 b8 b9 b10 b11 (nI np) (nI nl) bi14), (oX6 s1 w0 w1 w2 w3 w4 (nI wn) wi6 (nI lv) w8), (oX2 s2 d0 d1 d2), (aIc cI b0 8 B0), (aIc cI b1 8 B1), (aIc cI b2 8 B2), (aIc cI b3 8 B3), (aIc cI b4 8 B4), (aIc cI b6 8 B6), (aIc cI b8 64 B8), (aIc cI b10 10 B10), (aIc cI b11 10 B11), (aIc cI s5 8 S5), (aIc cI s6 8 S6), (aIc cI s7 8 S7), (aIc cI s8 8 S8), (aIc cI s9 8 S9), (aIc cI s10 8 S10), (aIc cI s11 8 S11), (aIc cI w0 8 W0), (aIc cI w1 8 W1), (aIc cI w2 8 W2), (aIc cI w3 8 W3), (aIc cI w4 8 W4), (aIc cI w8 8 W8), (aIc cI d0 8 D0), (aIc cI d1 8 D1), (aJc cJ d2 8 D2), (aIc cI b5 8 B5)]) hx hb hr hlk hP hD hS dX7_broke_25 ?_
      exact ⟨S5, S6, S7, S8, S9, S10, S11, W1, W2, W3, W4, W8, D0, D1, D2, si12, si13, wi6, lv, W0, si4, wn, pn, (by omega), (by omega), (by first | omega | exact ev_lt hnp), rfl⟩
    · skip
      have hc6 : p2 = (-1) ∨ (0 ≤ p2 ∧ p2 ≤ (nI np) - 1) := bz_1 hw5 c6
      refine lv_aload_n hx hb dX7_broke_16 rfl (lv_at hl 0 rfl) ?_
      refine lv_iload_n hx hb dX7_broke_17 rfl (lv_at hl 2 rfl) ?_
      refine k_iS (va_runV (As := [.int p1]) (rest := []) ⟨hx, hb, hml, hown, hts⟩ (m_X7_isSet l D cI cJ H.size x x0 x1 x2 x3 x4 x5 b0 b1 b2 b3 b4 b5 b6 b7 b8 b9 b10 b11 np nl bi14 p1 (by omega)) (cwV 1 hts gX7_broke_X7_isSet rfl rfl rfl (by decide +kernel) ⟨Nat.le_of_ble_eq_true rfl, Nat.le_of_ble_eq_true rfl⟩) (k_preV hE hP hD [0, 2] (by decide +kernel) rfl 0 rfl rfl) rfl rfl hl.1 rfl (lv_room (Nat.le_of_ble_eq_true rfl)) dX7_broke_18 ⟨Nat.le_of_ble_eq_true rfl, Nat.le_of_ble_eq_true rfl⟩) hP hD hS hA [0, 2] rfl (fun _ _ ⟨_, h9⟩ => h9) (fun r7 H locs hw8 hP hD hS => ?_)
      obtain ⟨hb9, -⟩ := hw8
      refine lv_if_ne (tgt := 26) hx hb dX7_broke_21 (by decide) (fun c10 => ?_) (fun c10 => ?_)
      · skip
        have hc10 : 0 ≤ p1 ∧ p1 ≤ nI (2 ^ np - 1) := bz_1 hb9 c10
        obtain ⟨lj, hlj, elj⟩ := wi_n (by omega) hc3
        rw [elj] at hl
        refine lv_aload_n hx hb dX7_broke_26 rfl (lv_at hl 0 rfl) ?_
        refine lv_iload_n hx hb dX7_broke_27 rfl (lv_at hl 1 rfl) ?_
        refine k_v (va_runV (As := [.int (nI lj)]) (rest := []) ⟨hx, hb, hml, hown, hts⟩ (m_X7_settle l D cI cJ H.size x x0 x1 x2 x3 x4 x5 s1 s2 s5 s6 s7 s8 s9 s10 s11 b0 b1 b2 b3 b4 b5 b6 b7 b8 b9 b10 b11 w0 w1 w2 w3 w4 w8 d0 d1 d2 wn lv np nl pn si4 si12 si13 bi14 wi6 (nI lj) B0 B1 B2 B3 B4 B6 B8 B10 B11 S5 S6 S7 S8 S9 S10 S11 W0 W1 W2 W3 W4 W8 D0 D1 D2 B5 (by omega) (by omega) (by omega) (by omega) (by omega) (by omega)) (cwV 1 hts gX7_broke_X7_settle rfl rfl rfl (by decide +kernel) ⟨Nat.le_of_ble_eq_true rfl, Nat.le_of_ble_eq_true rfl⟩) (k_preV hE hP hD [0, 1, 2, 3, 4, 5, 6, 7, 8, 9, 10, 11, 12, 13, 14, 15, 16, 17, 18, 19, 20, 21, 22, 23, 24, 25, 26, 27, 28, 29, 30] (by decide +kernel) rfl 0 rfl rfl) rfl rfl hl.1 rfl (lv_room (Nat.le_of_ble_eq_true rfl)) dX7_broke_28 ⟨Nat.le_of_ble_eq_true rfl, Nat.le_of_ble_eq_true rfl⟩) hP hD hS hA [0, 1, 2, 3, 4, 5, 6, 7, 8, 9, 10, 11, 12, 13, 14, 15, 16, 17, 18, 19, 20, 21, 22, 23, 24, 25, 26, 27, 28, 29, 30] [] rfl (wr := []) rfl (by decide +kernel) (by decide +kernel) (fun u H locs hw11 hP hD hS => ?_)
        obtain ⟨z12, z13, z14, z15, z16, z17, z18, z19, z20, z21, z22, z23, z24, z25, z26, z27, z28, z29, z30, z31, z32, z33, z34, hz35, hz36, hz37, rfl⟩ := hw11
        refine k_re (w := [(oX7 x x0 x1 x2 x3 x4 x5), (oX4 x1 x0 s1 s2 (nI z34) z32 s5 s6 s7 s8 s9 s10 s11 z27 z28), (oX0 x0 b0 b1 b2 b3 b4 b5 b6 b7 b8 b9 b10 b11 (nI np) (nI nl) bi14), (oX6 s1 w0 w1 w2 w3 w4 (nI z33) z29 (nI z30) w8), (oX2 s2 d0 d1 d2), (aIc cI b0 8 B0), (aIc cI b1 8 B1), (aIc cI b2 8 B2), (aIc cI b3 8 B3), (aIc cI b4 8 B4), (aIc cI b6 8 B6), (aIc cI b8 64 B8), (aIc cI b10 10 B10), (aIc cI b11 10 B11), (aIc cI s5 8 z12), (aIc cI s6 8 z13), (aIc cI s7 8 z14), (aIc cI s8 8 z15), (aIc cI s9 8 z16), (aIc cI s10 8 z17), (aIc cI s11 8 z18), (aIc cI w0 8 z31), (aIc cI w1 8 z19), (aIc cI w2 8 z20), (aIc cI w3 8 z21), (aIc cI w4 8 z22), (aIc cI w8 8 z23), (aIc cI d0 8 z24), (aIc cI d1 8 z25), (aJc cJ d2 8 z26), (aIc cI b5 8 B5)]) hP hD (fun hP hD => ?_)
        refine lv_aload_n hx hb dX7_broke_31 rfl (lv_at hl 0 rfl) ?_
        refine va_get (D := D) (ci := 7) (v := .ref x1) (C := RX7) (T := TX7) (N := 6) hx hb hts hiX7 hown hE.1 hP 0 rfl rfl 1 (by decide) (hts _ (List.mem_cons_of_mem _ wd_17)) (fun _ h9 => h9) rfl dX7_broke_32 ?_
        refine lv_iload_n hx hb dX7_broke_35 rfl (lv_at hl 2 rfl) ?_
        refine k_i (va_runV (As := [.int p1]) (rest := []) ⟨hx, hb, hml, hown, hts⟩ (m_X4_makeGood l D cI cJ H.size x1 x0 s1 s2 s5 s6 s7 s8 s9 s10 s11 b0 b1 b2 b3 b4 b5 b6 b7 b8 b9 b10 b11 d0 d1 d2 np nl z34 z32 z27 z28 bi14 p1 B5 z15 z17 z24 z25 z26) (cwV 1 hts gX7_broke_X4_makeGood rfl rfl rfl (by decide +kernel) ⟨Nat.le_of_ble_eq_true rfl, Nat.le_of_ble_eq_true rfl⟩) (k_preV hE hP hD [1, 2, 4, 30, 17, 19, 27, 28, 29] (by decide +kernel) rfl 1 rfl rfl) rfl rfl hl.1 rfl (lv_room (Nat.le_of_ble_eq_true rfl)) dX7_broke_36 ⟨Nat.le_of_ble_eq_true rfl, Nat.le_of_ble_eq_true rfl⟩) hP hD hS hA [1, 2, 4, 30, 17, 19, 27, 28, 29] [0, 3, 5, 6, 7, 8, 9, 10, 11, 12, 13, 14, 15, 16, 18, 20, 21, 22, 23, 24, 25, 26] rfl (wr := [(oX7 x x0 x1 x2 x3 x4 x5), (oX6 s1 w0 w1 w2 w3 w4 (nI z33) z29 (nI z30) w8), (aIc cI b0 8 B0), (aIc cI b1 8 B1), (aIc cI b2 8 B2), (aIc cI b3 8 B3), (aIc cI b4 8 B4), (aIc cI b6 8 B6), (aIc cI b8 64 B8), (aIc cI b10 10 B10), (aIc cI b11 10 B11), (aIc cI s5 8 z12), (aIc cI s6 8 z13), (aIc cI s7 8 z14), (aIc cI s9 8 z16), (aIc cI s11 8 z18), (aIc cI w0 8 z31), (aIc cI w1 8 z19), (aIc cI w2 8 z20), (aIc cI w3 8 z21), (aIc cI w4 8 z22), (aIc cI w8 8 z23)]) rfl (by decide +kernel) (by decide +kernel) (fun r38 u H locs hw39 hP hD hS => ?_)
        obtain ⟨z40, z41, z42, rfl⟩ := hw39
        refine k_re (w := [(oX7 x x0 x1 x2 x3 x4 x5), (oX6 s1 w0 w1 w2 w3 w4 (nI z33) z29 (nI z30) w8), (aIc cI b0 8 B0), (aIc cI b1 8 B1), (aIc cI b2 8 B2), (aIc cI b3 8 B3), (aIc cI b4 8 B4), (aIc cI b6 8 B6), (aIc cI b8 64 B8), (aIc cI b10 10 B10), (aIc cI b11 10 B11), (aIc cI s5 8 z12), (aIc cI s6 8 z13), (aIc cI s7 8 z14), (aIc cI s9 8 z16), (aIc cI s11 8 z18), (aIc cI w0 8 z31), (aIc cI w1 8 z19), (aIc cI w2 8 z20), (aIc cI w3 8 z21), (aIc cI w4 8 z22), (aIc cI w8 8 z23), (oX4 x1 x0 s1 s2 (nI z34) z32 s5 s6 s7 s8 s9 s10 s11 z27 z28), (oX0 x0 b0 b1 b2 b3 b4 b5 b6 b7 b8 b9 b10 b11 (nI np) (nI nl) bi14), (oX2 s2 d0 d1 d2), (aIc cI b5 8 B5), (aIc cI s8 8 z15), (aIc cI s10 8 z17), (aIc cI d0 8 z40), (aIc cI d1 8 z41), (aJc cJ d2 8 z42)]) hP hD (fun hP hD => ?_)
        refine lv_istore (lv' := [(4, .int r38), (0, .ref x), (1, .int (nI lj)), (2, .int p1), (3, .int p2)]) hx hb dX7_broke_39 hl (by decide) rfl (fun ls hl => ?_)
        refine lv_iload_n hx hb dX7_broke_41 rfl (lv_at hl 4 rfl) ?_
        refine lv_iconst (v := (-1)) hx hb dX7_broke_42 (by decide) ?_
        refine lv_icmp_ne (tgt := 49) hx hb dX7_broke_43 (by decide) (fun c43 => ?_) (fun c43 => ?_)
        · skip
          obtain ⟨pj, hpj, epj⟩ := wi_n (by omega) (hc6.resolve_left c43)
          rw [epj] at hl
          refine lv_iload_n hx hb dX7_broke_49 rfl (lv_at hl 3 rfl) ?_
          refine lv_iload_n hx hb dX7_broke_50 rfl (lv_at hl 4 rfl) ?_
          refine k_iS (va_runS (As := [.int p1, .int (nI pj)]) (rest := []) ⟨hx, hb, hml, hown, hts⟩ (m_X7_has l D cI cJ H.size p1 (nI pj)) (va_cwS 2 hts gX7_broke_X7_has rfl rfl rfl (by decide +kernel) ⟨Nat.le_of_ble_eq_true rfl, Nat.le_of_ble_eq_true rfl⟩) (k_pre hE hP hD [] (by decide +kernel) rfl) rfl rfl hl.1 rfl (lv_room (Nat.le_of_ble_eq_true rfl)) dX7_broke_51 ⟨Nat.le_of_ble_eq_true rfl, Nat.le_of_ble_eq_true rfl⟩) hP hD hS hA [] rfl (fun _ _ h9 => h9.2) (fun r44 H locs hw45 hP hD hS => ?_)
          obtain ⟨hw45, -⟩ := hw45
          refine lv_if_eq (tgt := 61) hx hb dX7_broke_54 (by decide) (fun c46 => ?_) (fun c46 => ?_)
          · skip
            have hc46 : ¬ (¬ (p1 >>> ((nI pj) &&& 31)) &&& 1 = 0) := bz_0 hw45 c46
            refine lv_aload_n hx hb dX7_broke_61 rfl (lv_at hl 1 rfl) ?_
            refine va_get (D := D) (ci := 7) (v := .ref x1) (C := RX7) (T := TX7) (N := 6) hx hb hts hiX7 hown hE.1 hP 0 rfl rfl 1 (by decide) (hts _ (List.mem_cons_of_mem _ wd_17)) (fun _ h9 => h9) rfl dX7_broke_62 ?_
            refine va_get (D := D) (ci := 4) (v := .ref s10) (C := RX4) (T := TX4) (N := 14) hx hb hts hiX4 hown hE.1 hP 22 rfl rfl 10 (by decide) (hts _ (List.mem_cons_of_mem _ wd_583)) (fun _ h9 => h9) rfl dX7_broke_65 ?_
            refine lv_iload_n hx hb dX7_broke_68 rfl (lv_at hl 4 rfl) ?_
            refine va_iald hx hb hE.1 hP 27 0 rfl rfl (vp_in_nI (n := pj) (by omega) (by decide)) dX7_broke_69 ?_
            refine lv_topi (fun v47 ev47 => ?_)
            refine lv_aload_n hx hb dX7_broke_70 rfl (lv_at hl 1 rfl) ?_
            refine va_get (D := D) (ci := 7) (v := .ref x1) (C := RX7) (T := TX7) (N := 6) hx hb hts hiX7 hown hE.1 hP 0 rfl rfl 1 (by decide) (hts _ (List.mem_cons_of_mem _ wd_17)) (fun _ h9 => h9) rfl dX7_broke_71 ?_
            refine va_get (D := D) (ci := 4) (v := .ref s2) (C := RX4) (T := TX4) (N := 14) hx hb hts hiX4 hown hE.1 hP 22 rfl rfl 2 (by decide) (hts _ (List.mem_cons_of_mem _ wd_803)) (fun _ h9 => h9) rfl dX7_broke_74 ?_
            refine va_get (D := D) (ci := 2) (v := .ref d1) (C := RX2) (T := TX2) (N := 3) hx hb hts hiX2 hown hE.1 hP 24 rfl rfl 1 (by decide) (hts _ (List.mem_cons_of_mem _ wd_804)) (fun _ h9 => h9) rfl dX7_broke_77 ?_
            refine lv_iload_n hx hb dX7_broke_80 rfl (lv_at hl 4 rfl) ?_
            refine va_iald hx hb hE.1 hP 29 0 rfl rfl (vp_in_nI (n := pj) (by omega) (by decide)) dX7_broke_81 ?_
            refine lv_topi (fun v48 ev48 => ?_)
            refine lv_iadd hx hb dX7_broke_82 ?_
            refine lv_topi (fun v49 ev49 => ?_)
            refine k_iret (u := [(oX7 x x0 x1 x2 x3 x4 x5), (oX4 x1 x0 s1 s2 (nI z34) z32 s5 s6 s7 s8 s9 s10 s11 z27 z28), (oX0 x0 b0 b1 b2 b3 b4 b5 b6 b7 b8 b9 b10 b11 (nI np) (nI nl) bi14), (oX6 s1 w0 w1 w2 w3 w4 (nI z33) z29 (nI z30) w8), (oX2 s2 d0 d1 d2), (aIc cI b0 8 B0), (aIc cI b1 8 B1), (aIc cI b2 8 B2), (aIc cI b3 8 B3), (aIc cI b4 8 B4), (aIc cI b6 8 B6), (aIc cI b8 64 B8), (aIc cI b10 10 B10), (aIc cI b11 10 B11), (aIc cI s5 8 z12), (aIc cI s6 8 z13), (aIc cI s7 8 z14), (aIc cI s8 8 z15), (aIc cI s9 8 z16), (aIc cI s10 8 z17), (aIc cI s11 8 z18), (aIc cI w0 8 z31), (aIc cI w1 8 z19), (aIc cI w2 8 z20), (aIc cI w3 8 z21), (aIc cI w4 8 z22), (aIc cI w8 8 z23), (aIc cI d0 8 z40), (aIc cI d1 8 z41), (aJc cJ d2 8 z42), (aIc cI b5 8 B5)]) hx hb hr hlk (k_sub hP [0, 22, 23, 1, 24, 2, 3, 4, 5, 6, 7, 8, 9, 10, 11, 12, 13, 26, 14, 27, 15, 16, 17, 18, 19, 20, 21, 28, 29, 30, 25] rfl) (hD.sub [0, 22, 23, 1, 24, 2, 3, 4, 5, 6, 7, 8, 9, 10, 11, 12, 13, 26, 14, 27, 15, 16, 17, 18, 19, 20, 21, 28, 29, 30, 25] (by decide +kernel) rfl) hS dX7_broke_83 ?_
            exact ⟨z12, z13, z14, z15, z16, z17, z18, z19, z20, z21, z22, z23, z40, z41, z42, z27, z28, z29, z30, z31, z32, z33, z34, (by omega), (by omega), (by first | omega | exact ev_lt hnp), rfl⟩
          · skip
            have hc46 : ¬ (p1 >>> ((nI pj) &&& 31)) &&& 1 = 0 := bz_1 hw45 c46
            refine lv_iconst (v := 0) hx hb dX7_broke_57 (by decide) ?_
            refine lv_goto (tgt := 83) hx hb dX7_broke_58 (by decide) ?_
            refine k_iret (u := [(oX7 x x0 x1 x2 x3 x4 x5), (oX4 x1 x0 s1 s2 (nI z34) z32 s5 s6 s7 s8 s9 s10 s11 z27 z28), (oX0 x0 b0 b1 b2 b3 b4 b5 b6 b7 b8 b9 b10 b11 (nI np) (nI nl) bi14), (oX6 s1 w0 w1 w2 w3 w4 (nI z33) z29 (nI z30) w8), (oX2 s2 d0 d1 d2), (aIc cI b0 8 B0), (aIc cI b1 8 B1), (aIc cI b2 8 B2), (aIc cI b3 8 B3), (aIc cI b4 8 B4), (aIc cI b6 8 B6), (aIc cI b8 64 B8), (aIc cI b10 10 B10), (aIc cI b11 10 B11), (aIc cI s5 8 z12), (aIc cI s6 8 z13), (aIc cI s7 8 z14), (aIc cI s8 8 z15), (aIc cI s9 8 z16), (aIc cI s10 8 z17), (aIc cI s11 8 z18), (aIc cI w0 8 z31), (aIc cI w1 8 z19), (aIc cI w2 8 z20), (aIc cI w3 8 z21), (aIc cI w4 8 z22), (aIc cI w8 8 z23), (aIc cI d0 8 z40), (aIc cI d1 8 z41), (aJc cJ d2 8 z42), (aIc cI b5 8 B5)]) hx hb hr hlk (k_sub hP [0, 22, 23, 1, 24, 2, 3, 4, 5, 6, 7, 8, 9, 10, 11, 12, 13, 26, 14, 27, 15, 16, 17, 18, 19, 20, 21, 28, 29, 30, 25] rfl) (hD.sub [0, 22, 23, 1, 24, 2, 3, 4, 5, 6, 7, 8, 9, 10, 11, 12, 13, 26, 14, 27, 15, 16, 17, 18, 19, 20, 21, 28, 29, 30, 25] (by decide +kernel) rfl) hS dX7_broke_83 ?_
            exact ⟨z12, z13, z14, z15, z16, z17, z18, z19, z20, z21, z22, z23, z40, z41, z42, z27, z28, z29, z30, z31, z32, z33, z34, (by omega), (by omega), (by first | omega | exact ev_lt hnp), rfl⟩
        · skip
          refine lv_iload hx hb dX7_broke_46 (lv_at hl 0 rfl) ?_
          refine k_iret (u := [(oX7 x x0 x1 x2 x3 x4 x5), (oX4 x1 x0 s1 s2 (nI z34) z32 s5 s6 s7 s8 s9 s10 s11 z27 z28), (oX0 x0 b0 b1 b2 b3 b4 b5 b6 b7 b8 b9 b10 b11 (nI np) (nI nl) bi14), (oX6 s1 w0 w1 w2 w3 w4 (nI z33) z29 (nI z30) w8), (oX2 s2 d0 d1 d2), (aIc cI b0 8 B0), (aIc cI b1 8 B1), (aIc cI b2 8 B2), (aIc cI b3 8 B3), (aIc cI b4 8 B4), (aIc cI b6 8 B6), (aIc cI b8 64 B8), (aIc cI b10 10 B10), (aIc cI b11 10 B11), (aIc cI s5 8 z12), (aIc cI s6 8 z13), (aIc cI s7 8 z14), (aIc cI s8 8 z15), (aIc cI s9 8 z16), (aIc cI s10 8 z17), (aIc cI s11 8 z18), (aIc cI w0 8 z31), (aIc cI w1 8 z19), (aIc cI w2 8 z20), (aIc cI w3 8 z21), (aIc cI w4 8 z22), (aIc cI w8 8 z23), (aIc cI d0 8 z40), (aIc cI d1 8 z41), (aJc cJ d2 8 z42), (aIc cI b5 8 B5)]) hx hb hr hlk (k_sub hP [0, 22, 23, 1, 24, 2, 3, 4, 5, 6, 7, 8, 9, 10, 11, 12, 13, 26, 14, 27, 15, 16, 17, 18, 19, 20, 21, 28, 29, 30, 25] rfl) (hD.sub [0, 22, 23, 1, 24, 2, 3, 4, 5, 6, 7, 8, 9, 10, 11, 12, 13, 26, 14, 27, 15, 16, 17, 18, 19, 20, 21, 28, 29, 30, 25] (by decide +kernel) rfl) hS dX7_broke_48 ?_
          exact ⟨z12, z13, z14, z15, z16, z17, z18, z19, z20, z21, z22, z23, z40, z41, z42, z27, z28, z29, z30, z31, z32, z33, z34, (by omega), (by omega), (by first | omega | exact ev_lt hnp), rfl⟩
      · skip
        have hc10 : ¬ (0 ≤ p1 ∧ p1 ≤ nI (2 ^ np - 1)) := bz_0 hb9 c10
        refine lv_iconst (v := (-1)) hx hb dX7_broke_24 (by decide) ?_
        refine k_iret (u := [(oX7 x x0 x1 x2 x3 x4 x5), (oX4 x1 x0 s1 s2 (nI pn) si4 s5 s6 s7 s8 s9 s10 s11 si12 si13), (oX0 x0 b0 b1 b2 b3 b4 b5 b6 b7 b8 b9 b10 b11 (nI np) (nI nl) bi14), (oX6 s1 w0 w1 w2 w3 w4 (nI wn) wi6 (nI lv) w8), (oX2 s2 d0 d1 d2), (aIc cI b0 8 B0), (aIc cI b1 8 B1), (aIc cI b2 8 B2), (aIc cI b3 8 B3), (aIc cI b4 8 B4), (aIc cI b6 8 B6), (aIc cI b8 64 B8), (aIc cI b10 10 B10), (aIc cI b11 10 B11), (aIc cI s5 8 S5), (aIc cI s6 8 S6), (aIc cI s7 8 S7), (aIc cI s8 8 S8), (aIc cI s9 8 S9), (aIc cI s10 8 S10), (aIc cI s11 8 S11), (aIc cI w0 8 W0), (aIc cI w1 8 W1), (aIc cI w2 8 W2), (aIc cI w3 8 W3), (aIc cI w4 8 W4), (aIc cI w8 8 W8), (aIc cI d0 8 D0), (aIc cI d1 8 D1), (aJc cJ d2 8 D2), (aIc cI b5 8 B5)]) hx hb hr hlk hP hD hS dX7_broke_25 ?_
        exact ⟨S5, S6, S7, S8, S9, S10, S11, W1, W2, W3, W4, W8, D0, D1, D2, si12, si13, wi6, lv, W0, si4, wn, pn, (by omega), (by omega), (by first | omega | exact ev_lt hnp), rfl⟩
theorem dX7_moved_0 : decode cX7_moved 0 = .ok (.aload_n 0, 1) := by decide +kernel
theorem dX7_moved_1 : decode cX7_moved 1 = .ok (.iload_n 1, 1) := by decide +kernel
theorem dX7_moved_2 : decode cX7_moved 2 = .ok (.invokevirtual 137, 3) := by decide +kernel
theorem dX7_moved_5 : decode cX7_moved 5 = .ok (.ifCond .eq 18, 3) := by decide +kernel
theorem dX7_moved_8 : decode cX7_moved 8 = .ok (.aload_n 0, 1) := by decide +kernel
theorem dX7_moved_9 : decode cX7_moved 9 = .ok (.iload_n 2, 1) := by decide +kernel
theorem dX7_moved_10 : decode cX7_moved 10 = .ok (.invokevirtual 74, 3) := by decide +kernel
theorem dX7_moved_13 : decode cX7_moved 13 = .ok (.ifCond .eq 10, 3) := by decide +kernel
theorem dX7_moved_16 : decode cX7_moved 16 = .ok (.iload_n 3, 1) := by decide +kernel
theorem dX7_moved_17 : decode cX7_moved 17 = .ok (.invokestatic 78, 3) := by decide +kernel
theorem dX7_moved_20 : decode cX7_moved 20 = .ok (.ifCond .ne 5, 3) := by decide +kernel
theorem dX7_moved_23 : decode cX7_moved 23 = .ok (.iconst (-1), 1) := by decide +kernel
theorem dX7_moved_24 : decode cX7_moved 24 = .ok (.ireturn, 1) := by decide +kernel
theorem dX7_moved_25 : decode cX7_moved 25 = .ok (.aload_n 0, 1) := by decide +kernel
theorem dX7_moved_26 : decode cX7_moved 26 = .ok (.iload_n 1, 1) := by decide +kernel
theorem dX7_moved_27 : decode cX7_moved 27 = .ok (.invokevirtual 140, 3) := by decide +kernel
theorem dX7_moved_30 : decode cX7_moved 30 = .ok (.aload_n 0, 1) := by decide +kernel
theorem dX7_moved_31 : decode cX7_moved 31 = .ok (.getfield 10, 3) := by decide +kernel
theorem dX7_moved_34 : decode cX7_moved 34 = .ok (.getfield 180, 3) := by decide +kernel
theorem dX7_moved_37 : decode cX7_moved 37 = .ok (.iconst 0, 1) := by decide +kernel
theorem dX7_moved_38 : decode cX7_moved 38 = .ok (.aload_n 0, 1) := by decide +kernel
theorem dX7_moved_39 : decode cX7_moved 39 = .ok (.getfield 42, 3) := by decide +kernel
theorem dX7_moved_42 : decode cX7_moved 42 = .ok (.iconst 0, 1) := by decide +kernel
theorem dX7_moved_43 : decode cX7_moved 43 = .ok (.bipush 8, 2) := by decide +kernel
theorem dX7_moved_45 : decode cX7_moved 45 = .ok (.invokestatic 318, 3) := by decide +kernel
theorem dX7_moved_48 : decode cX7_moved 48 = .ok (.aload_n 0, 1) := by decide +kernel
theorem dX7_moved_49 : decode cX7_moved 49 = .ok (.getfield 10, 3) := by decide +kernel
theorem dX7_moved_52 : decode cX7_moved 52 = .ok (.invokevirtual 287, 3) := by decide +kernel
theorem dX7_moved_55 : decode cX7_moved 55 = .ok (.aload_n 0, 1) := by decide +kernel
theorem dX7_moved_56 : decode cX7_moved 56 = .ok (.getfield 10, 3) := by decide +kernel
theorem dX7_moved_59 : decode cX7_moved 59 = .ok (.getfield 144, 3) := by decide +kernel
theorem dX7_moved_62 : decode cX7_moved 62 = .ok (.getfield 324, 3) := by decide +kernel
theorem dX7_moved_65 : decode cX7_moved 65 = .ok (.iload_n 2, 1) := by decide +kernel
theorem dX7_moved_66 : decode cX7_moved 66 = .ok (.iload_n 3, 1) := by decide +kernel
theorem dX7_moved_67 : decode cX7_moved 67 = .ok (.iastore, 1) := by decide +kernel
theorem dX7_moved_68 : decode cX7_moved 68 = .ok (.aload_n 0, 1) := by decide +kernel
theorem dX7_moved_69 : decode cX7_moved 69 = .ok (.getfield 10, 3) := by decide +kernel
theorem dX7_moved_72 : decode cX7_moved 72 = .ok (.iload_n 1, 1) := by decide +kernel
theorem dX7_moved_73 : decode cX7_moved 73 = .ok (.invokevirtual 291, 3) := by decide +kernel
theorem dX7_moved_76 : decode cX7_moved 76 = .ok (.iconst 0, 1) := by decide +kernel
theorem dX7_moved_77 : decode cX7_moved 77 = .ok (.istore 4, 2) := by decide +kernel
theorem dX7_moved_79 : decode cX7_moved 79 = .ok (.iconst 0, 1) := by decide +kernel
theorem dX7_moved_80 : decode cX7_moved 80 = .ok (.istore 5, 2) := by decide +kernel
theorem dX7_moved_82 : decode cX7_moved 82 = .ok (.iload 5, 2) := by decide +kernel
theorem dX7_moved_84 : decode cX7_moved 84 = .ok (.bipush 8, 2) := by decide +kernel
theorem dX7_moved_86 : decode cX7_moved 86 = .ok (.if_icmp .ge 32, 3) := by decide +kernel
theorem dX7_moved_89 : decode cX7_moved 89 = .ok (.aload_n 0, 1) := by decide +kernel
theorem dX7_moved_90 : decode cX7_moved 90 = .ok (.getfield 10, 3) := by decide +kernel
theorem dX7_moved_93 : decode cX7_moved 93 = .ok (.getfield 180, 3) := by decide +kernel
theorem dX7_moved_96 : decode cX7_moved 96 = .ok (.iload 5, 2) := by decide +kernel
theorem dX7_moved_98 : decode cX7_moved 98 = .ok (.iaload, 1) := by decide +kernel
theorem dX7_moved_99 : decode cX7_moved 99 = .ok (.aload_n 0, 1) := by decide +kernel
theorem dX7_moved_100 : decode cX7_moved 100 = .ok (.getfield 42, 3) := by decide +kernel
theorem dX7_moved_103 : decode cX7_moved 103 = .ok (.iload 5, 2) := by decide +kernel
theorem dX7_moved_105 : decode cX7_moved 105 = .ok (.iaload, 1) := by decide +kernel
theorem dX7_moved_106 : decode cX7_moved 106 = .ok (.if_icmp .eq 6, 3) := by decide +kernel
theorem dX7_moved_109 : decode cX7_moved 109 = .ok (.iinc 4 1, 3) := by decide +kernel
theorem dX7_moved_112 : decode cX7_moved 112 = .ok (.iinc 5 1, 3) := by decide +kernel
theorem dX7_moved_115 : decode cX7_moved 115 = .ok (.goto (-33), 3) := by decide +kernel
theorem dX7_moved_118 : decode cX7_moved 118 = .ok (.iload 4, 2) := by decide +kernel
theorem dX7_moved_120 : decode cX7_moved 120 = .ok (.ireturn, 1) := by decide +kernel
theorem gX7_moved_X4_asBooked : GoodIn wtX7_moved (wsV RX7 287 RX4 yX4_asBooked wtX4_asBooked) := tb_good (tb_v0 wd_279 wd_280 wd_281 wd_16 wd_282)
theorem gX7_moved_X4_through : GoodIn wtX7_moved (wsV RX7 291 RX4 yX4_through wtX4_through) := tb_good (tb_v0 wd_297 wd_298 wd_299 wd_16 wd_300)
theorem gX7_moved_X7_isKind : GoodIn wtX7_moved (va_wsS RX7 78 yX7_isKind wtX7_isKind) := tb_good (tb_s0 wd_190 wd_191 wd_2 wd_192)
theorem gX7_moved_X7_isLoss : GoodIn wtX7_moved (wsV RX7 137 RX7 yX7_isLoss wtX7_isLoss) := tb_good (tb_v0 wd_519 wd_520 wd_521 wd_2 wd_522)
theorem gX7_moved_X7_isPolicy : GoodIn wtX7_moved (wsV RX7 74 RX7 yX7_isPolicy wtX7_isPolicy) := tb_good (tb_v0 wd_186 wd_187 wd_188 wd_2 wd_189)
theorem gX7_moved_X7_settle : GoodIn wtX7_moved (wsV RX7 140 RX7 yX7_settle wtX7_settle) := tb_good (tb_v0 wd_523 wd_524 wd_525 wd_2 wd_526)
set_option maxHeartbeats 4000000 in
set_option maxRecDepth 100000 in
theorem m_X7_moved (l : Launch) (D : va_G) (cI cJ : ClassId) (sz : Nat) (x x0 x1 x2 x3 x4 x5 s1 s2 s5 s6 s7 s8 s9 s10 s11 b0 b1 b2 b3 b4 b5 b6 b7 b8 b9 b10 b11 w0 w1 w2 w3 w4 w8 d0 d1 d2 wn lv np nl pn : Nat) (si4 si12 si13 bi14 wi6 p0 p1 p2 : Int32) (B0 B1 B2 B3 B4 B6 B8 B10 B11 S5 S6 S7 S8 S9 S10 S11 W0 W1 W2 W3 W4 W8 D0 D1 : Nat → Int32) (D2 : Nat → Int64) (B5 X5 : Nat → Int32) (hwn : wn < 256) (hlv : lv ≤ 8) (hli : ∀ k, k < 10 → ∃ j : Nat, j < 8 ∧ B10 k = nI j) (hnp : np ≤ 8) (hnl : nl ≤ 10) (hpn : pn < 256) : Met l yX7_moved wtX7_moved { frames := 6, cells := 0, slots := 0, locals := 146 } (cPc D cI cJ [.ref x, .int p0, .int p1, .int p2] sz [(oX7 x x0 x1 x2 x3 x4 x5), (oX4 x1 x0 s1 s2 (nI pn) si4 s5 s6 s7 s8 s9 s10 s11 si12 si13), (oX0 x0 b0 b1 b2 b3 b4 b5 b6 b7 b8 b9 b10 b11 (nI np) (nI nl) bi14), (oX6 s1 w0 w1 w2 w3 w4 (nI wn) wi6 (nI lv) w8), (oX2 s2 d0 d1 d2), (aIc cI b0 8 B0), (aIc cI b1 8 B1), (aIc cI b2 8 B2), (aIc cI b3 8 B3), (aIc cI b4 8 B4), (aIc cI b6 8 B6), (aIc cI b8 64 B8), (aIc cI b10 10 B10), (aIc cI b11 10 B11), (aIc cI s5 8 S5), (aIc cI s6 8 S6), (aIc cI s7 8 S7), (aIc cI s8 8 S8), (aIc cI s9 8 S9), (aIc cI s10 8 S10), (aIc cI s11 8 S11), (aIc cI w0 8 W0), (aIc cI w1 8 W1), (aIc cI w2 8 W2), (aIc cI w3 8 W3), (aIc cI w4 8 W4), (aIc cI w8 8 W8), (aIc cI d0 8 D0), (aIc cI d1 8 D1), (aJc cJ d2 8 D2), (aIc cI b5 8 B5), (aIc cI x5 8 X5)]) (cQi D (fun r u => ∃ (S5p S6p S7p S8p S9p S10p S11p W1p W2p W3p W4p W8p D0p D1p : Nat → Int32) (D2p : Nat → Int64) (si12p si13p wi6p : Int32) (lvp : Nat) (W0p : Nat → Int32) (si4p : Int32) (wnp pnp : Nat) (X5p : Nat → Int32), (lvp ≤ 8) ∧ (wnp < 256) ∧ (pnp < 256) ∧ u = [(oX7 x x0 x1 x2 x3 x4 x5), (oX4 x1 x0 s1 s2 (nI pnp) si4p s5 s6 s7 s8 s9 s10 s11 si12p si13p), (oX0 x0 b0 b1 b2 b3 b4 b5 b6 b7 b8 b9 b10 b11 (nI np) (nI nl) bi14), (oX6 s1 w0 w1 w2 w3 w4 (nI wnp) wi6p (nI lvp) w8), (oX2 s2 d0 d1 d2), (aIc cI b0 8 B0), (aIc cI b1 8 B1), (aIc cI b2 8 B2), (aIc cI b3 8 B3), (aIc cI b4 8 B4), (aIc cI b6 8 B6), (aIc cI b8 64 B8), (aIc cI b10 10 B10), (aIc cI b11 10 B11), (aIc cI s5 8 S5p), (aIc cI s6 8 S6p), (aIc cI s7 8 S7p), (aIc cI s8 8 S8p), (aIc cI s9 8 S9p), (aIc cI s10 8 S10p), (aIc cI s11 8 S11p), (aIc cI w0 8 W0p), (aIc cI w1 8 W1p), (aIc cI w2 8 W2p), (aIc cI w3 8 W3p), (aIc cI w4 8 W4p), (aIc cI w8 8 W8p), (aIc cI d0 8 D0p), (aIc cI d1 8 D1p), (aJc cJ d2 8 D2p), (aIc cI b5 8 B5), (aIc cI x5 8 X5p)]) (va_A [(oX7 x x0 x1 x2 x3 x4 x5), (oX4 x1 x0 s1 s2 (nI pn) si4 s5 s6 s7 s8 s9 s10 s11 si12 si13), (oX0 x0 b0 b1 b2 b3 b4 b5 b6 b7 b8 b9 b10 b11 (nI np) (nI nl) bi14), (oX6 s1 w0 w1 w2 w3 w4 (nI wn) wi6 (nI lv) w8), (oX2 s2 d0 d1 d2), (aIc cI b0 8 B0), (aIc cI b1 8 B1), (aIc cI b2 8 B2), (aIc cI b3 8 B3), (aIc cI b4 8 B4), (aIc cI b6 8 B6), (aIc cI b8 64 B8), (aIc cI b10 10 B10), (aIc cI b11 10 B11), (aIc cI s5 8 S5), (aIc cI s6 8 S6), (aIc cI s7 8 S7), (aIc cI s8 8 S8), (aIc cI s9 8 S9), (aIc cI s10 8 S10), (aIc cI s11 8 S11), (aIc cI w0 8 W0), (aIc cI w1 8 W1), (aIc cI w2 8 W2), (aIc cI w3 8 W3), (aIc cI w4 8 W4), (aIc cI w8 8 W8), (aIc cI d0 8 D0), (aIc cI d1 8 D1), (aJc cJ d2 8 D2), (aIc cI b5 8 B5), (aIc cI x5 8 X5)] sz)) 0 0 (va_A [(oX7 x x0 x1 x2 x3 x4 x5), (oX4 x1 x0 s1 s2 (nI pn) si4 s5 s6 s7 s8 s9 s10 s11 si12 si13), (oX0 x0 b0 b1 b2 b3 b4 b5 b6 b7 b8 b9 b10 b11 (nI np) (nI nl) bi14), (oX6 s1 w0 w1 w2 w3 w4 (nI wn) wi6 (nI lv) w8), (oX2 s2 d0 d1 d2), (aIc cI b0 8 B0), (aIc cI b1 8 B1), (aIc cI b2 8 B2), (aIc cI b3 8 B3), (aIc cI b4 8 B4), (aIc cI b6 8 B6), (aIc cI b8 64 B8), (aIc cI b10 10 B10), (aIc cI b11 10 B11), (aIc cI s5 8 S5), (aIc cI s6 8 S6), (aIc cI s7 8 S7), (aIc cI s8 8 S8), (aIc cI s9 8 S9), (aIc cI s10 8 S10), (aIc cI s11 8 S11), (aIc cI w0 8 W0), (aIc cI w1 8 W1), (aIc cI w2 8 W2), (aIc cI w3 8 W3), (aIc cI w4 8 W4), (aIc cI w8 8 W8), (aIc cI d0 8 D0), (aIc cI d1 8 D1), (aJc cJ d2 8 D2), (aIc cI b5 8 B5), (aIc cI x5 8 X5)] sz) := by
  refine k_ofW (Qc := cQi D (fun r u => ∃ (S5p S6p S7p S8p S9p S10p S11p W1p W2p W3p W4p W8p D0p D1p : Nat → Int32) (D2p : Nat → Int64) (si12p si13p wi6p : Int32) (lvp : Nat) (W0p : Nat → Int32) (si4p : Int32) (wnp pnp : Nat) (X5p : Nat → Int32), (lvp ≤ 8) ∧ (wnp < 256) ∧ (pnp < 256) ∧ u = [(oX7 x x0 x1 x2 x3 x4 x5), (oX4 x1 x0 s1 s2 (nI pnp) si4p s5 s6 s7 s8 s9 s10 s11 si12p si13p), (oX0 x0 b0 b1 b2 b3 b4 b5 b6 b7 b8 b9 b10 b11 (nI np) (nI nl) bi14), (oX6 s1 w0 w1 w2 w3 w4 (nI wnp) wi6p (nI lvp) w8), (oX2 s2 d0 d1 d2), (aIc cI b0 8 B0), (aIc cI b1 8 B1), (aIc cI b2 8 B2), (aIc cI b3 8 B3), (aIc cI b4 8 B4), (aIc cI b6 8 B6), (aIc cI b8 64 B8), (aIc cI b10 10 B10), (aIc cI b11 10 B11), (aIc cI s5 8 S5p), (aIc cI s6 8 S6p), (aIc cI s7 8 S7p), (aIc cI s8 8 S8p), (aIc cI s9 8 S9p), (aIc cI s10 8 S10p), (aIc cI s11 8 S11p), (aIc cI w0 8 W0p), (aIc cI w1 8 W1p), (aIc cI w2 8 W2p), (aIc cI w3 8 W3p), (aIc cI w4 8 W4p), (aIc cI w8 8 W8p), (aIc cI d0 8 D0p), (aIc cI d1 8 D1p), (aJc cJ d2 8 D2p), (aIc cI b5 8 B5), (aIc cI x5 8 X5p)])) (by decide) rfl (Nat.le_of_ble_eq_true rfl) ?_
  intro p e s m below meth c A ls hx hb hr hml hts hown hlk hnm hsz hE hP hD hS hA hl
  have hown : s.vm.findClass RX7 = some m.cls := hown
  have hiX7 : ∀ w ∈ u_ws RX7 TX7 6, w ∈ wtX7_moved := fun w h => List.mem_cons_of_mem _ (iuX7 w h)
  have hiX4 : ∀ w ∈ u_ws RX4 TX4 14, w ∈ wtX7_moved := fun w h => List.mem_cons_of_mem _ (iuX4 w h)
  have hiX6 : ∀ w ∈ u_ws RX6 TX6 9, w ∈ wtX7_moved := fun w h => List.mem_cons_of_mem _ (iuX6 w h)
  have hl : lv_has ls 6 [(0, .ref x), (1, .int p0), (2, .int p1), (3, .int p2)] := hl
  refine lv_aload_n hx hb dX7_moved_0 rfl (lv_at hl 0 rfl) ?_
  refine lv_iload_n hx hb dX7_moved_1 rfl (lv_at hl 1 rfl) ?_
  refine k_iS (va_runV (As := [.int p0]) (rest := []) ⟨hx, hb, hml, hown, hts⟩ (m_X7_isLoss l D cI cJ (s.heap).size x x0 x1 x2 x3 x4 x5 b0 b1 b2 b3 b4 b5 b6 b7 b8 b9 b10 b11 (nI np) (nI nl) bi14 p0) (cwV 1 hts gX7_moved_X7_isLoss rfl rfl rfl (by decide +kernel) ⟨Nat.le_of_ble_eq_true rfl, Nat.le_of_ble_eq_true rfl⟩) (k_preV hE hP hD [0, 2] (by decide +kernel) rfl 0 rfl rfl) rfl rfl hl.1 rfl (lv_room (Nat.le_of_ble_eq_true rfl)) dX7_moved_2 ⟨Nat.le_of_ble_eq_true rfl, Nat.le_of_ble_eq_true rfl⟩) hP hD hS hA [0, 2] rfl (fun _ _ h9 => h9.2) (fun r1 H locs hw2 hP hD hS => ?_)
  obtain ⟨hw2, -⟩ := hw2
  refine lv_if_eq (tgt := 23) hx hb dX7_moved_5 (by decide) (fun c3 => ?_) (fun c3 => ?_)
  · skip
    have hc3 : ¬ (0 ≤ p0 ∧ p0 ≤ (nI nl) - 1) := bz_0 hw2 c3
    refine lv_iconst (v := (-1)) hx hb dX7_moved_23 (by decide) ?_
    refine k_iret (u := [(oX7 x x0 x1 x2 x3 x4 x5), (oX4 x1 x0 s1 s2 (nI pn) si4 s5 s6 s7 s8 s9 s10 s11 si12 si13), (oX0 x0 b0 b1 b2 b3 b4 b5 b6 b7 b8 b9 b10 b11 (nI np) (nI nl) bi14), (oX6 s1 w0 w1 w2 w3 w4 (nI wn) wi6 (nI lv) w8), (oX2 s2 d0 d1 d2), (aIc cI b0 8 B0), (aIc cI b1 8 B1), (aIc cI b2 8 B2), (aIc cI b3 8 B3), (aIc cI b4 8 B4), (aIc cI b6 8 B6), (aIc cI b8 64 B8), (aIc cI b10 10 B10), (aIc cI b11 10 B11), (aIc cI s5 8 S5), (aIc cI s6 8 S6), (aIc cI s7 8 S7), (aIc cI s8 8 S8), (aIc cI s9 8 S9), (aIc cI s10 8 S10), (aIc cI s11 8 S11), (aIc cI w0 8 W0), (aIc cI w1 8 W1), (aIc cI w2 8 W2), (aIc cI w3 8 W3), (aIc cI w4 8 W4), (aIc cI w8 8 W8), (aIc cI d0 8 D0), (aIc cI d1 8 D1), (aJc cJ d2 8 D2), (aIc cI b5 8 B5), (aIc cI x5 8 X5)]) hx hb hr hlk hP hD hS dX7_moved_24 ?_
    exact ⟨S5, S6, S7, S8, S9, S10, S11, W1, W2, W3, W4, W8, D0, D1, D2, si12, si13, wi6, lv, W0, si4, wn, pn, X5, (by omega), (by omega), (by first | omega | exact ev_lt hnp), rfl⟩
  · skip
    have hc3 : 0 ≤ p0 ∧ p0 ≤ (nI nl) - 1 := bz_1 hw2 c3
    refine lv_aload_n hx hb dX7_moved_8 rfl (lv_at hl 0 rfl) ?_
    refine lv_iload_n hx hb dX7_moved_9 rfl (lv_at hl 2 rfl) ?_
    refine k_iS (va_runV (As := [.int p1]) (rest := []) ⟨hx, hb, hml, hown, hts⟩ (m_X7_isPolicy l D cI cJ H.size x x0 x1 x2 x3 x4 x5 b0 b1 b2 b3 b4 b5 b6 b7 b8 b9 b10 b11 (nI np) (nI nl) bi14 p1) (cwV 1 hts gX7_moved_X7_isPolicy rfl rfl rfl (by decide +kernel) ⟨Nat.le_of_ble_eq_true rfl, Nat.le_of_ble_eq_true rfl⟩) (k_preV hE hP hD [0, 2] (by decide +kernel) rfl 0 rfl rfl) rfl rfl hl.1 rfl (lv_room (Nat.le_of_ble_eq_true rfl)) dX7_moved_10 ⟨Nat.le_of_ble_eq_true rfl, Nat.le_of_ble_eq_true rfl⟩) hP hD hS hA [0, 2] rfl (fun _ _ h9 => h9.2) (fun r4 H locs hw5 hP hD hS => ?_)
    obtain ⟨hw5, -⟩ := hw5
    refine lv_if_eq (tgt := 23) hx hb dX7_moved_13 (by decide) (fun c6 => ?_) (fun c6 => ?_)
    · skip
      have hc6 : ¬ (0 ≤ p1 ∧ p1 ≤ (nI np) - 1) := bz_0 hw5 c6
      refine lv_iconst (v := (-1)) hx hb dX7_moved_23 (by decide) ?_
      refine k_iret (u := [(oX7 x x0 x1 x2 x3 x4 x5), (oX4 x1 x0 s1 s2 (nI pn) si4 s5 s6 s7 s8 s9 s10 s11 si12 si13), (oX0 x0 b0 b1 b2 b3 b4 b5 b6 b7 b8 b9 b10 b11 (nI np) (nI nl) bi14), (oX6 s1 w0 w1 w2 w3 w4 (nI wn) wi6 (nI lv) w8), (oX2 s2 d0 d1 d2), (aIc cI b0 8 B0), (aIc cI b1 8 B1), (aIc cI b2 8 B2), (aIc cI b3 8 B3), (aIc cI b4 8 B4), (aIc cI b6 8 B6), (aIc cI b8 64 B8), (aIc cI b10 10 B10), (aIc cI b11 10 B11), (aIc cI s5 8 S5), (aIc cI s6 8 S6), (aIc cI s7 8 S7), (aIc cI s8 8 S8), (aIc cI s9 8 S9), (aIc cI s10 8 S10), (aIc cI s11 8 S11), (aIc cI w0 8 W0), (aIc cI w1 8 W1), (aIc cI w2 8 W2), (aIc cI w3 8 W3), (aIc cI w4 8 W4), (aIc cI w8 8 W8), (aIc cI d0 8 D0), (aIc cI d1 8 D1), (aJc cJ d2 8 D2), (aIc cI b5 8 B5), (aIc cI x5 8 X5)]) hx hb hr hlk hP hD hS dX7_moved_24 ?_
      exact ⟨S5, S6, S7, S8, S9, S10, S11, W1, W2, W3, W4, W8, D0, D1, D2, si12, si13, wi6, lv, W0, si4, wn, pn, X5, (by omega), (by omega), (by first | omega | exact ev_lt hnp), rfl⟩
    · skip
      have hc6 : 0 ≤ p1 ∧ p1 ≤ (nI np) - 1 := bz_1 hw5 c6
      refine lv_iload_n hx hb dX7_moved_16 rfl (lv_at hl 3 rfl) ?_
      refine k_iS (va_runS (As := [.int p2]) (rest := []) ⟨hx, hb, hml, hown, hts⟩ (m_X7_isKind l D cI cJ H.size p2) (va_cwS 1 hts gX7_moved_X7_isKind rfl rfl rfl (by decide +kernel) ⟨Nat.le_of_ble_eq_true rfl, Nat.le_of_ble_eq_true rfl⟩) (k_pre hE hP hD [] (by decide +kernel) rfl) rfl rfl hl.1 rfl (lv_room (Nat.le_of_ble_eq_true rfl)) dX7_moved_17 ⟨Nat.le_of_ble_eq_true rfl, Nat.le_of_ble_eq_true rfl⟩) hP hD hS hA [] rfl (fun _ _ h9 => h9.2) (fun r7 H locs hw8 hP hD hS => ?_)
      obtain ⟨hw8, -⟩ := hw8
      refine lv_if_ne (tgt := 25) hx hb dX7_moved_20 (by decide) (fun c9 => ?_) (fun c9 => ?_)
      · skip
        have hc9 : 0 ≤ p2 ∧ p2 ≤ 3 := bz_1 hw8 c9
        obtain ⟨lj, hlj, elj⟩ := wi_n (by omega) hc3
        rw [elj] at hl
        obtain ⟨pj, hpj, epj⟩ := wi_n (by omega) hc6
        rw [epj] at hl
        refine lv_aload_n hx hb dX7_moved_25 rfl (lv_at hl 0 rfl) ?_
        refine lv_iload_n hx hb dX7_moved_26 rfl (lv_at hl 1 rfl) ?_
        refine k_v (va_runV (As := [.int (nI lj)]) (rest := []) ⟨hx, hb, hml, hown, hts⟩ (m_X7_settle l D cI cJ H.size x x0 x1 x2 x3 x4 x5 s1 s2 s5 s6 s7 s8 s9 s10 s11 b0 b1 b2 b3 b4 b5 b6 b7 b8 b9 b10 b11 w0 w1 w2 w3 w4 w8 d0 d1 d2 wn lv np nl pn si4 si12 si13 bi14 wi6 (nI lj) B0 B1 B2 B3 B4 B6 B8 B10 B11 S5 S6 S7 S8 S9 S10 S11 W0 W1 W2 W3 W4 W8 D0 D1 D2 B5 (by omega) (by omega) (by omega) (by omega) (by omega) (by omega)) (cwV 1 hts gX7_moved_X7_settle rfl rfl rfl (by decide +kernel) ⟨Nat.le_of_ble_eq_true rfl, Nat.le_of_ble_eq_true rfl⟩) (k_preV hE hP hD [0, 1, 2, 3, 4, 5, 6, 7, 8, 9, 10, 11, 12, 13, 14, 15, 16, 17, 18, 19, 20, 21, 22, 23, 24, 25, 26, 27, 28, 29, 30] (by decide +kernel) rfl 0 rfl rfl) rfl rfl hl.1 rfl (lv_room (Nat.le_of_ble_eq_true rfl)) dX7_moved_27 ⟨Nat.le_of_ble_eq_true rfl, Nat.le_of_ble_eq_true rfl⟩) hP hD hS hA [0, 1, 2, 3, 4, 5, 6, 7, 8, 9, 10, 11, 12, 13, 14, 15, 16, 17, 18, 19, 20, 21, 22, 23, 24, 25, 26, 27, 28, 29, 30] [31] rfl (wr := [(aIc cI x5 8 X5)]) rfl (by decide +kernel) (by decide +kernel) (fun u H locs hw10 hP hD hS => ?_)
        obtain ⟨z11, z12, z13, z14, z15, z16, z17, z18, z19, z20, z21, z22, z23, z24, z25, z26, z27, z28, z29, z30, z31, z32, z33, hz34, hz35, hz36, rfl⟩ := hw10
        refine k_re (w := [(aIc cI x5 8 X5), (oX7 x x0 x1 x2 x3 x4 x5), (oX4 x1 x0 s1 s2 (nI z33) z31 s5 s6 s7 s8 s9 s10 s11 z26 z27), (oX0 x0 b0 b1 b2 b3 b4 b5 b6 b7 b8 b9 b10 b11 (nI np) (nI nl) bi14), (oX6 s1 w0 w1 w2 w3 w4 (nI z32) z28 (nI z29) w8), (oX2 s2 d0 d1 d2), (aIc cI b0 8 B0), (aIc cI b1 8 B1), (aIc cI b2 8 B2), (aIc cI b3 8 B3), (aIc cI b4 8 B4), (aIc cI b6 8 B6), (aIc cI b8 64 B8), (aIc cI b10 10 B10), (aIc cI b11 10 B11), (aIc cI s5 8 z11), (aIc cI s6 8 z12), (aIc cI s7 8 z13), (aIc cI s8 8 z14), (aIc cI s9 8 z15), (aIc cI s10 8 z16), (aIc cI s11 8 z17), (aIc cI w0 8 z30), (aIc cI w1 8 z18), (aIc cI w2 8 z19), (aIc cI w3 8 z20), (aIc cI w4 8 z21), (aIc cI w8 8 z22), (aIc cI d0 8 z23), (aIc cI d1 8 z24), (aJc cJ d2 8 z25), (aIc cI b5 8 B5)]) hP hD (fun hP hD => ?_)
        refine lv_aload_n hx hb dX7_moved_30 rfl (lv_at hl 0 rfl) ?_
        refine va_get (D := D) (ci := 7) (v := .ref x1) (C := RX7) (T := TX7) (N := 6) hx hb hts hiX7 hown hE.1 hP 1 rfl rfl 1 (by decide) (hts _ (List.mem_cons_of_mem _ wd_17)) (fun _ h9 => h9) rfl dX7_moved_31 ?_
        refine va_get (D := D) (ci := 4) (v := .ref s10) (C := RX4) (T := TX4) (N := 14) hx hb hts hiX4 hown hE.1 hP 2 rfl rfl 10 (by decide) (hts _ (List.mem_cons_of_mem _ wd_583)) (fun _ h9 => h9) rfl dX7_moved_34 ?_
        refine lv_iconst (v := 0) hx hb dX7_moved_37 (by decide) ?_
        refine lv_aload_n hx hb dX7_moved_38 rfl (lv_at hl 0 rfl) ?_
        refine va_get (D := D) (ci := 7) (v := .ref x5) (C := RX7) (T := TX7) (N := 6) hx hb hts hiX7 hown hE.1 hP 1 rfl rfl 5 (by decide) (hts _ (List.mem_cons_of_mem _ wd_33)) (fun _ h9 => h9) rfl dX7_moved_39 ?_
        refine lv_iconst (v := 0) hx hb dX7_moved_42 (by decide) ?_
        refine lv_bipush (v := 8) hx hb dX7_moved_43 (by decide) ?_
        refine va_copyi hx hb (by rw [hml]; exact hl.1.symm) hown (hts _ (List.mem_cons_of_mem _ wd_927)) (hts _ (List.mem_cons_of_mem _ wd_289)) (hts _ (List.mem_cons_of_mem _ wd_290)) (hts _ (List.mem_cons_of_mem _ wd_291)) hE.1 hP hD hS 20 0 0 0 rfl rfl rfl rfl rfl (by decide) (by decide) (by decide) (by decide) (by decide) (fun _ _ => rfl) (Nat.le_of_ble_eq_true rfl) (Nat.le_of_ble_eq_true rfl) dX7_moved_45 (fun H locs hP hD hS => ?_)
        refine k_re (w := [(aIc cI x5 8 (va_cpy z16 X5 (0 : Int32).toNatClampNeg (0 : Int32).toNatClampNeg (8 : Int32).toNatClampNeg)), (oX7 x x0 x1 x2 x3 x4 x5), (oX4 x1 x0 s1 s2 (nI z33) z31 s5 s6 s7 s8 s9 s10 s11 z26 z27), (oX0 x0 b0 b1 b2 b3 b4 b5 b6 b7 b8 b9 b10 b11 (nI np) (nI nl) bi14), (oX6 s1 w0 w1 w2 w3 w4 (nI z32) z28 (nI z29) w8), (oX2 s2 d0 d1 d2), (aIc cI b0 8 B0), (aIc cI b1 8 B1), (aIc cI b2 8 B2), (aIc cI b3 8 B3), (aIc cI b4 8 B4), (aIc cI b6 8 B6), (aIc cI b8 64 B8), (aIc cI b10 10 B10), (aIc cI b11 10 B11), (aIc cI s5 8 z11), (aIc cI s6 8 z12), (aIc cI s7 8 z13), (aIc cI s8 8 z14), (aIc cI s9 8 z15), (aIc cI s10 8 z16), (aIc cI s11 8 z17), (aIc cI w0 8 z30), (aIc cI w1 8 z18), (aIc cI w2 8 z19), (aIc cI w3 8 z20), (aIc cI w4 8 z21), (aIc cI w8 8 z22), (aIc cI d0 8 z23), (aIc cI d1 8 z24), (aJc cJ d2 8 z25), (aIc cI b5 8 B5)]) hP hD (fun hP hD => ?_)
        refine lv_aload_n hx hb dX7_moved_48 rfl (lv_at hl 0 rfl) ?_
        refine va_get (D := D) (ci := 7) (v := .ref x1) (C := RX7) (T := TX7) (N := 6) hx hb hts hiX7 hown hE.1 hP 1 rfl rfl 1 (by decide) (hts _ (List.mem_cons_of_mem _ wd_17)) (fun _ h9 => h9) rfl dX7_moved_49 ?_
        refine k_v (va_runV (As := []) (rest := []) ⟨hx, hb, hml, hown, hts⟩ (m_X4_asBooked l D cI cJ H.size x1 x0 s1 s2 s5 s6 s7 s8 s9 s10 s11 b0 b1 b2 b3 b4 b5 b6 b7 b8 b9 b10 b11 w0 w1 w2 w3 w4 w8 z32 z29 np nl z33 z31 z26 z27 bi14 z28 B5 z30 (by omega)) (cwV 0 hts gX7_moved_X4_asBooked rfl rfl rfl (by decide +kernel) ⟨Nat.le_of_ble_eq_true rfl, Nat.le_of_ble_eq_true rfl⟩) (k_preV hE hP hD [2, 3, 4, 31, 22] (by decide +kernel) rfl 2 rfl rfl) rfl rfl hl.1 rfl (lv_room (Nat.le_of_ble_eq_true rfl)) dX7_moved_52 ⟨Nat.le_of_ble_eq_true rfl, Nat.le_of_ble_eq_true rfl⟩) hP hD hS hA [2, 3, 4, 31, 22] [0, 1, 5, 6, 7, 8, 9, 10, 11, 12, 13, 14, 15, 16, 17, 18, 19, 20, 21, 23, 24, 25, 26, 27, 28, 29, 30] rfl (wr := [(aIc cI x5 8 (va_cpy z16 X5 (0 : Int32).toNatClampNeg (0 : Int32).toNatClampNeg (8 : Int32).toNatClampNeg)), (oX7 x x0 x1 x2 x3 x4 x5), (oX2 s2 d0 d1 d2), (aIc cI b0 8 B0), (aIc cI b1 8 B1), (aIc cI b2 8 B2), (aIc cI b3 8 B3), (aIc cI b4 8 B4), (aIc cI b6 8 B6), (aIc cI b8 64 B8), (aIc cI b10 10 B10), (aIc cI b11 10 B11), (aIc cI s5 8 z11), (aIc cI s6 8 z12), (aIc cI s7 8 z13), (aIc cI s8 8 z14), (aIc cI s9 8 z15), (aIc cI s10 8 z16), (aIc cI s11 8 z17), (aIc cI w1 8 z18), (aIc cI w2 8 z19), (aIc cI w3 8 z20), (aIc cI w4 8 z21), (aIc cI w8 8 z22), (aIc cI d0 8 z23), (aIc cI d1 8 z24), (aJc cJ d2 8 z25)]) rfl (by decide +kernel) (by decide +kernel) (fun u H locs hw37 hP hD hS => ?_)
        obtain ⟨z38, z39, rfl⟩ := hw37
        refine k_re (w := [(aIc cI x5 8 (va_cpy z16 X5 (0 : Int32).toNatClampNeg (0 : Int32).toNatClampNeg (8 : Int32).toNatClampNeg)), (oX7 x x0 x1 x2 x3 x4 x5), (oX2 s2 d0 d1 d2), (aIc cI b0 8 B0), (aIc cI b1 8 B1), (aIc cI b2 8 B2), (aIc cI b3 8 B3), (aIc cI b4 8 B4), (aIc cI b6 8 B6), (aIc cI b8 64 B8), (aIc cI b10 10 B10), (aIc cI b11 10 B11), (aIc cI s5 8 z11), (aIc cI s6 8 z12), (aIc cI s7 8 z13), (aIc cI s8 8 z14), (aIc cI s9 8 z15), (aIc cI s10 8 z16), (aIc cI s11 8 z17), (aIc cI w1 8 z18), (aIc cI w2 8 z19), (aIc cI w3 8 z20), (aIc cI w4 8 z21), (aIc cI w8 8 z22), (aIc cI d0 8 z23), (aIc cI d1 8 z24), (aJc cJ d2 8 z25), (oX4 x1 x0 s1 s2 (nI (2 ^ np - 1)) z39 s5 s6 s7 s8 s9 s10 s11 z26 z27), (oX0 x0 b0 b1 b2 b3 b4 b5 b6 b7 b8 b9 b10 b11 (nI np) (nI nl) bi14), (oX6 s1 w0 w1 w2 w3 w4 (nI z32) z28 (nI z29) w8), (aIc cI b5 8 B5), (aIc cI w0 8 z38)]) hP hD (fun hP hD => ?_)
        refine lv_aload_n hx hb dX7_moved_55 rfl (lv_at hl 0 rfl) ?_
        refine va_get (D := D) (ci := 7) (v := .ref x1) (C := RX7) (T := TX7) (N := 6) hx hb hts hiX7 hown hE.1 hP 1 rfl rfl 1 (by decide) (hts _ (List.mem_cons_of_mem _ wd_17)) (fun _ h9 => h9) rfl dX7_moved_56 ?_
        refine va_get (D := D) (ci := 4) (v := .ref s1) (C := RX4) (T := TX4) (N := 14) hx hb hts hiX4 hown hE.1 hP 27 rfl rfl 1 (by decide) (hts _ (List.mem_cons_of_mem _ wd_514)) (fun _ h9 => h9) rfl dX7_moved_59 ?_
        refine va_get (D := D) (ci := 6) (v := .ref w0) (C := RX6) (T := TX6) (N := 9) hx hb hts hiX6 hown hE.1 hP 29 rfl rfl 0 (by decide) (hts _ (List.mem_cons_of_mem _ wd_928)) (fun _ h9 => h9) rfl dX7_moved_62 ?_
        refine lv_iload_n hx hb dX7_moved_65 rfl (lv_at hl 2 rfl) ?_
        refine lv_iload_n hx hb dX7_moved_66 rfl (lv_at hl 3 rfl) ?_
        refine va_iast hx hb hE.1 hP hD hS 31 0 rfl rfl (vp_in_nI (n := pj) (by omega) (by decide)) dX7_moved_67 (fun H locs hP hD hS => ?_)
        refine k_re (w := [(aIc cI x5 8 (va_cpy z16 X5 (0 : Int32).toNatClampNeg (0 : Int32).toNatClampNeg (8 : Int32).toNatClampNeg)), (oX7 x x0 x1 x2 x3 x4 x5), (oX2 s2 d0 d1 d2), (aIc cI b0 8 B0), (aIc cI b1 8 B1), (aIc cI b2 8 B2), (aIc cI b3 8 B3), (aIc cI b4 8 B4), (aIc cI b6 8 B6), (aIc cI b8 64 B8), (aIc cI b10 10 B10), (aIc cI b11 10 B11), (aIc cI s5 8 z11), (aIc cI s6 8 z12), (aIc cI s7 8 z13), (aIc cI s8 8 z14), (aIc cI s9 8 z15), (aIc cI s10 8 z16), (aIc cI s11 8 z17), (aIc cI w1 8 z18), (aIc cI w2 8 z19), (aIc cI w3 8 z20), (aIc cI w4 8 z21), (aIc cI w8 8 z22), (aIc cI d0 8 z23), (aIc cI d1 8 z24), (aJc cJ d2 8 z25), (oX4 x1 x0 s1 s2 (nI (2 ^ np - 1)) z39 s5 s6 s7 s8 s9 s10 s11 z26 z27), (oX0 x0 b0 b1 b2 b3 b4 b5 b6 b7 b8 b9 b10 b11 (nI np) (nI nl) bi14), (oX6 s1 w0 w1 w2 w3 w4 (nI z32) z28 (nI z29) w8), (aIc cI b5 8 B5), (aIc cI w0 8 (upd z38 (Int32.toNatClampNeg (nI pj)) p2))]) hP hD (fun hP hD => ?_)
        refine lv_aload_n hx hb dX7_moved_68 rfl (lv_at hl 0 rfl) ?_
        refine va_get (D := D) (ci := 7) (v := .ref x1) (C := RX7) (T := TX7) (N := 6) hx hb hts hiX7 hown hE.1 hP 1 rfl rfl 1 (by decide) (hts _ (List.mem_cons_of_mem _ wd_17)) (fun _ h9 => h9) rfl dX7_moved_69 ?_
        refine lv_iload_n hx hb dX7_moved_72 rfl (lv_at hl 1 rfl) ?_
        refine k_v (va_runV (As := [.int (nI lj)]) (rest := []) ⟨hx, hb, hml, hown, hts⟩ (m_X4_through l D cI cJ H.size x1 x0 s1 s2 s5 s6 s7 s8 s9 s10 s11 b0 b1 b2 b3 b4 b5 b6 b7 b8 b9 b10 b11 w0 w1 w2 w3 w4 w8 d0 d1 d2 z32 z29 np nl (2 ^ np - 1) z39 z26 z27 bi14 z28 (nI lj) B0 B1 B2 B3 B4 B6 B8 B10 B11 z11 z12 z13 z14 z15 z16 z17 (upd z38 (Int32.toNatClampNeg (nI pj)) p2) z18 z19 z20 z21 z22 z23 z24 z25 (by omega) (by omega) (by omega)) (cwV 1 hts gX7_moved_X4_through rfl rfl rfl (by decide +kernel) ⟨Nat.le_of_ble_eq_true rfl, Nat.le_of_ble_eq_true rfl⟩) (k_preV hE hP hD [27, 28, 29, 2, 3, 4, 5, 6, 7, 8, 9, 10, 11, 12, 13, 14, 15, 16, 17, 18, 31, 19, 20, 21, 22, 23, 24, 25, 26] (by decide +kernel) rfl 27 rfl rfl) rfl rfl hl.1 rfl (lv_room (Nat.le_of_ble_eq_true rfl)) dX7_moved_73 ⟨Nat.le_of_ble_eq_true rfl, Nat.le_of_ble_eq_true rfl⟩) hP hD hS hA [27, 28, 29, 2, 3, 4, 5, 6, 7, 8, 9, 10, 11, 12, 13, 14, 15, 16, 17, 18, 31, 19, 20, 21, 22, 23, 24, 25, 26] [0, 1, 30] rfl (wr := [(aIc cI x5 8 (va_cpy z16 X5 (0 : Int32).toNatClampNeg (0 : Int32).toNatClampNeg (8 : Int32).toNatClampNeg)), (oX7 x x0 x1 x2 x3 x4 x5), (aIc cI b5 8 B5)]) rfl (by decide +kernel) (by decide +kernel) (fun u H locs hw40 hP hD hS => ?_)
        obtain ⟨z41, z42, z43, z44, z45, z46, z47, z48, z49, z50, z51, z52, z53, z54, z55, z56, z57, z58, z59, z60, hz61, hz62, rfl⟩ := hw40
        refine k_re (w := [(aIc cI x5 8 (va_cpy z16 X5 (0 : Int32).toNatClampNeg (0 : Int32).toNatClampNeg (8 : Int32).toNatClampNeg)), (oX7 x x0 x1 x2 x3 x4 x5), (aIc cI b5 8 B5), (oX4 x1 x0 s1 s2 (nI (2 ^ np - 1)) z39 s5 s6 s7 s8 s9 s10 s11 z56 z57), (oX0 x0 b0 b1 b2 b3 b4 b5 b6 b7 b8 b9 b10 b11 (nI np) (nI nl) bi14), (oX6 s1 w0 w1 w2 w3 w4 (nI z60) z58 (nI z59) w8), (oX2 s2 d0 d1 d2), (aIc cI b0 8 B0), (aIc cI b1 8 B1), (aIc cI b2 8 B2), (aIc cI b3 8 B3), (aIc cI b4 8 B4), (aIc cI b6 8 B6), (aIc cI b8 64 B8), (aIc cI b10 10 B10), (aIc cI b11 10 B11), (aIc cI s5 8 z41), (aIc cI s6 8 z42), (aIc cI s7 8 z43), (aIc cI s8 8 z44), (aIc cI s9 8 z45), (aIc cI s10 8 z46), (aIc cI s11 8 z47), (aIc cI w0 8 (upd z38 (Int32.toNatClampNeg (nI pj)) p2)), (aIc cI w1 8 z48), (aIc cI w2 8 z49), (aIc cI w3 8 z50), (aIc cI w4 8 z51), (aIc cI w8 8 z52), (aIc cI d0 8 z53), (aIc cI d1 8 z54), (aJc cJ d2 8 z55)]) hP hD (fun hP hD => ?_)
        refine lv_iconst (v := 0) hx hb dX7_moved_76 (by decide) ?_
        refine lv_istore (lv' := [(4, .int 0), (0, .ref x), (1, .int (nI lj)), (2, .int (nI pj)), (3, .int p2)]) hx hb dX7_moved_77 hl (by decide) rfl (fun ls hl => ?_)
        refine lv_iconst (v := 0) hx hb dX7_moved_79 (by decide) ?_
        refine lv_istore (lv' := [(5, .int 0), (4, .int 0), (0, .ref x), (1, .int (nI lj)), (2, .int (nI pj)), (3, .int p2)]) hx hb dX7_moved_80 hl (by decide) rfl (fun ls hl => ?_)
        have J82 : ∀ (zz : Nat) (i82 : Nat) (h4_82 : Int32), (i82 ≤ 8) → (8 - i82) < zz → ∀ (H : Heap) (locs : List Loc) (ls : Array Slot), va_P D vwCl [(aIc cI x5 8 (va_cpy z16 X5 (0 : Int32).toNatClampNeg (0 : Int32).toNatClampNeg (8 : Int32).toNatClampNeg)), (oX7 x x0 x1 x2 x3 x4 x5), (aIc cI b5 8 B5), (oX4 x1 x0 s1 s2 (nI (2 ^ np - 1)) z39 s5 s6 s7 s8 s9 s10 s11 z56 z57), (oX0 x0 b0 b1 b2 b3 b4 b5 b6 b7 b8 b9 b10 b11 (nI np) (nI nl) bi14), (oX6 s1 w0 w1 w2 w3 w4 (nI z60) z58 (nI z59) w8), (oX2 s2 d0 d1 d2), (aIc cI b0 8 B0), (aIc cI b1 8 B1), (aIc cI b2 8 B2), (aIc cI b3 8 B3), (aIc cI b4 8 B4), (aIc cI b6 8 B6), (aIc cI b8 64 B8), (aIc cI b10 10 B10), (aIc cI b11 10 B11), (aIc cI s5 8 z41), (aIc cI s6 8 z42), (aIc cI s7 8 z43), (aIc cI s8 8 z44), (aIc cI s9 8 z45), (aIc cI s10 8 z46), (aIc cI s11 8 z47), (aIc cI w0 8 (upd z38 (Int32.toNatClampNeg (nI pj)) p2)), (aIc cI w1 8 z48), (aIc cI w2 8 z49), (aIc cI w3 8 z50), (aIc cI w4 8 z51), (aIc cI w8 8 z52), (aIc cI d0 8 z53), (aIc cI d1 8 z54), (aJc cJ d2 8 z55)] H → va_D A [(aIc cI x5 8 (va_cpy z16 X5 (0 : Int32).toNatClampNeg (0 : Int32).toNatClampNeg (8 : Int32).toNatClampNeg)), (oX7 x x0 x1 x2 x3 x4 x5), (aIc cI b5 8 B5), (oX4 x1 x0 s1 s2 (nI (2 ^ np - 1)) z39 s5 s6 s7 s8 s9 s10 s11 z56 z57), (oX0 x0 b0 b1 b2 b3 b4 b5 b6 b7 b8 b9 b10 b11 (nI np) (nI nl) bi14), (oX6 s1 w0 w1 w2 w3 w4 (nI z60) z58 (nI z59) w8), (oX2 s2 d0 d1 d2), (aIc cI b0 8 B0), (aIc cI b1 8 B1), (aIc cI b2 8 B2), (aIc cI b3 8 B3), (aIc cI b4 8 B4), (aIc cI b6 8 B6), (aIc cI b8 64 B8), (aIc cI b10 10 B10), (aIc cI b11 10 B11), (aIc cI s5 8 z41), (aIc cI s6 8 z42), (aIc cI s7 8 z43), (aIc cI s8 8 z44), (aIc cI s9 8 z45), (aIc cI s10 8 z46), (aIc cI s11 8 z47), (aIc cI w0 8 (upd z38 (Int32.toNatClampNeg (nI pj)) p2)), (aIc cI w1 8 z48), (aIc cI w2 8 z49), (aIc cI w3 8 z50), (aIc cI w4 8 z51), (aIc cI w8 8 z52), (aIc cI d0 8 z53), (aIc cI d1 8 z54), (aJc cJ d2 8 z55)] → va_S A s.heap H locs → lv_has ls 6 [(5, .int (nI i82)), (4, .int h4_82), (0, .ref x), (1, .int (nI lj)), (2, .int (nI pj)), (3, .int p2)] → W p l e { frames := 6, cells := 0, slots := 0, locals := 146 } s m [.ref x, .int p0, .int p1, .int p2].toArray below meth c H locs 0 0 (MQ below (cQi D (fun r u => ∃ (S5p S6p S7p S8p S9p S10p S11p W1p W2p W3p W4p W8p D0p D1p : Nat → Int32) (D2p : Nat → Int64) (si12p si13p wi6p : Int32) (lvp : Nat) (W0p : Nat → Int32) (si4p : Int32) (wnp pnp : Nat) (X5p : Nat → Int32), (lvp ≤ 8) ∧ (wnp < 256) ∧ (pnp < 256) ∧ u = [(oX7 x x0 x1 x2 x3 x4 x5), (oX4 x1 x0 s1 s2 (nI pnp) si4p s5 s6 s7 s8 s9 s10 s11 si12p si13p), (oX0 x0 b0 b1 b2 b3 b4 b5 b6 b7 b8 b9 b10 b11 (nI np) (nI nl) bi14), (oX6 s1 w0 w1 w2 w3 w4 (nI wnp) wi6p (nI lvp) w8), (oX2 s2 d0 d1 d2), (aIc cI b0 8 B0), (aIc cI b1 8 B1), (aIc cI b2 8 B2), (aIc cI b3 8 B3), (aIc cI b4 8 B4), (aIc cI b6 8 B6), (aIc cI b8 64 B8), (aIc cI b10 10 B10), (aIc cI b11 10 B11), (aIc cI s5 8 S5p), (aIc cI s6 8 S6p), (aIc cI s7 8 S7p), (aIc cI s8 8 S8p), (aIc cI s9 8 S9p), (aIc cI s10 8 S10p), (aIc cI s11 8 S11p), (aIc cI w0 8 W0p), (aIc cI w1 8 W1p), (aIc cI w2 8 W2p), (aIc cI w3 8 W3p), (aIc cI w4 8 W4p), (aIc cI w8 8 W8p), (aIc cI d0 8 D0p), (aIc cI d1 8 D1p), (aJc cJ d2 8 D2p), (aIc cI b5 8 B5), (aIc cI x5 8 X5p)]) A) [.ref x, .int p0, .int p1, .int p2].toArray s 0 0 A) (F0 m 82 ls []) := by
          intro zz
          induction zz with
          | zero => intro i82 h4_82 _; exact fun h => absurd h (Nat.not_lt_zero _)
          | succ zz ih82 =>
            intro i82 h4_82 hc5_82 hmu82 H locs ls hP hD hS hl
            refine lv_iload hx hb dX7_moved_82 (lv_at hl 0 rfl) ?_
            refine lv_bipush (v := 8) hx hb dX7_moved_84 (by decide) ?_
            refine lv_icmp_ge (tgt := 118) hx hb dX7_moved_86 (by decide) (fun c63 => ?_) (fun c63 => ?_)
            · skip
              have nc63 : 8 ≤ i82 := (nI_leI (a := 8) (b := i82) (by omega) (by omega)).mp c63
              refine lv_iload hx hb dX7_moved_118 (lv_at hl 1 rfl) ?_
              refine k_iret (u := [(oX7 x x0 x1 x2 x3 x4 x5), (oX4 x1 x0 s1 s2 (nI (2 ^ np - 1)) z39 s5 s6 s7 s8 s9 s10 s11 z56 z57), (oX0 x0 b0 b1 b2 b3 b4 b5 b6 b7 b8 b9 b10 b11 (nI np) (nI nl) bi14), (oX6 s1 w0 w1 w2 w3 w4 (nI z60) z58 (nI z59) w8), (oX2 s2 d0 d1 d2), (aIc cI b0 8 B0), (aIc cI b1 8 B1), (aIc cI b2 8 B2), (aIc cI b3 8 B3), (aIc cI b4 8 B4), (aIc cI b6 8 B6), (aIc cI b8 64 B8), (aIc cI b10 10 B10), (aIc cI b11 10 B11), (aIc cI s5 8 z41), (aIc cI s6 8 z42), (aIc cI s7 8 z43), (aIc cI s8 8 z44), (aIc cI s9 8 z45), (aIc cI s10 8 z46), (aIc cI s11 8 z47), (aIc cI w0 8 (upd z38 (Int32.toNatClampNeg (nI pj)) p2)), (aIc cI w1 8 z48), (aIc cI w2 8 z49), (aIc cI w3 8 z50), (aIc cI w4 8 z51), (aIc cI w8 8 z52), (aIc cI d0 8 z53), (aIc cI d1 8 z54), (aJc cJ d2 8 z55), (aIc cI b5 8 B5), (aIc cI x5 8 (va_cpy z16 X5 (0 : Int32).toNatClampNeg (0 : Int32).toNatClampNeg (8 : Int32).toNatClampNeg))]) hx hb hr hlk (k_sub hP [1, 3, 4, 5, 6, 7, 8, 9, 10, 11, 12, 13, 14, 15, 16, 17, 18, 19, 20, 21, 22, 23, 24, 25, 26, 27, 28, 29, 30, 31, 2, 0] rfl) (hD.sub [1, 3, 4, 5, 6, 7, 8, 9, 10, 11, 12, 13, 14, 15, 16, 17, 18, 19, 20, 21, 22, 23, 24, 25, 26, 27, 28, 29, 30, 31, 2, 0] (by decide +kernel) rfl) hS dX7_moved_120 ?_
              exact ⟨z41, z42, z43, z44, z45, z46, z47, z48, z49, z50, z51, z52, z53, z54, z55, z56, z57, z58, z59, (upd z38 (Int32.toNatClampNeg (nI pj)) p2), z39, z60, 2 ^ np - 1, (va_cpy z16 X5 (0 : Int32).toNatClampNeg (0 : Int32).toNatClampNeg (8 : Int32).toNatClampNeg), (by omega), (by omega), (by first | omega | exact ev_lt hnp), rfl⟩
            · skip
              have nc63 : ¬ 8 ≤ i82 := fun q9 => c63 ((nI_leI (a := 8) (b := i82) (by omega) (by omega)).mpr q9)
              refine lv_aload_n hx hb dX7_moved_89 rfl (lv_at hl 2 rfl) ?_
              refine va_get (D := D) (ci := 7) (v := .ref x1) (C := RX7) (T := TX7) (N := 6) hx hb hts hiX7 hown hE.1 hP 1 rfl rfl 1 (by decide) (hts _ (List.mem_cons_of_mem _ wd_17)) (fun _ h9 => h9) rfl dX7_moved_90 ?_
              refine va_get (D := D) (ci := 4) (v := .ref s10) (C := RX4) (T := TX4) (N := 14) hx hb hts hiX4 hown hE.1 hP 3 rfl rfl 10 (by decide) (hts _ (List.mem_cons_of_mem _ wd_583)) (fun _ h9 => h9) rfl dX7_moved_93 ?_
              refine lv_iload hx hb dX7_moved_96 (lv_at hl 0 rfl) ?_
              refine va_iald hx hb hE.1 hP 21 0 rfl rfl (vp_in_nI (n := i82) (by omega) (by decide)) dX7_moved_98 ?_
              refine lv_topi (fun v64 ev64 => ?_)
              refine lv_aload_n hx hb dX7_moved_99 rfl (lv_at hl 2 rfl) ?_
              refine va_get (D := D) (ci := 7) (v := .ref x5) (C := RX7) (T := TX7) (N := 6) hx hb hts hiX7 hown hE.1 hP 1 rfl rfl 5 (by decide) (hts _ (List.mem_cons_of_mem _ wd_33)) (fun _ h9 => h9) rfl dX7_moved_100 ?_
              refine lv_iload hx hb dX7_moved_103 (lv_at hl 0 rfl) ?_
              refine va_iald hx hb hE.1 hP 0 0 rfl rfl (vp_in_nI (n := i82) (by omega) (by decide)) dX7_moved_105 ?_
              refine lv_topi (fun v65 ev65 => ?_)
              refine lv_icmp_eq (tgt := 112) hx hb dX7_moved_106 (by decide) (fun c66 => ?_) (fun c66 => ?_)
              · skip
                refine lv_iinc (v := (nI (i82 + 1))) (lv' := [(5, .int (nI (i82 + 1))), (4, .int h4_82), (0, .ref x), (1, .int (nI lj)), (2, .int (nI pj)), (3, .int p2)]) hx hb dX7_moved_112 hl (k := 0) rfl (nI_1 _) (by decide) rfl (fun ls hl => ?_)
                refine lv_goto (tgt := 82) hx hb dX7_moved_115 (by decide) ?_
                exact ih82 (i82 + 1) h4_82 (by omega) (by omega) _ _ _ hP hD hS (lv_sub hl [0, 1, 2, 3, 4, 5] rfl)
              · skip
                obtain ⟨v67, ev67⟩ : ∃ y : Int32, y = h4_82 + 1 := ⟨_, rfl⟩
                refine lv_iinc (v := v67) (lv' := [(4, .int v67), (5, .int (nI i82)), (0, .ref x), (1, .int (nI lj)), (2, .int (nI pj)), (3, .int p2)]) hx hb dX7_moved_109 hl (k := 1) rfl (by rw [ev67]; rfl) (by decide) rfl (fun ls hl => ?_)
                refine lv_iinc (v := (nI (i82 + 1))) (lv' := [(5, .int (nI (i82 + 1))), (4, .int v67), (0, .ref x), (1, .int (nI lj)), (2, .int (nI pj)), (3, .int p2)]) hx hb dX7_moved_112 hl (k := 1) rfl (nI_1 _) (by decide) rfl (fun ls hl => ?_)
                refine lv_goto (tgt := 82) hx hb dX7_moved_115 (by decide) ?_
                exact ih82 (i82 + 1) v67 (by omega) (by omega) _ _ _ hP hD hS (lv_sub hl [0, 1, 2, 3, 4, 5] rfl)
        exact J82 _ 0 0 (by omega) (Nat.lt_succ_self _) _ _ _ hP hD hS (lv_sub hl [0, 1, 2, 3, 4, 5] rfl)
      · skip
        have hc9 : ¬ (0 ≤ p2 ∧ p2 ≤ 3) := bz_0 hw8 c9
        refine lv_iconst (v := (-1)) hx hb dX7_moved_23 (by decide) ?_
        refine k_iret (u := [(oX7 x x0 x1 x2 x3 x4 x5), (oX4 x1 x0 s1 s2 (nI pn) si4 s5 s6 s7 s8 s9 s10 s11 si12 si13), (oX0 x0 b0 b1 b2 b3 b4 b5 b6 b7 b8 b9 b10 b11 (nI np) (nI nl) bi14), (oX6 s1 w0 w1 w2 w3 w4 (nI wn) wi6 (nI lv) w8), (oX2 s2 d0 d1 d2), (aIc cI b0 8 B0), (aIc cI b1 8 B1), (aIc cI b2 8 B2), (aIc cI b3 8 B3), (aIc cI b4 8 B4), (aIc cI b6 8 B6), (aIc cI b8 64 B8), (aIc cI b10 10 B10), (aIc cI b11 10 B11), (aIc cI s5 8 S5), (aIc cI s6 8 S6), (aIc cI s7 8 S7), (aIc cI s8 8 S8), (aIc cI s9 8 S9), (aIc cI s10 8 S10), (aIc cI s11 8 S11), (aIc cI w0 8 W0), (aIc cI w1 8 W1), (aIc cI w2 8 W2), (aIc cI w3 8 W3), (aIc cI w4 8 W4), (aIc cI w8 8 W8), (aIc cI d0 8 D0), (aIc cI d1 8 D1), (aJc cJ d2 8 D2), (aIc cI b5 8 B5), (aIc cI x5 8 X5)]) hx hb hr hlk hP hD hS dX7_moved_24 ?_
        exact ⟨S5, S6, S7, S8, S9, S10, S11, W1, W2, W3, W4, W8, D0, D1, D2, si12, si13, wi6, lv, W0, si4, wn, pn, X5, (by omega), (by omega), (by first | omega | exact ev_lt hnp), rfl⟩
theorem dX7_way_0 : decode cX7_way 0 = .ok (.aload_n 0, 1) := by decide +kernel
theorem dX7_way_1 : decode cX7_way 1 = .ok (.iload_n 1, 1) := by decide +kernel
theorem dX7_way_2 : decode cX7_way 2 = .ok (.invokevirtual 137, 3) := by decide +kernel
theorem dX7_way_5 : decode cX7_way 5 = .ok (.ifCond .eq 19, 3) := by decide +kernel
theorem dX7_way_8 : decode cX7_way 8 = .ok (.aload_n 0, 1) := by decide +kernel
theorem dX7_way_9 : decode cX7_way 9 = .ok (.iload_n 2, 1) := by decide +kernel
theorem dX7_way_10 : decode cX7_way 10 = .ok (.invokevirtual 74, 3) := by decide +kernel
theorem dX7_way_13 : decode cX7_way 13 = .ok (.ifCond .eq 11, 3) := by decide +kernel
theorem dX7_way_16 : decode cX7_way 16 = .ok (.aload_n 0, 1) := by decide +kernel
theorem dX7_way_17 : decode cX7_way 17 = .ok (.iload_n 3, 1) := by decide +kernel
theorem dX7_way_18 : decode cX7_way 18 = .ok (.invokevirtual 74, 3) := by decide +kernel
theorem dX7_way_21 : decode cX7_way 21 = .ok (.ifCond .ne 5, 3) := by decide +kernel
theorem dX7_way_24 : decode cX7_way 24 = .ok (.iconst (-1), 1) := by decide +kernel
theorem dX7_way_25 : decode cX7_way 25 = .ok (.ireturn, 1) := by decide +kernel
theorem dX7_way_26 : decode cX7_way 26 = .ok (.aload_n 0, 1) := by decide +kernel
theorem dX7_way_27 : decode cX7_way 27 = .ok (.iload_n 1, 1) := by decide +kernel
theorem dX7_way_28 : decode cX7_way 28 = .ok (.invokevirtual 140, 3) := by decide +kernel
theorem dX7_way_31 : decode cX7_way 31 = .ok (.aload_n 0, 1) := by decide +kernel
theorem dX7_way_32 : decode cX7_way 32 = .ok (.getfield 24, 3) := by decide +kernel
theorem dX7_way_35 : decode cX7_way 35 = .ok (.aload_n 0, 1) := by decide +kernel
theorem dX7_way_36 : decode cX7_way 36 = .ok (.getfield 10, 3) := by decide +kernel
theorem dX7_way_39 : decode cX7_way 39 = .ok (.getfield 144, 3) := by decide +kernel
theorem dX7_way_42 : decode cX7_way 42 = .ok (.getfield 186, 3) := by decide +kernel
theorem dX7_way_45 : decode cX7_way 45 = .ok (.iload_n 2, 1) := by decide +kernel
theorem dX7_way_46 : decode cX7_way 46 = .ok (.iload_n 3, 1) := by decide +kernel
theorem dX7_way_47 : decode cX7_way 47 = .ok (.invokevirtual 221, 3) := by decide +kernel
theorem dX7_way_50 : decode cX7_way 50 = .ok (.istore 5, 2) := by decide +kernel
theorem dX7_way_52 : decode cX7_way 52 = .ok (.iload 5, 2) := by decide +kernel
theorem dX7_way_54 : decode cX7_way 54 = .ok (.ifCond .ne 5, 3) := by decide +kernel
theorem dX7_way_57 : decode cX7_way 57 = .ok (.iconst (-1), 1) := by decide +kernel
theorem dX7_way_58 : decode cX7_way 58 = .ok (.ireturn, 1) := by decide +kernel
theorem dX7_way_59 : decode cX7_way 59 = .ok (.iload 4, 2) := by decide +kernel
theorem dX7_way_61 : decode cX7_way 61 = .ok (.iconst (-1), 1) := by decide +kernel
theorem dX7_way_62 : decode cX7_way 62 = .ok (.if_icmp .ne 6, 3) := by decide +kernel
theorem dX7_way_65 : decode cX7_way 65 = .ok (.iload 5, 2) := by decide +kernel
theorem dX7_way_67 : decode cX7_way 67 = .ok (.ireturn, 1) := by decide +kernel
theorem dX7_way_68 : decode cX7_way 68 = .ok (.iload 4, 2) := by decide +kernel
theorem dX7_way_70 : decode cX7_way 70 = .ok (.iconst 0, 1) := by decide +kernel
theorem dX7_way_71 : decode cX7_way 71 = .ok (.iload 5, 2) := by decide +kernel
theorem dX7_way_73 : decode cX7_way 73 = .ok (.iconst 1, 1) := by decide +kernel
theorem dX7_way_74 : decode cX7_way 74 = .ok (.isub, 1) := by decide +kernel
theorem dX7_way_75 : decode cX7_way 75 = .ok (.invokestatic 47, 3) := by decide +kernel
theorem dX7_way_78 : decode cX7_way 78 = .ok (.ifCond .eq 16, 3) := by decide +kernel
theorem dX7_way_81 : decode cX7_way 81 = .ok (.aload_n 0, 1) := by decide +kernel
theorem dX7_way_82 : decode cX7_way 82 = .ok (.getfield 24, 3) := by decide +kernel
theorem dX7_way_85 : decode cX7_way 85 = .ok (.getfield 225, 3) := by decide +kernel
theorem dX7_way_88 : decode cX7_way 88 = .ok (.iload 4, 2) := by decide +kernel
theorem dX7_way_90 : decode cX7_way 90 = .ok (.iaload, 1) := by decide +kernel
theorem dX7_way_91 : decode cX7_way 91 = .ok (.goto 4, 3) := by decide +kernel
theorem dX7_way_94 : decode cX7_way 94 = .ok (.iconst (-1), 1) := by decide +kernel
theorem dX7_way_95 : decode cX7_way 95 = .ok (.ireturn, 1) := by decide +kernel
theorem gX7_way_X5_find : GoodIn wtX7_way (wsV RX7 221 RX5 yX5_find wtX5_find) := tb_good (tb_v0 wd_698 wd_699 wd_700 wd_22 wd_701)
theorem gX7_way_X7_isLoss : GoodIn wtX7_way (wsV RX7 137 RX7 yX7_isLoss wtX7_isLoss) := tb_good (tb_v0 wd_519 wd_520 wd_521 wd_2 wd_522)
theorem gX7_way_X7_isPolicy : GoodIn wtX7_way (wsV RX7 74 RX7 yX7_isPolicy wtX7_isPolicy) := tb_good (tb_v0 wd_186 wd_187 wd_188 wd_2 wd_189)
theorem gX7_way_X7_settle : GoodIn wtX7_way (wsV RX7 140 RX7 yX7_settle wtX7_settle) := tb_good (tb_v0 wd_523 wd_524 wd_525 wd_2 wd_526)
theorem gX7_way_X7_within : GoodIn wtX7_way (va_wsS RX7 47 yX7_within wtX7_within) := tb_good (tb_s0 wd_164 wd_165 wd_2 wd_166)
set_option maxHeartbeats 4000000 in
set_option maxRecDepth 100000 in
theorem m_X7_way (l : Launch) (D : va_G) (cI cJ : ClassId) (sz : Nat) (x x0 x1 x2 x3 x4 x5 s1 s2 s5 s6 s7 s8 s9 s10 s11 b0 b1 b2 b3 b4 b5 b6 b7 b8 b9 b10 b11 w0 w1 w2 w3 w4 w8 d0 d1 d2 y0 y1 wn lv np nl pn : Nat) (si4 si12 si13 bi14 wi6 p0 p1 p2 p3 : Int32) (B0 B1 B2 B3 B4 B6 B8 B10 B11 S5 S6 S7 S8 S9 S10 S11 W0 W1 W2 W3 W4 W8 D0 D1 : Nat → Int32) (D2 : Nat → Int64) (B5 Y0 Y1 : Nat → Int32) (hwn : wn < 256) (hlv : lv ≤ 8) (hli : ∀ k, k < 10 → ∃ j : Nat, j < 8 ∧ B10 k = nI j) (hnp : np ≤ 8) (hnl : nl ≤ 10) (hpn : pn < 256) : Met l yX7_way wtX7_way { frames := 6, cells := 0, slots := 0, locals := 146 } (cPc D cI cJ [.ref x, .int p0, .int p1, .int p2, .int p3] sz [(oX7 x x0 x1 x2 x3 x4 x5), (oX4 x1 x0 s1 s2 (nI pn) si4 s5 s6 s7 s8 s9 s10 s11 si12 si13), (oX0 x0 b0 b1 b2 b3 b4 b5 b6 b7 b8 b9 b10 b11 (nI np) (nI nl) bi14), (oX6 s1 w0 w1 w2 w3 w4 (nI wn) wi6 (nI lv) w8), (oX2 s2 d0 d1 d2), (aIc cI b0 8 B0), (aIc cI b1 8 B1), (aIc cI b2 8 B2), (aIc cI b3 8 B3), (aIc cI b4 8 B4), (aIc cI b6 8 B6), (aIc cI b8 64 B8), (aIc cI b10 10 B10), (aIc cI b11 10 B11), (aIc cI s5 8 S5), (aIc cI s6 8 S6), (aIc cI s7 8 S7), (aIc cI s8 8 S8), (aIc cI s9 8 S9), (aIc cI s10 8 S10), (aIc cI s11 8 S11), (aIc cI w0 8 W0), (aIc cI w1 8 W1), (aIc cI w2 8 W2), (aIc cI w3 8 W3), (aIc cI w4 8 W4), (aIc cI w8 8 W8), (aIc cI d0 8 D0), (aIc cI d1 8 D1), (aJc cJ d2 8 D2), (aIc cI b5 8 B5), (oX5 x2 y0 y1), (aIc cI y0 8 Y0), (aIc cI y1 8 Y1)]) (cQi D (fun r u => ∃ (S5p S6p S7p S8p S9p S10p S11p W1p W2p W3p W4p W8p D0p D1p : Nat → Int32) (D2p : Nat → Int64) (si12p si13p wi6p : Int32) (lvp : Nat) (W0p : Nat → Int32) (si4p : Int32) (wnp pnp : Nat) (Y0p Y1p : Nat → Int32), (lvp ≤ 8) ∧ (wnp < 256) ∧ (pnp < 256) ∧ u = [(oX7 x x0 x1 x2 x3 x4 x5), (oX4 x1 x0 s1 s2 (nI pnp) si4p s5 s6 s7 s8 s9 s10 s11 si12p si13p), (oX0 x0 b0 b1 b2 b3 b4 b5 b6 b7 b8 b9 b10 b11 (nI np) (nI nl) bi14), (oX6 s1 w0 w1 w2 w3 w4 (nI wnp) wi6p (nI lvp) w8), (oX2 s2 d0 d1 d2), (aIc cI b0 8 B0), (aIc cI b1 8 B1), (aIc cI b2 8 B2), (aIc cI b3 8 B3), (aIc cI b4 8 B4), (aIc cI b6 8 B6), (aIc cI b8 64 B8), (aIc cI b10 10 B10), (aIc cI b11 10 B11), (aIc cI s5 8 S5p), (aIc cI s6 8 S6p), (aIc cI s7 8 S7p), (aIc cI s8 8 S8p), (aIc cI s9 8 S9p), (aIc cI s10 8 S10p), (aIc cI s11 8 S11p), (aIc cI w0 8 W0p), (aIc cI w1 8 W1p), (aIc cI w2 8 W2p), (aIc cI w3 8 W3p), (aIc cI w4 8 W4p), (aIc cI w8 8 W8p), (aIc cI d0 8 D0p), (aIc cI d1 8 D1p), (aJc cJ d2 8 D2p), (aIc cI b5 8 B5), (oX5 x2 y0 y1), (aIc cI y0 8 Y0p), (aIc cI y1 8 Y1p)]) (va_A [(oX7 x x0 x1 x2 x3 x4 x5), (oX4 x1 x0 s1 s2 (nI pn) si4 s5 s6 s7 s8 s9 s10 s11 si12 si13), (oX0 x0 b0 b1 b2 b3 b4 b5 b6 b7 b8 b9 b10 b11 (nI np) (nI nl) bi14), (oX6 s1 w0 w1 w2 w3 w4 (nI wn) wi6 (nI lv) w8), (oX2 s2 d0 d1 d2), (aIc cI b0 8 B0), (aIc cI b1 8 B1), (aIc cI b2 8 B2), (aIc cI b3 8 B3), (aIc cI b4 8 B4), (aIc cI b6 8 B6), (aIc cI b8 64 B8), (aIc cI b10 10 B10), (aIc cI b11 10 B11), (aIc cI s5 8 S5), (aIc cI s6 8 S6), (aIc cI s7 8 S7), (aIc cI s8 8 S8), (aIc cI s9 8 S9), (aIc cI s10 8 S10), (aIc cI s11 8 S11), (aIc cI w0 8 W0), (aIc cI w1 8 W1), (aIc cI w2 8 W2), (aIc cI w3 8 W3), (aIc cI w4 8 W4), (aIc cI w8 8 W8), (aIc cI d0 8 D0), (aIc cI d1 8 D1), (aJc cJ d2 8 D2), (aIc cI b5 8 B5), (oX5 x2 y0 y1), (aIc cI y0 8 Y0), (aIc cI y1 8 Y1)] sz)) 0 0 (va_A [(oX7 x x0 x1 x2 x3 x4 x5), (oX4 x1 x0 s1 s2 (nI pn) si4 s5 s6 s7 s8 s9 s10 s11 si12 si13), (oX0 x0 b0 b1 b2 b3 b4 b5 b6 b7 b8 b9 b10 b11 (nI np) (nI nl) bi14), (oX6 s1 w0 w1 w2 w3 w4 (nI wn) wi6 (nI lv) w8), (oX2 s2 d0 d1 d2), (aIc cI b0 8 B0), (aIc cI b1 8 B1), (aIc cI b2 8 B2), (aIc cI b3 8 B3), (aIc cI b4 8 B4), (aIc cI b6 8 B6), (aIc cI b8 64 B8), (aIc cI b10 10 B10), (aIc cI b11 10 B11), (aIc cI s5 8 S5), (aIc cI s6 8 S6), (aIc cI s7 8 S7), (aIc cI s8 8 S8), (aIc cI s9 8 S9), (aIc cI s10 8 S10), (aIc cI s11 8 S11), (aIc cI w0 8 W0), (aIc cI w1 8 W1), (aIc cI w2 8 W2), (aIc cI w3 8 W3), (aIc cI w4 8 W4), (aIc cI w8 8 W8), (aIc cI d0 8 D0), (aIc cI d1 8 D1), (aJc cJ d2 8 D2), (aIc cI b5 8 B5), (oX5 x2 y0 y1), (aIc cI y0 8 Y0), (aIc cI y1 8 Y1)] sz) := by
  refine k_ofW (Qc := cQi D (fun r u => ∃ (S5p S6p S7p S8p S9p S10p S11p W1p W2p W3p W4p W8p D0p D1p : Nat → Int32) (D2p : Nat → Int64) (si12p si13p wi6p : Int32) (lvp : Nat) (W0p : Nat → Int32) (si4p : Int32) (wnp pnp : Nat) (Y0p Y1p : Nat → Int32), (lvp ≤ 8) ∧ (wnp < 256) ∧ (pnp < 256) ∧ u = [(oX7 x x0 x1 x2 x3 x4 x5), (oX4 x1 x0 s1 s2 (nI pnp) si4p s5 s6 s7 s8 s9 s10 s11 si12p si13p), (oX0 x0 b0 b1 b2 b3 b4 b5 b6 b7 b8 b9 b10 b11 (nI np) (nI nl) bi14), (oX6 s1 w0 w1 w2 w3 w4 (nI wnp) wi6p (nI lvp) w8), (oX2 s2 d0 d1 d2), (aIc cI b0 8 B0), (aIc cI b1 8 B1), (aIc cI b2 8 B2), (aIc cI b3 8 B3), (aIc cI b4 8 B4), (aIc cI b6 8 B6), (aIc cI b8 64 B8), (aIc cI b10 10 B10), (aIc cI b11 10 B11), (aIc cI s5 8 S5p), (aIc cI s6 8 S6p), (aIc cI s7 8 S7p), (aIc cI s8 8 S8p), (aIc cI s9 8 S9p), (aIc cI s10 8 S10p), (aIc cI s11 8 S11p), (aIc cI w0 8 W0p), (aIc cI w1 8 W1p), (aIc cI w2 8 W2p), (aIc cI w3 8 W3p), (aIc cI w4 8 W4p), (aIc cI w8 8 W8p), (aIc cI d0 8 D0p), (aIc cI d1 8 D1p), (aJc cJ d2 8 D2p), (aIc cI b5 8 B5), (oX5 x2 y0 y1), (aIc cI y0 8 Y0p), (aIc cI y1 8 Y1p)])) (by decide) rfl (Nat.le_of_ble_eq_true rfl) ?_
  intro p e s m below meth c A ls hx hb hr hml hts hown hlk hnm hsz hE hP hD hS hA hl
  have hown : s.vm.findClass RX7 = some m.cls := hown
  have hiX7 : ∀ w ∈ u_ws RX7 TX7 6, w ∈ wtX7_way := fun w h => List.mem_cons_of_mem _ (iuX7 w h)
  have hiX4 : ∀ w ∈ u_ws RX4 TX4 14, w ∈ wtX7_way := fun w h => List.mem_cons_of_mem _ (iuX4 w h)
  have hiX6 : ∀ w ∈ u_ws RX6 TX6 9, w ∈ wtX7_way := fun w h => List.mem_cons_of_mem _ (iuX6 w h)
  have hiX5 : ∀ w ∈ u_ws RX5 TX5 2, w ∈ wtX7_way := fun w h => List.mem_cons_of_mem _ (iuX5 w h)
  have hl : lv_has ls 6 [(0, .ref x), (1, .int p0), (2, .int p1), (3, .int p2), (4, .int p3)] := hl
  refine lv_aload_n hx hb dX7_way_0 rfl (lv_at hl 0 rfl) ?_
  refine lv_iload_n hx hb dX7_way_1 rfl (lv_at hl 1 rfl) ?_
  refine k_iS (va_runV (As := [.int p0]) (rest := []) ⟨hx, hb, hml, hown, hts⟩ (m_X7_isLoss l D cI cJ (s.heap).size x x0 x1 x2 x3 x4 x5 b0 b1 b2 b3 b4 b5 b6 b7 b8 b9 b10 b11 (nI np) (nI nl) bi14 p0) (cwV 1 hts gX7_way_X7_isLoss rfl rfl rfl (by decide +kernel) ⟨Nat.le_of_ble_eq_true rfl, Nat.le_of_ble_eq_true rfl⟩) (k_preV hE hP hD [0, 2] (by decide +kernel) rfl 0 rfl rfl) rfl rfl hl.1 rfl (lv_room (Nat.le_of_ble_eq_true rfl)) dX7_way_2 ⟨Nat.le_of_ble_eq_true rfl, Nat.le_of_ble_eq_true rfl⟩) hP hD hS hA [0, 2] rfl (fun _ _ h9 => h9.2) (fun r1 H locs hw2 hP hD hS => ?_)
  obtain ⟨hw2, -⟩ := hw2
  refine lv_if_eq (tgt := 24) hx hb dX7_way_5 (by decide) (fun c3 => ?_) (fun c3 => ?_)
  · skip
    have hc3 : ¬ (0 ≤ p0 ∧ p0 ≤ (nI nl) - 1) := bz_0 hw2 c3
    refine lv_iconst (v := (-1)) hx hb dX7_way_24 (by decide) ?_
    refine k_iret (u := [(oX7 x x0 x1 x2 x3 x4 x5), (oX4 x1 x0 s1 s2 (nI pn) si4 s5 s6 s7 s8 s9 s10 s11 si12 si13), (oX0 x0 b0 b1 b2 b3 b4 b5 b6 b7 b8 b9 b10 b11 (nI np) (nI nl) bi14), (oX6 s1 w0 w1 w2 w3 w4 (nI wn) wi6 (nI lv) w8), (oX2 s2 d0 d1 d2), (aIc cI b0 8 B0), (aIc cI b1 8 B1), (aIc cI b2 8 B2), (aIc cI b3 8 B3), (aIc cI b4 8 B4), (aIc cI b6 8 B6), (aIc cI b8 64 B8), (aIc cI b10 10 B10), (aIc cI b11 10 B11), (aIc cI s5 8 S5), (aIc cI s6 8 S6), (aIc cI s7 8 S7), (aIc cI s8 8 S8), (aIc cI s9 8 S9), (aIc cI s10 8 S10), (aIc cI s11 8 S11), (aIc cI w0 8 W0), (aIc cI w1 8 W1), (aIc cI w2 8 W2), (aIc cI w3 8 W3), (aIc cI w4 8 W4), (aIc cI w8 8 W8), (aIc cI d0 8 D0), (aIc cI d1 8 D1), (aJc cJ d2 8 D2), (aIc cI b5 8 B5), (oX5 x2 y0 y1), (aIc cI y0 8 Y0), (aIc cI y1 8 Y1)]) hx hb hr hlk hP hD hS dX7_way_25 ?_
    exact ⟨S5, S6, S7, S8, S9, S10, S11, W1, W2, W3, W4, W8, D0, D1, D2, si12, si13, wi6, lv, W0, si4, wn, pn, Y0, Y1, (by omega), (by omega), (by first | omega | exact ev_lt hnp), rfl⟩
  · skip
    have hc3 : 0 ≤ p0 ∧ p0 ≤ (nI nl) - 1 := bz_1 hw2 c3
    refine lv_aload_n hx hb dX7_way_8 rfl (lv_at hl 0 rfl) ?_
    refine lv_iload_n hx hb dX7_way_9 rfl (lv_at hl 2 rfl) ?_
    refine k_iS (va_runV (As := [.int p1]) (rest := []) ⟨hx, hb, hml, hown, hts⟩ (m_X7_isPolicy l D cI cJ H.size x x0 x1 x2 x3 x4 x5 b0 b1 b2 b3 b4 b5 b6 b7 b8 b9 b10 b11 (nI np) (nI nl) bi14 p1) (cwV 1 hts gX7_way_X7_isPolicy rfl rfl rfl (by decide +kernel) ⟨Nat.le_of_ble_eq_true rfl, Nat.le_of_ble_eq_true rfl⟩) (k_preV hE hP hD [0, 2] (by decide +kernel) rfl 0 rfl rfl) rfl rfl hl.1 rfl (lv_room (Nat.le_of_ble_eq_true rfl)) dX7_way_10 ⟨Nat.le_of_ble_eq_true rfl, Nat.le_of_ble_eq_true rfl⟩) hP hD hS hA [0, 2] rfl (fun _ _ h9 => h9.2) (fun r4 H locs hw5 hP hD hS => ?_)
    obtain ⟨hw5, -⟩ := hw5
    refine lv_if_eq (tgt := 24) hx hb dX7_way_13 (by decide) (fun c6 => ?_) (fun c6 => ?_)
    · skip
      have hc6 : ¬ (0 ≤ p1 ∧ p1 ≤ (nI np) - 1) := bz_0 hw5 c6
      refine lv_iconst (v := (-1)) hx hb dX7_way_24 (by decide) ?_
      refine k_iret (u := [(oX7 x x0 x1 x2 x3 x4 x5), (oX4 x1 x0 s1 s2 (nI pn) si4 s5 s6 s7 s8 s9 s10 s11 si12 si13), (oX0 x0 b0 b1 b2 b3 b4 b5 b6 b7 b8 b9 b10 b11 (nI np) (nI nl) bi14), (oX6 s1 w0 w1 w2 w3 w4 (nI wn) wi6 (nI lv) w8), (oX2 s2 d0 d1 d2), (aIc cI b0 8 B0), (aIc cI b1 8 B1), (aIc cI b2 8 B2), (aIc cI b3 8 B3), (aIc cI b4 8 B4), (aIc cI b6 8 B6), (aIc cI b8 64 B8), (aIc cI b10 10 B10), (aIc cI b11 10 B11), (aIc cI s5 8 S5), (aIc cI s6 8 S6), (aIc cI s7 8 S7), (aIc cI s8 8 S8), (aIc cI s9 8 S9), (aIc cI s10 8 S10), (aIc cI s11 8 S11), (aIc cI w0 8 W0), (aIc cI w1 8 W1), (aIc cI w2 8 W2), (aIc cI w3 8 W3), (aIc cI w4 8 W4), (aIc cI w8 8 W8), (aIc cI d0 8 D0), (aIc cI d1 8 D1), (aJc cJ d2 8 D2), (aIc cI b5 8 B5), (oX5 x2 y0 y1), (aIc cI y0 8 Y0), (aIc cI y1 8 Y1)]) hx hb hr hlk hP hD hS dX7_way_25 ?_
      exact ⟨S5, S6, S7, S8, S9, S10, S11, W1, W2, W3, W4, W8, D0, D1, D2, si12, si13, wi6, lv, W0, si4, wn, pn, Y0, Y1, (by omega), (by omega), (by first | omega | exact ev_lt hnp), rfl⟩
    · skip
      have hc6 : 0 ≤ p1 ∧ p1 ≤ (nI np) - 1 := bz_1 hw5 c6
      refine lv_aload_n hx hb dX7_way_16 rfl (lv_at hl 0 rfl) ?_
      refine lv_iload_n hx hb dX7_way_17 rfl (lv_at hl 3 rfl) ?_
      refine k_iS (va_runV (As := [.int p2]) (rest := []) ⟨hx, hb, hml, hown, hts⟩ (m_X7_isPolicy l D cI cJ H.size x x0 x1 x2 x3 x4 x5 b0 b1 b2 b3 b4 b5 b6 b7 b8 b9 b10 b11 (nI np) (nI nl) bi14 p2) (cwV 1 hts gX7_way_X7_isPolicy rfl rfl rfl (by decide +kernel) ⟨Nat.le_of_ble_eq_true rfl, Nat.le_of_ble_eq_true rfl⟩) (k_preV hE hP hD [0, 2] (by decide +kernel) rfl 0 rfl rfl) rfl rfl hl.1 rfl (lv_room (Nat.le_of_ble_eq_true rfl)) dX7_way_18 ⟨Nat.le_of_ble_eq_true rfl, Nat.le_of_ble_eq_true rfl⟩) hP hD hS hA [0, 2] rfl (fun _ _ h9 => h9.2) (fun r7 H locs hw8 hP hD hS => ?_)
      obtain ⟨hw8, -⟩ := hw8
      refine lv_if_ne (tgt := 26) hx hb dX7_way_21 (by decide) (fun c9 => ?_) (fun c9 => ?_)
      · skip
        have hc9 : 0 ≤ p2 ∧ p2 ≤ (nI np) - 1 := bz_1 hw8 c9
        obtain ⟨lj, hlj, elj⟩ := wi_n (by omega) hc3
        rw [elj] at hl
        obtain ⟨pj, hpj, epj⟩ := wi_n (by omega) hc6
        rw [epj] at hl
        obtain ⟨qj, hqj, eqj⟩ := wi_n (by omega) hc9
        rw [eqj] at hl
        refine lv_aload_n hx hb dX7_way_26 rfl (lv_at hl 0 rfl) ?_
        refine lv_iload_n hx hb dX7_way_27 rfl (lv_at hl 1 rfl) ?_
        refine k_v (va_runV (As := [.int (nI lj)]) (rest := []) ⟨hx, hb, hml, hown, hts⟩ (m_X7_settle l D cI cJ H.size x x0 x1 x2 x3 x4 x5 s1 s2 s5 s6 s7 s8 s9 s10 s11 b0 b1 b2 b3 b4 b5 b6 b7 b8 b9 b10 b11 w0 w1 w2 w3 w4 w8 d0 d1 d2 wn lv np nl pn si4 si12 si13 bi14 wi6 (nI lj) B0 B1 B2 B3 B4 B6 B8 B10 B11 S5 S6 S7 S8 S9 S10 S11 W0 W1 W2 W3 W4 W8 D0 D1 D2 B5 (by omega) (by omega) (by omega) (by omega) (by omega) (by omega)) (cwV 1 hts gX7_way_X7_settle rfl rfl rfl (by decide +kernel) ⟨Nat.le_of_ble_eq_true rfl, Nat.le_of_ble_eq_true rfl⟩) (k_preV hE hP hD [0, 1, 2, 3, 4, 5, 6, 7, 8, 9, 10, 11, 12, 13, 14, 15, 16, 17, 18, 19, 20, 21, 22, 23, 24, 25, 26, 27, 28, 29, 30] (by decide +kernel) rfl 0 rfl rfl) rfl rfl hl.1 rfl (lv_room (Nat.le_of_ble_eq_true rfl)) dX7_way_28 ⟨Nat.le_of_ble_eq_true rfl, Nat.le_of_ble_eq_true rfl⟩) hP hD hS hA [0, 1, 2, 3, 4, 5, 6, 7, 8, 9, 10, 11, 12, 13, 14, 15, 16, 17, 18, 19, 20, 21, 22, 23, 24, 25, 26, 27, 28, 29, 30] [31, 32, 33] rfl (wr := [(oX5 x2 y0 y1), (aIc cI y0 8 Y0), (aIc cI y1 8 Y1)]) rfl (by decide +kernel) (by decide +kernel) (fun u H locs hw10 hP hD hS => ?_)
        obtain ⟨z11, z12, z13, z14, z15, z16, z17, z18, z19, z20, z21, z22, z23, z24, z25, z26, z27, z28, z29, z30, z31, z32, z33, hz34, hz35, hz36, rfl⟩ := hw10
        refine k_re (w := [(oX5 x2 y0 y1), (aIc cI y0 8 Y0), (aIc cI y1 8 Y1), (oX7 x x0 x1 x2 x3 x4 x5), (oX4 x1 x0 s1 s2 (nI z33) z31 s5 s6 s7 s8 s9 s10 s11 z26 z27), (oX0 x0 b0 b1 b2 b3 b4 b5 b6 b7 b8 b9 b10 b11 (nI np) (nI nl) bi14), (oX6 s1 w0 w1 w2 w3 w4 (nI z32) z28 (nI z29) w8), (oX2 s2 d0 d1 d2), (aIc cI b0 8 B0), (aIc cI b1 8 B1), (aIc cI b2 8 B2), (aIc cI b3 8 B3), (aIc cI b4 8 B4), (aIc cI b6 8 B6), (aIc cI b8 64 B8), (aIc cI b10 10 B10), (aIc cI b11 10 B11), (aIc cI s5 8 z11), (aIc cI s6 8 z12), (aIc cI s7 8 z13), (aIc cI s8 8 z14), (aIc cI s9 8 z15), (aIc cI s10 8 z16), (aIc cI s11 8 z17), (aIc cI w0 8 z30), (aIc cI w1 8 z18), (aIc cI w2 8 z19), (aIc cI w3 8 z20), (aIc cI w4 8 z21), (aIc cI w8 8 z22), (aIc cI d0 8 z23), (aIc cI d1 8 z24), (aJc cJ d2 8 z25), (aIc cI b5 8 B5)]) hP hD (fun hP hD => ?_)
        refine lv_aload_n hx hb dX7_way_31 rfl (lv_at hl 0 rfl) ?_
        refine va_get (D := D) (ci := 7) (v := .ref x2) (C := RX7) (T := TX7) (N := 6) hx hb hts hiX7 hown hE.1 hP 3 rfl rfl 2 (by decide) (hts _ (List.mem_cons_of_mem _ wd_23)) (fun _ h9 => h9) rfl dX7_way_32 ?_
        refine lv_aload_n hx hb dX7_way_35 rfl (lv_at hl 0 rfl) ?_
        refine va_get (D := D) (ci := 7) (v := .ref x1) (C := RX7) (T := TX7) (N := 6) hx hb hts hiX7 hown hE.1 hP 3 rfl rfl 1 (by decide) (hts _ (List.mem_cons_of_mem _ wd_17)) (fun _ h9 => h9) rfl dX7_way_36 ?_
        refine va_get (D := D) (ci := 4) (v := .ref s1) (C := RX4) (T := TX4) (N := 14) hx hb hts hiX4 hown hE.1 hP 4 rfl rfl 1 (by decide) (hts _ (List.mem_cons_of_mem _ wd_514)) (fun _ h9 => h9) rfl dX7_way_39 ?_
        refine va_get (D := D) (ci := 6) (v := .ref w1) (C := RX6) (T := TX6) (N := 9) hx hb hts hiX6 hown hE.1 hP 6 rfl rfl 1 (by decide) (hts _ (List.mem_cons_of_mem _ wd_585)) (fun _ h9 => h9) rfl dX7_way_42 ?_
        refine lv_iload_n hx hb dX7_way_45 rfl (lv_at hl 2 rfl) ?_
        refine lv_iload_n hx hb dX7_way_46 rfl (lv_at hl 3 rfl) ?_
        refine k_i (va_runV (As := [.ref w1, .int (nI pj), .int (nI qj)]) (rest := []) ⟨hx, hb, hml, hown, hts⟩ (m_X5_find l D cI cJ H.size x2 y0 y1 w1 pj qj z18 Y0 Y1 (by omega) (by omega)) (cwV 3 hts gX7_way_X5_find rfl rfl rfl (by decide +kernel) ⟨Nat.le_of_ble_eq_true rfl, Nat.le_of_ble_eq_true rfl⟩) (k_preV hE hP hD [0, 25, 1, 2] (by decide +kernel) rfl 0 rfl rfl) rfl rfl hl.1 rfl (lv_room (Nat.le_of_ble_eq_true rfl)) dX7_way_47 ⟨Nat.le_of_ble_eq_true rfl, Nat.le_of_ble_eq_true rfl⟩) hP hD hS hA [0, 25, 1, 2] [3, 4, 5, 6, 7, 8, 9, 10, 11, 12, 13, 14, 15, 16, 17, 18, 19, 20, 21, 22, 23, 24, 26, 27, 28, 29, 30, 31, 32, 33] rfl (wr := [(oX7 x x0 x1 x2 x3 x4 x5), (oX4 x1 x0 s1 s2 (nI z33) z31 s5 s6 s7 s8 s9 s10 s11 z26 z27), (oX0 x0 b0 b1 b2 b3 b4 b5 b6 b7 b8 b9 b10 b11 (nI np) (nI nl) bi14), (oX6 s1 w0 w1 w2 w3 w4 (nI z32) z28 (nI z29) w8), (oX2 s2 d0 d1 d2), (aIc cI b0 8 B0), (aIc cI b1 8 B1), (aIc cI b2 8 B2), (aIc cI b3 8 B3), (aIc cI b4 8 B4), (aIc cI b6 8 B6), (aIc cI b8 64 B8), (aIc cI b10 10 B10), (aIc cI b11 10 B11), (aIc cI s5 8 z11), (aIc cI s6 8 z12), (aIc cI s7 8 z13), (aIc cI s8 8 z14), (aIc cI s9 8 z15), (aIc cI s10 8 z16), (aIc cI s11 8 z17), (aIc cI w0 8 z30), (aIc cI w2 8 z19), (aIc cI w3 8 z20), (aIc cI w4 8 z21), (aIc cI w8 8 z22), (aIc cI d0 8 z23), (aIc cI d1 8 z24), (aJc cJ d2 8 z25), (aIc cI b5 8 B5)]) rfl (by decide +kernel) (by decide +kernel) (fun r37 u H locs hw38 hP hD hS => ?_)
        obtain ⟨z39, z40, z41, hz42, rfl, rfl⟩ := hw38
        refine k_re (w := [(oX7 x x0 x1 x2 x3 x4 x5), (oX4 x1 x0 s1 s2 (nI z33) z31 s5 s6 s7 s8 s9 s10 s11 z26 z27), (oX0 x0 b0 b1 b2 b3 b4 b5 b6 b7 b8 b9 b10 b11 (nI np) (nI nl) bi14), (oX6 s1 w0 w1 w2 w3 w4 (nI z32) z28 (nI z29) w8), (oX2 s2 d0 d1 d2), (aIc cI b0 8 B0), (aIc cI b1 8 B1), (aIc cI b2 8 B2), (aIc cI b3 8 B3), (aIc cI b4 8 B4), (aIc cI b6 8 B6), (aIc cI b8 64 B8), (aIc cI b10 10 B10), (aIc cI b11 10 B11), (aIc cI s5 8 z11), (aIc cI s6 8 z12), (aIc cI s7 8 z13), (aIc cI s8 8 z14), (aIc cI s9 8 z15), (aIc cI s10 8 z16), (aIc cI s11 8 z17), (aIc cI w0 8 z30), (aIc cI w2 8 z19), (aIc cI w3 8 z20), (aIc cI w4 8 z21), (aIc cI w8 8 z22), (aIc cI d0 8 z23), (aIc cI d1 8 z24), (aJc cJ d2 8 z25), (aIc cI b5 8 B5), (oX5 x2 y0 y1), (aIc cI w1 8 z18), (aIc cI y0 8 z40), (aIc cI y1 8 z41)]) hP hD (fun hP hD => ?_)
        refine lv_istore (lv' := [(5, .int (nI z39)), (0, .ref x), (1, .int (nI lj)), (2, .int (nI pj)), (3, .int (nI qj)), (4, .int p3)]) hx hb dX7_way_50 hl (by decide) rfl (fun ls hl => ?_)
        refine lv_iload hx hb dX7_way_52 (lv_at hl 0 rfl) ?_
        refine lv_if_ne (tgt := 59) hx hb dX7_way_54 (by decide) (fun c43 => ?_) (fun c43 => ?_)
        · skip
          have nc43 : ¬ z39 = 0 := fun q9 => c43 ((nI_eq (a := z39) (b := 0) (by omega) (by omega)).mpr q9)
          refine lv_iload hx hb dX7_way_59 (lv_at hl 5 rfl) ?_
          refine lv_iconst (v := (-1)) hx hb dX7_way_61 (by decide) ?_
          refine lv_icmp_ne (tgt := 68) hx hb dX7_way_62 (by decide) (fun c44 => ?_) (fun c44 => ?_)
          · skip
            refine lv_iload hx hb dX7_way_68 (lv_at hl 5 rfl) ?_
            refine lv_iconst (v := 0) hx hb dX7_way_70 (by decide) ?_
            refine lv_iload hx hb dX7_way_71 (lv_at hl 0 rfl) ?_
            refine lv_iconst (v := 1) hx hb dX7_way_73 (by decide) ?_
            refine lv_isub hx hb dX7_way_74 ?_
            refine lv_topi (fun v45 ev45 => ?_)
            refine k_iS (va_runS (As := [.int p3, .int 0, .int v45]) (rest := []) ⟨hx, hb, hml, hown, hts⟩ (m_X7_within l D cI cJ H.size p3 0 v45) (va_cwS 3 hts gX7_way_X7_within rfl rfl rfl (by decide +kernel) ⟨Nat.le_of_ble_eq_true rfl, Nat.le_of_ble_eq_true rfl⟩) (k_pre hE hP hD [] (by decide +kernel) rfl) rfl rfl hl.1 rfl (lv_room (Nat.le_of_ble_eq_true rfl)) dX7_way_75 ⟨Nat.le_of_ble_eq_true rfl, Nat.le_of_ble_eq_true rfl⟩) hP hD hS hA [] rfl (fun _ _ h9 => h9.2) (fun r46 H locs hw47 hP hD hS => ?_)
            obtain ⟨hw47, -⟩ := hw47
            refine lv_if_eq (tgt := 94) hx hb dX7_way_78 (by decide) (fun c48 => ?_) (fun c48 => ?_)
            · skip
              have hc48 : ¬ (0 ≤ p3 ∧ p3 ≤ v45) := bz_0 hw47 c48
              refine lv_iconst (v := (-1)) hx hb dX7_way_94 (by decide) ?_
              refine k_iret (u := [(oX7 x x0 x1 x2 x3 x4 x5), (oX4 x1 x0 s1 s2 (nI z33) z31 s5 s6 s7 s8 s9 s10 s11 z26 z27), (oX0 x0 b0 b1 b2 b3 b4 b5 b6 b7 b8 b9 b10 b11 (nI np) (nI nl) bi14), (oX6 s1 w0 w1 w2 w3 w4 (nI z32) z28 (nI z29) w8), (oX2 s2 d0 d1 d2), (aIc cI b0 8 B0), (aIc cI b1 8 B1), (aIc cI b2 8 B2), (aIc cI b3 8 B3), (aIc cI b4 8 B4), (aIc cI b6 8 B6), (aIc cI b8 64 B8), (aIc cI b10 10 B10), (aIc cI b11 10 B11), (aIc cI s5 8 z11), (aIc cI s6 8 z12), (aIc cI s7 8 z13), (aIc cI s8 8 z14), (aIc cI s9 8 z15), (aIc cI s10 8 z16), (aIc cI s11 8 z17), (aIc cI w0 8 z30), (aIc cI w1 8 z18), (aIc cI w2 8 z19), (aIc cI w3 8 z20), (aIc cI w4 8 z21), (aIc cI w8 8 z22), (aIc cI d0 8 z23), (aIc cI d1 8 z24), (aJc cJ d2 8 z25), (aIc cI b5 8 B5), (oX5 x2 y0 y1), (aIc cI y0 8 z40), (aIc cI y1 8 z41)]) hx hb hr hlk (k_sub hP [0, 1, 2, 3, 4, 5, 6, 7, 8, 9, 10, 11, 12, 13, 14, 15, 16, 17, 18, 19, 20, 21, 31, 22, 23, 24, 25, 26, 27, 28, 29, 30, 32, 33] rfl) (hD.sub [0, 1, 2, 3, 4, 5, 6, 7, 8, 9, 10, 11, 12, 13, 14, 15, 16, 17, 18, 19, 20, 21, 31, 22, 23, 24, 25, 26, 27, 28, 29, 30, 32, 33] (by decide +kernel) rfl) hS dX7_way_95 ?_
              exact ⟨z11, z12, z13, z14, z15, z16, z17, z18, z19, z20, z21, z22, z23, z24, z25, z26, z27, z28, z29, z30, z31, z32, z33, z40, z41, (by omega), (by omega), (by first | omega | exact ev_lt hnp), rfl⟩
            · skip
              have hc48 : 0 ≤ p3 ∧ p3 ≤ v45 := bz_1 hw47 c48
              obtain ⟨kj, hkj, ekj⟩ := wi_n (n := z39) (by omega) (by rw [← ev45]; exact hc48)
              rw [ekj] at hl
              refine lv_aload_n hx hb dX7_way_81 rfl (lv_at hl 1 rfl) ?_
              refine va_get (D := D) (ci := 7) (v := .ref x2) (C := RX7) (T := TX7) (N := 6) hx hb hts hiX7 hown hE.1 hP 0 rfl rfl 2 (by decide) (hts _ (List.mem_cons_of_mem _ wd_23)) (fun _ h9 => h9) rfl dX7_way_82 ?_
              refine va_get (D := D) (ci := 5) (v := .ref y0) (C := RX5) (T := TX5) (N := 2) hx hb hts hiX5 hown hE.1 hP 30 rfl rfl 0 (by decide) (hts _ (List.mem_cons_of_mem _ wd_697)) (fun _ h9 => h9) rfl dX7_way_85 ?_
              refine lv_iload hx hb dX7_way_88 (lv_at hl 5 rfl) ?_
              refine va_iald hx hb hE.1 hP 32 0 rfl rfl (vp_in_nI (n := kj) (by omega) (by decide)) dX7_way_90 ?_
              refine lv_topi (fun v49 ev49 => ?_)
              refine lv_goto (tgt := 95) hx hb dX7_way_91 (by decide) ?_
              refine k_iret (u := [(oX7 x x0 x1 x2 x3 x4 x5), (oX4 x1 x0 s1 s2 (nI z33) z31 s5 s6 s7 s8 s9 s10 s11 z26 z27), (oX0 x0 b0 b1 b2 b3 b4 b5 b6 b7 b8 b9 b10 b11 (nI np) (nI nl) bi14), (oX6 s1 w0 w1 w2 w3 w4 (nI z32) z28 (nI z29) w8), (oX2 s2 d0 d1 d2), (aIc cI b0 8 B0), (aIc cI b1 8 B1), (aIc cI b2 8 B2), (aIc cI b3 8 B3), (aIc cI b4 8 B4), (aIc cI b6 8 B6), (aIc cI b8 64 B8), (aIc cI b10 10 B10), (aIc cI b11 10 B11), (aIc cI s5 8 z11), (aIc cI s6 8 z12), (aIc cI s7 8 z13), (aIc cI s8 8 z14), (aIc cI s9 8 z15), (aIc cI s10 8 z16), (aIc cI s11 8 z17), (aIc cI w0 8 z30), (aIc cI w1 8 z18), (aIc cI w2 8 z19), (aIc cI w3 8 z20), (aIc cI w4 8 z21), (aIc cI w8 8 z22), (aIc cI d0 8 z23), (aIc cI d1 8 z24), (aJc cJ d2 8 z25), (aIc cI b5 8 B5), (oX5 x2 y0 y1), (aIc cI y0 8 z40), (aIc cI y1 8 z41)]) hx hb hr hlk (k_sub hP [0, 1, 2, 3, 4, 5, 6, 7, 8, 9, 10, 11, 12, 13, 14, 15, 16, 17, 18, 19, 20, 21, 31, 22, 23, 24, 25, 26, 27, 28, 29, 30, 32, 33] rfl) (hD.sub [0, 1, 2, 3, 4, 5, 6, 7, 8, 9, 10, 11, 12, 13, 14, 15, 16, 17, 18, 19, 20, 21, 31, 22, 23, 24, 25, 26, 27, 28, 29, 30, 32, 33] (by decide +kernel) rfl) hS dX7_way_95 ?_
              exact ⟨z11, z12, z13, z14, z15, z16, z17, z18, z19, z20, z21, z22, z23, z24, z25, z26, z27, z28, z29, z30, z31, z32, z33, z40, z41, (by omega), (by omega), (by first | omega | exact ev_lt hnp), rfl⟩
          · skip
            refine lv_iload hx hb dX7_way_65 (lv_at hl 0 rfl) ?_
            refine k_iret (u := [(oX7 x x0 x1 x2 x3 x4 x5), (oX4 x1 x0 s1 s2 (nI z33) z31 s5 s6 s7 s8 s9 s10 s11 z26 z27), (oX0 x0 b0 b1 b2 b3 b4 b5 b6 b7 b8 b9 b10 b11 (nI np) (nI nl) bi14), (oX6 s1 w0 w1 w2 w3 w4 (nI z32) z28 (nI z29) w8), (oX2 s2 d0 d1 d2), (aIc cI b0 8 B0), (aIc cI b1 8 B1), (aIc cI b2 8 B2), (aIc cI b3 8 B3), (aIc cI b4 8 B4), (aIc cI b6 8 B6), (aIc cI b8 64 B8), (aIc cI b10 10 B10), (aIc cI b11 10 B11), (aIc cI s5 8 z11), (aIc cI s6 8 z12), (aIc cI s7 8 z13), (aIc cI s8 8 z14), (aIc cI s9 8 z15), (aIc cI s10 8 z16), (aIc cI s11 8 z17), (aIc cI w0 8 z30), (aIc cI w1 8 z18), (aIc cI w2 8 z19), (aIc cI w3 8 z20), (aIc cI w4 8 z21), (aIc cI w8 8 z22), (aIc cI d0 8 z23), (aIc cI d1 8 z24), (aJc cJ d2 8 z25), (aIc cI b5 8 B5), (oX5 x2 y0 y1), (aIc cI y0 8 z40), (aIc cI y1 8 z41)]) hx hb hr hlk (k_sub hP [0, 1, 2, 3, 4, 5, 6, 7, 8, 9, 10, 11, 12, 13, 14, 15, 16, 17, 18, 19, 20, 21, 31, 22, 23, 24, 25, 26, 27, 28, 29, 30, 32, 33] rfl) (hD.sub [0, 1, 2, 3, 4, 5, 6, 7, 8, 9, 10, 11, 12, 13, 14, 15, 16, 17, 18, 19, 20, 21, 31, 22, 23, 24, 25, 26, 27, 28, 29, 30, 32, 33] (by decide +kernel) rfl) hS dX7_way_67 ?_
            exact ⟨z11, z12, z13, z14, z15, z16, z17, z18, z19, z20, z21, z22, z23, z24, z25, z26, z27, z28, z29, z30, z31, z32, z33, z40, z41, (by omega), (by omega), (by first | omega | exact ev_lt hnp), rfl⟩
        · skip
          have nc43 : z39 = 0 := (nI_eq (a := z39) (b := 0) (by omega) (by omega)).mp c43
          refine lv_iconst (v := (-1)) hx hb dX7_way_57 (by decide) ?_
          refine k_iret (u := [(oX7 x x0 x1 x2 x3 x4 x5), (oX4 x1 x0 s1 s2 (nI z33) z31 s5 s6 s7 s8 s9 s10 s11 z26 z27), (oX0 x0 b0 b1 b2 b3 b4 b5 b6 b7 b8 b9 b10 b11 (nI np) (nI nl) bi14), (oX6 s1 w0 w1 w2 w3 w4 (nI z32) z28 (nI z29) w8), (oX2 s2 d0 d1 d2), (aIc cI b0 8 B0), (aIc cI b1 8 B1), (aIc cI b2 8 B2), (aIc cI b3 8 B3), (aIc cI b4 8 B4), (aIc cI b6 8 B6), (aIc cI b8 64 B8), (aIc cI b10 10 B10), (aIc cI b11 10 B11), (aIc cI s5 8 z11), (aIc cI s6 8 z12), (aIc cI s7 8 z13), (aIc cI s8 8 z14), (aIc cI s9 8 z15), (aIc cI s10 8 z16), (aIc cI s11 8 z17), (aIc cI w0 8 z30), (aIc cI w1 8 z18), (aIc cI w2 8 z19), (aIc cI w3 8 z20), (aIc cI w4 8 z21), (aIc cI w8 8 z22), (aIc cI d0 8 z23), (aIc cI d1 8 z24), (aJc cJ d2 8 z25), (aIc cI b5 8 B5), (oX5 x2 y0 y1), (aIc cI y0 8 z40), (aIc cI y1 8 z41)]) hx hb hr hlk (k_sub hP [0, 1, 2, 3, 4, 5, 6, 7, 8, 9, 10, 11, 12, 13, 14, 15, 16, 17, 18, 19, 20, 21, 31, 22, 23, 24, 25, 26, 27, 28, 29, 30, 32, 33] rfl) (hD.sub [0, 1, 2, 3, 4, 5, 6, 7, 8, 9, 10, 11, 12, 13, 14, 15, 16, 17, 18, 19, 20, 21, 31, 22, 23, 24, 25, 26, 27, 28, 29, 30, 32, 33] (by decide +kernel) rfl) hS dX7_way_58 ?_
          exact ⟨z11, z12, z13, z14, z15, z16, z17, z18, z19, z20, z21, z22, z23, z24, z25, z26, z27, z28, z29, z30, z31, z32, z33, z40, z41, (by omega), (by omega), (by first | omega | exact ev_lt hnp), rfl⟩
      · skip
        have hc9 : ¬ (0 ≤ p2 ∧ p2 ≤ (nI np) - 1) := bz_0 hw8 c9
        refine lv_iconst (v := (-1)) hx hb dX7_way_24 (by decide) ?_
        refine k_iret (u := [(oX7 x x0 x1 x2 x3 x4 x5), (oX4 x1 x0 s1 s2 (nI pn) si4 s5 s6 s7 s8 s9 s10 s11 si12 si13), (oX0 x0 b0 b1 b2 b3 b4 b5 b6 b7 b8 b9 b10 b11 (nI np) (nI nl) bi14), (oX6 s1 w0 w1 w2 w3 w4 (nI wn) wi6 (nI lv) w8), (oX2 s2 d0 d1 d2), (aIc cI b0 8 B0), (aIc cI b1 8 B1), (aIc cI b2 8 B2), (aIc cI b3 8 B3), (aIc cI b4 8 B4), (aIc cI b6 8 B6), (aIc cI b8 64 B8), (aIc cI b10 10 B10), (aIc cI b11 10 B11), (aIc cI s5 8 S5), (aIc cI s6 8 S6), (aIc cI s7 8 S7), (aIc cI s8 8 S8), (aIc cI s9 8 S9), (aIc cI s10 8 S10), (aIc cI s11 8 S11), (aIc cI w0 8 W0), (aIc cI w1 8 W1), (aIc cI w2 8 W2), (aIc cI w3 8 W3), (aIc cI w4 8 W4), (aIc cI w8 8 W8), (aIc cI d0 8 D0), (aIc cI d1 8 D1), (aJc cJ d2 8 D2), (aIc cI b5 8 B5), (oX5 x2 y0 y1), (aIc cI y0 8 Y0), (aIc cI y1 8 Y1)]) hx hb hr hlk hP hD hS dX7_way_25 ?_
        exact ⟨S5, S6, S7, S8, S9, S10, S11, W1, W2, W3, W4, W8, D0, D1, D2, si12, si13, wi6, lv, W0, si4, wn, pn, Y0, Y1, (by omega), (by omega), (by first | omega | exact ev_lt hnp), rfl⟩
theorem dX7_claimed_0 : decode cX7_claimed 0 = .ok (.aload_n 0, 1) := by decide +kernel
theorem dX7_claimed_1 : decode cX7_claimed 1 = .ok (.iload_n 1, 1) := by decide +kernel
theorem dX7_claimed_2 : decode cX7_claimed 2 = .ok (.invokevirtual 137, 3) := by decide +kernel
theorem dX7_claimed_5 : decode cX7_claimed 5 = .ok (.ifCond .eq 30, 3) := by decide +kernel
theorem dX7_claimed_8 : decode cX7_claimed 8 = .ok (.aload_n 0, 1) := by decide +kernel
theorem dX7_claimed_9 : decode cX7_claimed 9 = .ok (.iload 4, 2) := by decide +kernel
theorem dX7_claimed_11 : decode cX7_claimed 11 = .ok (.invokevirtual 228, 3) := by decide +kernel
theorem dX7_claimed_14 : decode cX7_claimed 14 = .ok (.ifCond .eq 21, 3) := by decide +kernel
theorem dX7_claimed_17 : decode cX7_claimed 17 = .ok (.aload_n 0, 1) := by decide +kernel
theorem dX7_claimed_18 : decode cX7_claimed 18 = .ok (.getfield 31, 3) := by decide +kernel
theorem dX7_claimed_21 : decode cX7_claimed 21 = .ok (.lload_n 2, 1) := by decide +kernel
theorem dX7_claimed_22 : decode cX7_claimed 22 = .ok (.aload_n 0, 1) := by decide +kernel
theorem dX7_claimed_23 : decode cX7_claimed 23 = .ok (.getfield 20, 3) := by decide +kernel
theorem dX7_claimed_26 : decode cX7_claimed 26 = .ok (.getfield 53, 3) := by decide +kernel
theorem dX7_claimed_29 : decode cX7_claimed 29 = .ok (.invokevirtual 231, 3) := by decide +kernel
theorem dX7_claimed_32 : decode cX7_claimed 32 = .ok (.ifCond .ne 5, 3) := by decide +kernel
theorem dX7_claimed_35 : decode cX7_claimed 35 = .ok (.iconst (-1), 1) := by decide +kernel
theorem dX7_claimed_36 : decode cX7_claimed 36 = .ok (.ireturn, 1) := by decide +kernel
theorem dX7_claimed_37 : decode cX7_claimed 37 = .ok (.aload_n 0, 1) := by decide +kernel
theorem dX7_claimed_38 : decode cX7_claimed 38 = .ok (.iload_n 1, 1) := by decide +kernel
theorem dX7_claimed_39 : decode cX7_claimed 39 = .ok (.invokevirtual 140, 3) := by decide +kernel
theorem dX7_claimed_42 : decode cX7_claimed 42 = .ok (.aload_n 0, 1) := by decide +kernel
theorem dX7_claimed_43 : decode cX7_claimed 43 = .ok (.getfield 31, 3) := by decide +kernel
theorem dX7_claimed_46 : decode cX7_claimed 46 = .ok (.aload_n 0, 1) := by decide +kernel
theorem dX7_claimed_47 : decode cX7_claimed 47 = .ok (.getfield 10, 3) := by decide +kernel
theorem dX7_claimed_50 : decode cX7_claimed 50 = .ok (.invokevirtual 235, 3) := by decide +kernel
theorem dX7_claimed_53 : decode cX7_claimed 53 = .ok (.iload 4, 2) := by decide +kernel
theorem dX7_claimed_55 : decode cX7_claimed 55 = .ok (.iconst (-1), 1) := by decide +kernel
theorem dX7_claimed_56 : decode cX7_claimed 56 = .ok (.if_icmp .ne 13, 3) := by decide +kernel
theorem dX7_claimed_59 : decode cX7_claimed 59 = .ok (.aload_n 0, 1) := by decide +kernel
theorem dX7_claimed_60 : decode cX7_claimed 60 = .ok (.getfield 31, 3) := by decide +kernel
theorem dX7_claimed_63 : decode cX7_claimed 63 = .ok (.getfield 239, 3) := by decide +kernel
theorem dX7_claimed_66 : decode cX7_claimed 66 = .ok (.goto 13, 3) := by decide +kernel
theorem dX7_claimed_69 : decode cX7_claimed 69 = .ok (.aload_n 0, 1) := by decide +kernel
theorem dX7_claimed_70 : decode cX7_claimed 70 = .ok (.getfield 31, 3) := by decide +kernel
theorem dX7_claimed_73 : decode cX7_claimed 73 = .ok (.getfield 242, 3) := by decide +kernel
theorem dX7_claimed_76 : decode cX7_claimed 76 = .ok (.iload 4, 2) := by decide +kernel
theorem dX7_claimed_78 : decode cX7_claimed 78 = .ok (.iaload, 1) := by decide +kernel
theorem dX7_claimed_79 : decode cX7_claimed 79 = .ok (.ireturn, 1) := by decide +kernel
theorem gX7_claimed_X1_pay : GoodIn wtX7_claimed (wsV RX7 235 RX1 yX1_pay wtX1_pay) := tb_good (tb_v0 wd_735 wd_736 wd_737 wd_26 wd_738)
theorem gX7_claimed_X1_read : GoodIn wtX7_claimed (wsV RX7 231 RX1 yX1_read wtX1_read) := tb_good (tb_v0 wd_729 wd_730 wd_731 wd_26 wd_732)
theorem gX7_claimed_X7_isLoss : GoodIn wtX7_claimed (wsV RX7 137 RX7 yX7_isLoss wtX7_isLoss) := tb_good (tb_v0 wd_519 wd_520 wd_521 wd_2 wd_522)
theorem gX7_claimed_X7_isPolicyOrNone : GoodIn wtX7_claimed (wsV RX7 228 RX7 yX7_isPolicyOrNone wtX7_isPolicyOrNone) := tb_good (tb_v0 wd_725 wd_726 wd_727 wd_2 wd_728)
theorem gX7_claimed_X7_settle : GoodIn wtX7_claimed (wsV RX7 140 RX7 yX7_settle wtX7_settle) := tb_good (tb_v0 wd_523 wd_524 wd_525 wd_2 wd_526)
set_option maxHeartbeats 4000000 in
set_option maxRecDepth 100000 in
theorem m_X7_claimed (l : Launch) (D : va_G) (cI cJ : ClassId) (sz : Nat) (x x0 x1 x2 x3 x4 x5 s1 s2 s5 s6 s7 s8 s9 s10 s11 b0 b1 b2 b3 b4 b5 b6 b7 b8 b9 b10 b11 w0 w1 w2 w3 w4 w8 d0 d1 d2 t0 t1 t2 t3 t6 t8 wn lv np nl pn pm : Nat) (si4 si12 si13 bi14 wi6 ti4 ti7 p0 p2 : Int32) (p1 : Int64) (B0 B1 B2 B3 B4 B6 B8 B10 B11 S5 S6 S7 S8 S9 S10 S11 W0 W1 W2 W3 W4 W8 D0 D1 : Nat → Int32) (D2 : Nat → Int64) (B5 T0 T6 : Nat → Int32) (hwn : wn < 256) (hlv : lv ≤ 8) (hli : ∀ k, k < 10 → ∃ j : Nat, j < 8 ∧ B10 k = nI j) (hnp : np ≤ 8) (hnl : nl ≤ 10) (hpn : pn < 256) (hor : ∀ k, k < 8 → ∃ j : Nat, j < 8 ∧ T6 k = nI j) : Met l yX7_claimed wtX7_claimed { frames := 6, cells := 0, slots := 0, locals := 146 } (cPc D cI cJ [.ref x, .int p0, .long p1, .int p2] sz [(oX7 x x0 x1 x2 x3 x4 x5), (oX4 x1 x0 s1 s2 (nI pn) si4 s5 s6 s7 s8 s9 s10 s11 si12 si13), (oX0 x0 b0 b1 b2 b3 b4 b5 b6 b7 b8 b9 b10 b11 (nI np) (nI nl) bi14), (oX6 s1 w0 w1 w2 w3 w4 (nI wn) wi6 (nI lv) w8), (oX2 s2 d0 d1 d2), (aIc cI b0 8 B0), (aIc cI b1 8 B1), (aIc cI b2 8 B2), (aIc cI b3 8 B3), (aIc cI b4 8 B4), (aIc cI b6 8 B6), (aIc cI b8 64 B8), (aIc cI b10 10 B10), (aIc cI b11 10 B11), (aIc cI s5 8 S5), (aIc cI s6 8 S6), (aIc cI s7 8 S7), (aIc cI s8 8 S8), (aIc cI s9 8 S9), (aIc cI s10 8 S10), (aIc cI s11 8 S11), (aIc cI w0 8 W0), (aIc cI w1 8 W1), (aIc cI w2 8 W2), (aIc cI w3 8 W3), (aIc cI w4 8 W4), (aIc cI w8 8 W8), (aIc cI d0 8 D0), (aIc cI d1 8 D1), (aJc cJ d2 8 D2), (aIc cI b5 8 B5), (oX1 x3 t0 t1 t2 t3 ti4 (nI pm) t6 ti7 t8), (aIc cI t0 8 T0), (aIc cI t6 8 T6)]) (cQi D (fun r u => ∃ (S5p S6p S7p S8p S9p S10p S11p W1p W2p W3p W4p W8p D0p D1p : Nat → Int32) (D2p : Nat → Int64) (si12p si13p wi6p : Int32) (lvp : Nat) (W0p : Nat → Int32) (si4p : Int32) (wnp pnp : Nat) (T0p T6p : Nat → Int32) (ti4p ti7p : Int32), (lvp ≤ 8) ∧ (wnp < 256) ∧ (pnp < 256) ∧ (∀ k, k < 8 → ∃ j : Nat, j < 8 ∧ T6p k = nI j) ∧ u = [(oX7 x x0 x1 x2 x3 x4 x5), (oX4 x1 x0 s1 s2 (nI pnp) si4p s5 s6 s7 s8 s9 s10 s11 si12p si13p), (oX0 x0 b0 b1 b2 b3 b4 b5 b6 b7 b8 b9 b10 b11 (nI np) (nI nl) bi14), (oX6 s1 w0 w1 w2 w3 w4 (nI wnp) wi6p (nI lvp) w8), (oX2 s2 d0 d1 d2), (aIc cI b0 8 B0), (aIc cI b1 8 B1), (aIc cI b2 8 B2), (aIc cI b3 8 B3), (aIc cI b4 8 B4), (aIc cI b6 8 B6), (aIc cI b8 64 B8), (aIc cI b10 10 B10), (aIc cI b11 10 B11), (aIc cI s5 8 S5p), (aIc cI s6 8 S6p), (aIc cI s7 8 S7p), (aIc cI s8 8 S8p), (aIc cI s9 8 S9p), (aIc cI s10 8 S10p), (aIc cI s11 8 S11p), (aIc cI w0 8 W0p), (aIc cI w1 8 W1p), (aIc cI w2 8 W2p), (aIc cI w3 8 W3p), (aIc cI w4 8 W4p), (aIc cI w8 8 W8p), (aIc cI d0 8 D0p), (aIc cI d1 8 D1p), (aJc cJ d2 8 D2p), (aIc cI b5 8 B5), (oX1 x3 t0 t1 t2 t3 ti4p (nI pm) t6 ti7p t8), (aIc cI t0 8 T0p), (aIc cI t6 8 T6p)]) (va_A [(oX7 x x0 x1 x2 x3 x4 x5), (oX4 x1 x0 s1 s2 (nI pn) si4 s5 s6 s7 s8 s9 s10 s11 si12 si13), (oX0 x0 b0 b1 b2 b3 b4 b5 b6 b7 b8 b9 b10 b11 (nI np) (nI nl) bi14), (oX6 s1 w0 w1 w2 w3 w4 (nI wn) wi6 (nI lv) w8), (oX2 s2 d0 d1 d2), (aIc cI b0 8 B0), (aIc cI b1 8 B1), (aIc cI b2 8 B2), (aIc cI b3 8 B3), (aIc cI b4 8 B4), (aIc cI b6 8 B6), (aIc cI b8 64 B8), (aIc cI b10 10 B10), (aIc cI b11 10 B11), (aIc cI s5 8 S5), (aIc cI s6 8 S6), (aIc cI s7 8 S7), (aIc cI s8 8 S8), (aIc cI s9 8 S9), (aIc cI s10 8 S10), (aIc cI s11 8 S11), (aIc cI w0 8 W0), (aIc cI w1 8 W1), (aIc cI w2 8 W2), (aIc cI w3 8 W3), (aIc cI w4 8 W4), (aIc cI w8 8 W8), (aIc cI d0 8 D0), (aIc cI d1 8 D1), (aJc cJ d2 8 D2), (aIc cI b5 8 B5), (oX1 x3 t0 t1 t2 t3 ti4 (nI pm) t6 ti7 t8), (aIc cI t0 8 T0), (aIc cI t6 8 T6)] sz)) 0 0 (va_A [(oX7 x x0 x1 x2 x3 x4 x5), (oX4 x1 x0 s1 s2 (nI pn) si4 s5 s6 s7 s8 s9 s10 s11 si12 si13), (oX0 x0 b0 b1 b2 b3 b4 b5 b6 b7 b8 b9 b10 b11 (nI np) (nI nl) bi14), (oX6 s1 w0 w1 w2 w3 w4 (nI wn) wi6 (nI lv) w8), (oX2 s2 d0 d1 d2), (aIc cI b0 8 B0), (aIc cI b1 8 B1), (aIc cI b2 8 B2), (aIc cI b3 8 B3), (aIc cI b4 8 B4), (aIc cI b6 8 B6), (aIc cI b8 64 B8), (aIc cI b10 10 B10), (aIc cI b11 10 B11), (aIc cI s5 8 S5), (aIc cI s6 8 S6), (aIc cI s7 8 S7), (aIc cI s8 8 S8), (aIc cI s9 8 S9), (aIc cI s10 8 S10), (aIc cI s11 8 S11), (aIc cI w0 8 W0), (aIc cI w1 8 W1), (aIc cI w2 8 W2), (aIc cI w3 8 W3), (aIc cI w4 8 W4), (aIc cI w8 8 W8), (aIc cI d0 8 D0), (aIc cI d1 8 D1), (aJc cJ d2 8 D2), (aIc cI b5 8 B5), (oX1 x3 t0 t1 t2 t3 ti4 (nI pm) t6 ti7 t8), (aIc cI t0 8 T0), (aIc cI t6 8 T6)] sz) := by
  refine k_ofW (Qc := cQi D (fun r u => ∃ (S5p S6p S7p S8p S9p S10p S11p W1p W2p W3p W4p W8p D0p D1p : Nat → Int32) (D2p : Nat → Int64) (si12p si13p wi6p : Int32) (lvp : Nat) (W0p : Nat → Int32) (si4p : Int32) (wnp pnp : Nat) (T0p T6p : Nat → Int32) (ti4p ti7p : Int32), (lvp ≤ 8) ∧ (wnp < 256) ∧ (pnp < 256) ∧ (∀ k, k < 8 → ∃ j : Nat, j < 8 ∧ T6p k = nI j) ∧ u = [(oX7 x x0 x1 x2 x3 x4 x5), (oX4 x1 x0 s1 s2 (nI pnp) si4p s5 s6 s7 s8 s9 s10 s11 si12p si13p), (oX0 x0 b0 b1 b2 b3 b4 b5 b6 b7 b8 b9 b10 b11 (nI np) (nI nl) bi14), (oX6 s1 w0 w1 w2 w3 w4 (nI wnp) wi6p (nI lvp) w8), (oX2 s2 d0 d1 d2), (aIc cI b0 8 B0), (aIc cI b1 8 B1), (aIc cI b2 8 B2), (aIc cI b3 8 B3), (aIc cI b4 8 B4), (aIc cI b6 8 B6), (aIc cI b8 64 B8), (aIc cI b10 10 B10), (aIc cI b11 10 B11), (aIc cI s5 8 S5p), (aIc cI s6 8 S6p), (aIc cI s7 8 S7p), (aIc cI s8 8 S8p), (aIc cI s9 8 S9p), (aIc cI s10 8 S10p), (aIc cI s11 8 S11p), (aIc cI w0 8 W0p), (aIc cI w1 8 W1p), (aIc cI w2 8 W2p), (aIc cI w3 8 W3p), (aIc cI w4 8 W4p), (aIc cI w8 8 W8p), (aIc cI d0 8 D0p), (aIc cI d1 8 D1p), (aJc cJ d2 8 D2p), (aIc cI b5 8 B5), (oX1 x3 t0 t1 t2 t3 ti4p (nI pm) t6 ti7p t8), (aIc cI t0 8 T0p), (aIc cI t6 8 T6p)])) (by decide) rfl (Nat.le_of_ble_eq_true rfl) ?_
  intro p e s m below meth c A ls hx hb hr hml hts hown hlk hnm hsz hE hP hD hS hA hl
  have hown : s.vm.findClass RX7 = some m.cls := hown
  have hiX7 : ∀ w ∈ u_ws RX7 TX7 6, w ∈ wtX7_claimed := fun w h => List.mem_cons_of_mem _ (iuX7 w h)
  have hiX0 : ∀ w ∈ u_ws RX0 TX0 15, w ∈ wtX7_claimed := fun w h => List.mem_cons_of_mem _ (iuX0 w h)
  have hiX1 : ∀ w ∈ u_ws RX1 TX1 9, w ∈ wtX7_claimed := fun w h => List.mem_cons_of_mem _ (iuX1 w h)
  have hl : lv_has ls 5 [(0, .ref x), (1, .int p0), (2, .long p1), (4, .int p2)] := hl
  refine lv_aload_n hx hb dX7_claimed_0 rfl (lv_at hl 0 rfl) ?_
  refine lv_iload_n hx hb dX7_claimed_1 rfl (lv_at hl 1 rfl) ?_
  refine k_iS (va_runV (As := [.int p0]) (rest := []) ⟨hx, hb, hml, hown, hts⟩ (m_X7_isLoss l D cI cJ (s.heap).size x x0 x1 x2 x3 x4 x5 b0 b1 b2 b3 b4 b5 b6 b7 b8 b9 b10 b11 (nI np) (nI nl) bi14 p0) (cwV 1 hts gX7_claimed_X7_isLoss rfl rfl rfl (by decide +kernel) ⟨Nat.le_of_ble_eq_true rfl, Nat.le_of_ble_eq_true rfl⟩) (k_preV hE hP hD [0, 2] (by decide +kernel) rfl 0 rfl rfl) rfl rfl hl.1 rfl (lv_room (Nat.le_of_ble_eq_true rfl)) dX7_claimed_2 ⟨Nat.le_of_ble_eq_true rfl, Nat.le_of_ble_eq_true rfl⟩) hP hD hS hA [0, 2] rfl (fun _ _ h9 => h9.2) (fun r1 H locs hw2 hP hD hS => ?_)
  obtain ⟨hw2, -⟩ := hw2
  refine lv_if_eq (tgt := 35) hx hb dX7_claimed_5 (by decide) (fun c3 => ?_) (fun c3 => ?_)
  · skip
    have hc3 : ¬ (0 ≤ p0 ∧ p0 ≤ (nI nl) - 1) := bz_0 hw2 c3
    refine lv_iconst (v := (-1)) hx hb dX7_claimed_35 (by decide) ?_
    refine k_iret (u := [(oX7 x x0 x1 x2 x3 x4 x5), (oX4 x1 x0 s1 s2 (nI pn) si4 s5 s6 s7 s8 s9 s10 s11 si12 si13), (oX0 x0 b0 b1 b2 b3 b4 b5 b6 b7 b8 b9 b10 b11 (nI np) (nI nl) bi14), (oX6 s1 w0 w1 w2 w3 w4 (nI wn) wi6 (nI lv) w8), (oX2 s2 d0 d1 d2), (aIc cI b0 8 B0), (aIc cI b1 8 B1), (aIc cI b2 8 B2), (aIc cI b3 8 B3), (aIc cI b4 8 B4), (aIc cI b6 8 B6), (aIc cI b8 64 B8), (aIc cI b10 10 B10), (aIc cI b11 10 B11), (aIc cI s5 8 S5), (aIc cI s6 8 S6), (aIc cI s7 8 S7), (aIc cI s8 8 S8), (aIc cI s9 8 S9), (aIc cI s10 8 S10), (aIc cI s11 8 S11), (aIc cI w0 8 W0), (aIc cI w1 8 W1), (aIc cI w2 8 W2), (aIc cI w3 8 W3), (aIc cI w4 8 W4), (aIc cI w8 8 W8), (aIc cI d0 8 D0), (aIc cI d1 8 D1), (aJc cJ d2 8 D2), (aIc cI b5 8 B5), (oX1 x3 t0 t1 t2 t3 ti4 (nI pm) t6 ti7 t8), (aIc cI t0 8 T0), (aIc cI t6 8 T6)]) hx hb hr hlk hP hD hS dX7_claimed_36 ?_
    exact ⟨S5, S6, S7, S8, S9, S10, S11, W1, W2, W3, W4, W8, D0, D1, D2, si12, si13, wi6, lv, W0, si4, wn, pn, T0, T6, ti4, ti7, (by omega), (by omega), (by first | omega | exact ev_lt hnp), hor, rfl⟩
  · skip
    have hc3 : 0 ≤ p0 ∧ p0 ≤ (nI nl) - 1 := bz_1 hw2 c3
    refine lv_aload_n hx hb dX7_claimed_8 rfl (lv_at hl 0 rfl) ?_
    refine lv_iload hx hb dX7_claimed_9 (lv_at hl 3 rfl) ?_
    refine k_iS (va_runV (As := [.int p2]) (rest := []) ⟨hx, hb, hml, hown, hts⟩ (m_X7_isPolicyOrNone l D cI cJ H.size x x0 x1 x2 x3 x4 x5 b0 b1 b2 b3 b4 b5 b6 b7 b8 b9 b10 b11 (nI np) (nI nl) bi14 p2) (cwV 1 hts gX7_claimed_X7_isPolicyOrNone rfl rfl rfl (by decide +kernel) ⟨Nat.le_of_ble_eq_true rfl, Nat.le_of_ble_eq_true rfl⟩) (k_preV hE hP hD [0, 2] (by decide +kernel) rfl 0 rfl rfl) rfl rfl hl.1 rfl (lv_room (Nat.le_of_ble_eq_true rfl)) dX7_claimed_11 ⟨Nat.le_of_ble_eq_true rfl, Nat.le_of_ble_eq_true rfl⟩) hP hD hS hA [0, 2] rfl (fun _ _ h9 => h9.2) (fun r4 H locs hw5 hP hD hS => ?_)
    obtain ⟨hw5, -⟩ := hw5
    refine lv_if_eq (tgt := 35) hx hb dX7_claimed_14 (by decide) (fun c6 => ?_) (fun c6 => ?_)
    · skip
      have hc6 : ¬ (p2 = (-1) ∨ (0 ≤ p2 ∧ p2 ≤ (nI np) - 1)) := bz_0 hw5 c6
      refine lv_iconst (v := (-1)) hx hb dX7_claimed_35 (by decide) ?_
      refine k_iret (u := [(oX7 x x0 x1 x2 x3 x4 x5), (oX4 x1 x0 s1 s2 (nI pn) si4 s5 s6 s7 s8 s9 s10 s11 si12 si13), (oX0 x0 b0 b1 b2 b3 b4 b5 b6 b7 b8 b9 b10 b11 (nI np) (nI nl) bi14), (oX6 s1 w0 w1 w2 w3 w4 (nI wn) wi6 (nI lv) w8), (oX2 s2 d0 d1 d2), (aIc cI b0 8 B0), (aIc cI b1 8 B1), (aIc cI b2 8 B2), (aIc cI b3 8 B3), (aIc cI b4 8 B4), (aIc cI b6 8 B6), (aIc cI b8 64 B8), (aIc cI b10 10 B10), (aIc cI b11 10 B11), (aIc cI s5 8 S5), (aIc cI s6 8 S6), (aIc cI s7 8 S7), (aIc cI s8 8 S8), (aIc cI s9 8 S9), (aIc cI s10 8 S10), (aIc cI s11 8 S11), (aIc cI w0 8 W0), (aIc cI w1 8 W1), (aIc cI w2 8 W2), (aIc cI w3 8 W3), (aIc cI w4 8 W4), (aIc cI w8 8 W8), (aIc cI d0 8 D0), (aIc cI d1 8 D1), (aJc cJ d2 8 D2), (aIc cI b5 8 B5), (oX1 x3 t0 t1 t2 t3 ti4 (nI pm) t6 ti7 t8), (aIc cI t0 8 T0), (aIc cI t6 8 T6)]) hx hb hr hlk hP hD hS dX7_claimed_36 ?_
      exact ⟨S5, S6, S7, S8, S9, S10, S11, W1, W2, W3, W4, W8, D0, D1, D2, si12, si13, wi6, lv, W0, si4, wn, pn, T0, T6, ti4, ti7, (by omega), (by omega), (by first | omega | exact ev_lt hnp), hor, rfl⟩
    · skip
      have hc6 : p2 = (-1) ∨ (0 ≤ p2 ∧ p2 ≤ (nI np) - 1) := bz_1 hw5 c6
      refine lv_aload_n hx hb dX7_claimed_17 rfl (lv_at hl 0 rfl) ?_
      refine va_get (D := D) (ci := 7) (v := .ref x3) (C := RX7) (T := TX7) (N := 6) hx hb hts hiX7 hown hE.1 hP 0 rfl rfl 3 (by decide) (hts _ (List.mem_cons_of_mem _ wd_27)) (fun _ h9 => h9) rfl dX7_claimed_18 ?_
      refine lv_lload_n hx hb dX7_claimed_21 rfl (lv_at hl 2 rfl) ?_
      refine lv_aload_n hx hb dX7_claimed_22 rfl (lv_at hl 0 rfl) ?_
      refine va_get (D := D) (ci := 7) (v := .ref x0) (C := RX7) (T := TX7) (N := 6) hx hb hts hiX7 hown hE.1 hP 0 rfl rfl 0 (by decide) (hts _ (List.mem_cons_of_mem _ wd_19)) (fun _ h9 => h9) rfl dX7_claimed_23 ?_
      refine va_get (D := D) (ci := 0) (v := .int (nI np)) (C := RX0) (T := TX0) (N := 15) hx hb hts hiX0 hown hE.1 hP 2 rfl rfl 12 (by decide) (hts _ (List.mem_cons_of_mem _ wd_158)) (fun _ h9 => h9) rfl dX7_claimed_26 ?_
      refine k_i (va_runV (As := [.long p1, .int (nI np)]) (rest := []) ⟨hx, hb, hml, hown, hts⟩ (m_X1_read l D cI cJ H.size x3 t0 t1 t2 t3 t6 t8 np pm ti4 ti7 p1 T6 (by omega) (by omega)) (cwV 2 hts gX7_claimed_X1_read rfl rfl rfl (by decide +kernel) ⟨Nat.le_of_ble_eq_true rfl, Nat.le_of_ble_eq_true rfl⟩) (k_preV hE hP hD [31, 33] (by decide +kernel) rfl 31 rfl rfl) rfl rfl hl.1 rfl (lv_room (Nat.le_of_ble_eq_true rfl)) dX7_claimed_29 ⟨Nat.le_of_ble_eq_true rfl, Nat.le_of_ble_eq_true rfl⟩) hP hD hS hA [31, 33] [0, 1, 2, 3, 4, 5, 6, 7, 8, 9, 10, 11, 12, 13, 14, 15, 16, 17, 18, 19, 20, 21, 22, 23, 24, 25, 26, 27, 28, 29, 30, 32] rfl (wr := [(oX7 x x0 x1 x2 x3 x4 x5), (oX4 x1 x0 s1 s2 (nI pn) si4 s5 s6 s7 s8 s9 s10 s11 si12 si13), (oX0 x0 b0 b1 b2 b3 b4 b5 b6 b7 b8 b9 b10 b11 (nI np) (nI nl) bi14), (oX6 s1 w0 w1 w2 w3 w4 (nI wn) wi6 (nI lv) w8), (oX2 s2 d0 d1 d2), (aIc cI b0 8 B0), (aIc cI b1 8 B1), (aIc cI b2 8 B2), (aIc cI b3 8 B3), (aIc cI b4 8 B4), (aIc cI b6 8 B6), (aIc cI b8 64 B8), (aIc cI b10 10 B10), (aIc cI b11 10 B11), (aIc cI s5 8 S5), (aIc cI s6 8 S6), (aIc cI s7 8 S7), (aIc cI s8 8 S8), (aIc cI s9 8 S9), (aIc cI s10 8 S10), (aIc cI s11 8 S11), (aIc cI w0 8 W0), (aIc cI w1 8 W1), (aIc cI w2 8 W2), (aIc cI w3 8 W3), (aIc cI w4 8 W4), (aIc cI w8 8 W8), (aIc cI d0 8 D0), (aIc cI d1 8 D1), (aJc cJ d2 8 D2), (aIc cI b5 8 B5), (aIc cI t0 8 T0)]) rfl (by decide +kernel) (by decide +kernel) (fun r7 u H locs hw8 hP hD hS => ?_)
      obtain ⟨z9, z10, hz11, hz12, rfl⟩ := hw8
      refine k_re (w := [(oX7 x x0 x1 x2 x3 x4 x5), (oX4 x1 x0 s1 s2 (nI pn) si4 s5 s6 s7 s8 s9 s10 s11 si12 si13), (oX0 x0 b0 b1 b2 b3 b4 b5 b6 b7 b8 b9 b10 b11 (nI np) (nI nl) bi14), (oX6 s1 w0 w1 w2 w3 w4 (nI wn) wi6 (nI lv) w8), (oX2 s2 d0 d1 d2), (aIc cI b0 8 B0), (aIc cI b1 8 B1), (aIc cI b2 8 B2), (aIc cI b3 8 B3), (aIc cI b4 8 B4), (aIc cI b6 8 B6), (aIc cI b8 64 B8), (aIc cI b10 10 B10), (aIc cI b11 10 B11), (aIc cI s5 8 S5), (aIc cI s6 8 S6), (aIc cI s7 8 S7), (aIc cI s8 8 S8), (aIc cI s9 8 S9), (aIc cI s10 8 S10), (aIc cI s11 8 S11), (aIc cI w0 8 W0), (aIc cI w1 8 W1), (aIc cI w2 8 W2), (aIc cI w3 8 W3), (aIc cI w4 8 W4), (aIc cI w8 8 W8), (aIc cI d0 8 D0), (aIc cI d1 8 D1), (aJc cJ d2 8 D2), (aIc cI b5 8 B5), (aIc cI t0 8 T0), (oX1 x3 t0 t1 t2 t3 ti4 (nI pm) t6 z10 t8), (aIc cI t6 8 z9)]) hP hD (fun hP hD => ?_)
      refine lv_if_ne (tgt := 37) hx hb dX7_claimed_32 (by decide) (fun c13 => ?_) (fun c13 => ?_)
      · skip
        obtain ⟨lj, hlj, elj⟩ := wi_n (by omega) hc3
        rw [elj] at hl
        refine lv_aload_n hx hb dX7_claimed_37 rfl (lv_at hl 0 rfl) ?_
        refine lv_iload_n hx hb dX7_claimed_38 rfl (lv_at hl 1 rfl) ?_
        refine k_v (va_runV (As := [.int (nI lj)]) (rest := []) ⟨hx, hb, hml, hown, hts⟩ (m_X7_settle l D cI cJ H.size x x0 x1 x2 x3 x4 x5 s1 s2 s5 s6 s7 s8 s9 s10 s11 b0 b1 b2 b3 b4 b5 b6 b7 b8 b9 b10 b11 w0 w1 w2 w3 w4 w8 d0 d1 d2 wn lv np nl pn si4 si12 si13 bi14 wi6 (nI lj) B0 B1 B2 B3 B4 B6 B8 B10 B11 S5 S6 S7 S8 S9 S10 S11 W0 W1 W2 W3 W4 W8 D0 D1 D2 B5 (by omega) (by omega) (by omega) (by omega) (by omega) (by omega)) (cwV 1 hts gX7_claimed_X7_settle rfl rfl rfl (by decide +kernel) ⟨Nat.le_of_ble_eq_true rfl, Nat.le_of_ble_eq_true rfl⟩) (k_preV hE hP hD [0, 1, 2, 3, 4, 5, 6, 7, 8, 9, 10, 11, 12, 13, 14, 15, 16, 17, 18, 19, 20, 21, 22, 23, 24, 25, 26, 27, 28, 29, 30] (by decide +kernel) rfl 0 rfl rfl) rfl rfl hl.1 rfl (lv_room (Nat.le_of_ble_eq_true rfl)) dX7_claimed_39 ⟨Nat.le_of_ble_eq_true rfl, Nat.le_of_ble_eq_true rfl⟩) hP hD hS hA [0, 1, 2, 3, 4, 5, 6, 7, 8, 9, 10, 11, 12, 13, 14, 15, 16, 17, 18, 19, 20, 21, 22, 23, 24, 25, 26, 27, 28, 29, 30] [31, 32, 33] rfl (wr := [(aIc cI t0 8 T0), (oX1 x3 t0 t1 t2 t3 ti4 (nI pm) t6 z10 t8), (aIc cI t6 8 z9)]) rfl (by decide +kernel) (by decide +kernel) (fun u H locs hw14 hP hD hS => ?_)
        obtain ⟨z15, z16, z17, z18, z19, z20, z21, z22, z23, z24, z25, z26, z27, z28, z29, z30, z31, z32, z33, z34, z35, z36, z37, hz38, hz39, hz40, rfl⟩ := hw14
        refine k_re (w := [(aIc cI t0 8 T0), (oX1 x3 t0 t1 t2 t3 ti4 (nI pm) t6 z10 t8), (aIc cI t6 8 z9), (oX7 x x0 x1 x2 x3 x4 x5), (oX4 x1 x0 s1 s2 (nI z37) z35 s5 s6 s7 s8 s9 s10 s11 z30 z31), (oX0 x0 b0 b1 b2 b3 b4 b5 b6 b7 b8 b9 b10 b11 (nI np) (nI nl) bi14), (oX6 s1 w0 w1 w2 w3 w4 (nI z36) z32 (nI z33) w8), (oX2 s2 d0 d1 d2), (aIc cI b0 8 B0), (aIc cI b1 8 B1), (aIc cI b2 8 B2), (aIc cI b3 8 B3), (aIc cI b4 8 B4), (aIc cI b6 8 B6), (aIc cI b8 64 B8), (aIc cI b10 10 B10), (aIc cI b11 10 B11), (aIc cI s5 8 z15), (aIc cI s6 8 z16), (aIc cI s7 8 z17), (aIc cI s8 8 z18), (aIc cI s9 8 z19), (aIc cI s10 8 z20), (aIc cI s11 8 z21), (aIc cI w0 8 z34), (aIc cI w1 8 z22), (aIc cI w2 8 z23), (aIc cI w3 8 z24), (aIc cI w4 8 z25), (aIc cI w8 8 z26), (aIc cI d0 8 z27), (aIc cI d1 8 z28), (aJc cJ d2 8 z29), (aIc cI b5 8 B5)]) hP hD (fun hP hD => ?_)
        refine lv_aload_n hx hb dX7_claimed_42 rfl (lv_at hl 0 rfl) ?_
        refine va_get (D := D) (ci := 7) (v := .ref x3) (C := RX7) (T := TX7) (N := 6) hx hb hts hiX7 hown hE.1 hP 3 rfl rfl 3 (by decide) (hts _ (List.mem_cons_of_mem _ wd_27)) (fun _ h9 => h9) rfl dX7_claimed_43 ?_
        refine lv_aload_n hx hb dX7_claimed_46 rfl (lv_at hl 0 rfl) ?_
        refine va_get (D := D) (ci := 7) (v := .ref x1) (C := RX7) (T := TX7) (N := 6) hx hb hts hiX7 hown hE.1 hP 3 rfl rfl 1 (by decide) (hts _ (List.mem_cons_of_mem _ wd_17)) (fun _ h9 => h9) rfl dX7_claimed_47 ?_
        refine k_v (va_runV (As := [.ref x1]) (rest := []) ⟨hx, hb, hml, hown, hts⟩ (m_X1_pay l D cI cJ H.size x3 t0 t1 t2 t3 t6 t8 x1 x0 s1 s2 s5 s6 s7 s8 s9 s10 s11 b0 b1 b2 b3 b4 b5 b6 b7 b8 b9 b10 b11 pm np nl z37 ti4 z10 z35 z30 z31 bi14 T0 z9 B5 z18 z20 hz12) (cwV 1 hts gX7_claimed_X1_pay rfl rfl rfl (by decide +kernel) ⟨Nat.le_of_ble_eq_true rfl, Nat.le_of_ble_eq_true rfl⟩) (k_preV hE hP hD [1, 0, 2, 4, 5, 33, 20, 22] (by decide +kernel) rfl 1 rfl rfl) rfl rfl hl.1 rfl (lv_room (Nat.le_of_ble_eq_true rfl)) dX7_claimed_50 ⟨Nat.le_of_ble_eq_true rfl, Nat.le_of_ble_eq_true rfl⟩) hP hD hS hA [1, 0, 2, 4, 5, 33, 20, 22] [3, 6, 7, 8, 9, 10, 11, 12, 13, 14, 15, 16, 17, 18, 19, 21, 23, 24, 25, 26, 27, 28, 29, 30, 31, 32] rfl (wr := [(oX7 x x0 x1 x2 x3 x4 x5), (oX6 s1 w0 w1 w2 w3 w4 (nI z36) z32 (nI z33) w8), (oX2 s2 d0 d1 d2), (aIc cI b0 8 B0), (aIc cI b1 8 B1), (aIc cI b2 8 B2), (aIc cI b3 8 B3), (aIc cI b4 8 B4), (aIc cI b6 8 B6), (aIc cI b8 64 B8), (aIc cI b10 10 B10), (aIc cI b11 10 B11), (aIc cI s5 8 z15), (aIc cI s6 8 z16), (aIc cI s7 8 z17), (aIc cI s9 8 z19), (aIc cI s11 8 z21), (aIc cI w0 8 z34), (aIc cI w1 8 z22), (aIc cI w2 8 z23), (aIc cI w3 8 z24), (aIc cI w4 8 z25), (aIc cI w8 8 z26), (aIc cI d0 8 z27), (aIc cI d1 8 z28), (aJc cJ d2 8 z29)]) rfl (by decide +kernel) (by decide +kernel) (fun u H locs hw41 hP hD hS => ?_)
        obtain ⟨z42, z43, rfl⟩ := hw41
        refine k_re (w := [(oX7 x x0 x1 x2 x3 x4 x5), (oX6 s1 w0 w1 w2 w3 w4 (nI z36) z32 (nI z33) w8), (oX2 s2 d0 d1 d2), (aIc cI b0 8 B0), (aIc cI b1 8 B1), (aIc cI b2 8 B2), (aIc cI b3 8 B3), (aIc cI b4 8 B4), (aIc cI b6 8 B6), (aIc cI b8 64 B8), (aIc cI b10 10 B10), (aIc cI b11 10 B11), (aIc cI s5 8 z15), (aIc cI s6 8 z16), (aIc cI s7 8 z17), (aIc cI s9 8 z19), (aIc cI s11 8 z21), (aIc cI w0 8 z34), (aIc cI w1 8 z22), (aIc cI w2 8 z23), (aIc cI w3 8 z24), (aIc cI w4 8 z25), (aIc cI w8 8 z26), (aIc cI d0 8 z27), (aIc cI d1 8 z28), (aJc cJ d2 8 z29), (oX1 x3 t0 t1 t2 t3 z43 (nI pm) t6 z10 t8), (aIc cI t0 8 z42), (aIc cI t6 8 z9), (oX4 x1 x0 s1 s2 (nI z37) z35 s5 s6 s7 s8 s9 s10 s11 z30 z31), (oX0 x0 b0 b1 b2 b3 b4 b5 b6 b7 b8 b9 b10 b11 (nI np) (nI nl) bi14), (aIc cI b5 8 B5), (aIc cI s8 8 z18), (aIc cI s10 8 z20)]) hP hD (fun hP hD => ?_)
        refine lv_iload hx hb dX7_claimed_53 (lv_at hl 3 rfl) ?_
        refine lv_iconst (v := (-1)) hx hb dX7_claimed_55 (by decide) ?_
        refine lv_icmp_ne (tgt := 69) hx hb dX7_claimed_56 (by decide) (fun c44 => ?_) (fun c44 => ?_)
        · skip
          obtain ⟨pj, hpj, epj⟩ := wi_n (by omega) (hc6.resolve_left c44)
          rw [epj] at hl
          refine lv_aload_n hx hb dX7_claimed_69 rfl (lv_at hl 0 rfl) ?_
          refine va_get (D := D) (ci := 7) (v := .ref x3) (C := RX7) (T := TX7) (N := 6) hx hb hts hiX7 hown hE.1 hP 0 rfl rfl 3 (by decide) (hts _ (List.mem_cons_of_mem _ wd_27)) (fun _ h9 => h9) rfl dX7_claimed_70 ?_
          refine va_get (D := D) (ci := 1) (v := .ref t0) (C := RX1) (T := TX1) (N := 9) hx hb hts hiX1 hown hE.1 hP 26 rfl rfl 0 (by decide) (hts _ (List.mem_cons_of_mem _ wd_724)) (fun _ h9 => h9) rfl dX7_claimed_73 ?_
          refine lv_iload hx hb dX7_claimed_76 (lv_at hl 3 rfl) ?_
          refine va_iald hx hb hE.1 hP 27 0 rfl rfl (vp_in_nI (n := pj) (by omega) (by decide)) dX7_claimed_78 ?_
          refine lv_topi (fun v45 ev45 => ?_)
          refine k_iret (u := [(oX7 x x0 x1 x2 x3 x4 x5), (oX4 x1 x0 s1 s2 (nI z37) z35 s5 s6 s7 s8 s9 s10 s11 z30 z31), (oX0 x0 b0 b1 b2 b3 b4 b5 b6 b7 b8 b9 b10 b11 (nI np) (nI nl) bi14), (oX6 s1 w0 w1 w2 w3 w4 (nI z36) z32 (nI z33) w8), (oX2 s2 d0 d1 d2), (aIc cI b0 8 B0), (aIc cI b1 8 B1), (aIc cI b2 8 B2), (aIc cI b3 8 B3), (aIc cI b4 8 B4), (aIc cI b6 8 B6), (aIc cI b8 64 B8), (aIc cI b10 10 B10), (aIc cI b11 10 B11), (aIc cI s5 8 z15), (aIc cI s6 8 z16), (aIc cI s7 8 z17), (aIc cI s8 8 z18), (aIc cI s9 8 z19), (aIc cI s10 8 z20), (aIc cI s11 8 z21), (aIc cI w0 8 z34), (aIc cI w1 8 z22), (aIc cI w2 8 z23), (aIc cI w3 8 z24), (aIc cI w4 8 z25), (aIc cI w8 8 z26), (aIc cI d0 8 z27), (aIc cI d1 8 z28), (aJc cJ d2 8 z29), (aIc cI b5 8 B5), (oX1 x3 t0 t1 t2 t3 z43 (nI pm) t6 z10 t8), (aIc cI t0 8 z42), (aIc cI t6 8 z9)]) hx hb hr hlk (k_sub hP [0, 29, 30, 1, 2, 3, 4, 5, 6, 7, 8, 9, 10, 11, 12, 13, 14, 32, 15, 33, 16, 17, 18, 19, 20, 21, 22, 23, 24, 25, 31, 26, 27, 28] rfl) (hD.sub [0, 29, 30, 1, 2, 3, 4, 5, 6, 7, 8, 9, 10, 11, 12, 13, 14, 32, 15, 33, 16, 17, 18, 19, 20, 21, 22, 23, 24, 25, 31, 26, 27, 28] (by decide +kernel) rfl) hS dX7_claimed_79 ?_
          exact ⟨z15, z16, z17, z18, z19, z20, z21, z22, z23, z24, z25, z26, z27, z28, z29, z30, z31, z32, z33, z34, z35, z36, z37, z42, z9, z43, z10, (by omega), (by omega), (by first | omega | exact ev_lt hnp), hz12, rfl⟩
        · skip
          refine lv_aload_n hx hb dX7_claimed_59 rfl (lv_at hl 0 rfl) ?_
          refine va_get (D := D) (ci := 7) (v := .ref x3) (C := RX7) (T := TX7) (N := 6) hx hb hts hiX7 hown hE.1 hP 0 rfl rfl 3 (by decide) (hts _ (List.mem_cons_of_mem _ wd_27)) (fun _ h9 => h9) rfl dX7_claimed_60 ?_
          refine va_get (D := D) (ci := 1) (v := .int z43) (C := RX1) (T := TX1) (N := 9) hx hb hts hiX1 hown hE.1 hP 26 rfl rfl 4 (by decide) (hts _ (List.mem_cons_of_mem _ wd_723)) (fun _ h9 => h9) rfl dX7_claimed_63 ?_
          refine lv_goto (tgt := 79) hx hb dX7_claimed_66 (by decide) ?_
          refine k_iret (u := [(oX7 x x0 x1 x2 x3 x4 x5), (oX4 x1 x0 s1 s2 (nI z37) z35 s5 s6 s7 s8 s9 s10 s11 z30 z31), (oX0 x0 b0 b1 b2 b3 b4 b5 b6 b7 b8 b9 b10 b11 (nI np) (nI nl) bi14), (oX6 s1 w0 w1 w2 w3 w4 (nI z36) z32 (nI z33) w8), (oX2 s2 d0 d1 d2), (aIc cI b0 8 B0), (aIc cI b1 8 B1), (aIc cI b2 8 B2), (aIc cI b3 8 B3), (aIc cI b4 8 B4), (aIc cI b6 8 B6), (aIc cI b8 64 B8), (aIc cI b10 10 B10), (aIc cI b11 10 B11), (aIc cI s5 8 z15), (aIc cI s6 8 z16), (aIc cI s7 8 z17), (aIc cI s8 8 z18), (aIc cI s9 8 z19), (aIc cI s10 8 z20), (aIc cI s11 8 z21), (aIc cI w0 8 z34), (aIc cI w1 8 z22), (aIc cI w2 8 z23), (aIc cI w3 8 z24), (aIc cI w4 8 z25), (aIc cI w8 8 z26), (aIc cI d0 8 z27), (aIc cI d1 8 z28), (aJc cJ d2 8 z29), (aIc cI b5 8 B5), (oX1 x3 t0 t1 t2 t3 z43 (nI pm) t6 z10 t8), (aIc cI t0 8 z42), (aIc cI t6 8 z9)]) hx hb hr hlk (k_sub hP [0, 29, 30, 1, 2, 3, 4, 5, 6, 7, 8, 9, 10, 11, 12, 13, 14, 32, 15, 33, 16, 17, 18, 19, 20, 21, 22, 23, 24, 25, 31, 26, 27, 28] rfl) (hD.sub [0, 29, 30, 1, 2, 3, 4, 5, 6, 7, 8, 9, 10, 11, 12, 13, 14, 32, 15, 33, 16, 17, 18, 19, 20, 21, 22, 23, 24, 25, 31, 26, 27, 28] (by decide +kernel) rfl) hS dX7_claimed_79 ?_
          exact ⟨z15, z16, z17, z18, z19, z20, z21, z22, z23, z24, z25, z26, z27, z28, z29, z30, z31, z32, z33, z34, z35, z36, z37, z42, z9, z43, z10, (by omega), (by omega), (by first | omega | exact ev_lt hnp), hz12, rfl⟩
      · skip
        refine lv_iconst (v := (-1)) hx hb dX7_claimed_35 (by decide) ?_
        refine k_iret (u := [(oX7 x x0 x1 x2 x3 x4 x5), (oX4 x1 x0 s1 s2 (nI pn) si4 s5 s6 s7 s8 s9 s10 s11 si12 si13), (oX0 x0 b0 b1 b2 b3 b4 b5 b6 b7 b8 b9 b10 b11 (nI np) (nI nl) bi14), (oX6 s1 w0 w1 w2 w3 w4 (nI wn) wi6 (nI lv) w8), (oX2 s2 d0 d1 d2), (aIc cI b0 8 B0), (aIc cI b1 8 B1), (aIc cI b2 8 B2), (aIc cI b3 8 B3), (aIc cI b4 8 B4), (aIc cI b6 8 B6), (aIc cI b8 64 B8), (aIc cI b10 10 B10), (aIc cI b11 10 B11), (aIc cI s5 8 S5), (aIc cI s6 8 S6), (aIc cI s7 8 S7), (aIc cI s8 8 S8), (aIc cI s9 8 S9), (aIc cI s10 8 S10), (aIc cI s11 8 S11), (aIc cI w0 8 W0), (aIc cI w1 8 W1), (aIc cI w2 8 W2), (aIc cI w3 8 W3), (aIc cI w4 8 W4), (aIc cI w8 8 W8), (aIc cI d0 8 D0), (aIc cI d1 8 D1), (aJc cJ d2 8 D2), (aIc cI b5 8 B5), (oX1 x3 t0 t1 t2 t3 ti4 (nI pm) t6 z10 t8), (aIc cI t0 8 T0), (aIc cI t6 8 z9)]) hx hb hr hlk (k_sub hP [0, 1, 2, 3, 4, 5, 6, 7, 8, 9, 10, 11, 12, 13, 14, 15, 16, 17, 18, 19, 20, 21, 22, 23, 24, 25, 26, 27, 28, 29, 30, 32, 31, 33] rfl) (hD.sub [0, 1, 2, 3, 4, 5, 6, 7, 8, 9, 10, 11, 12, 13, 14, 15, 16, 17, 18, 19, 20, 21, 22, 23, 24, 25, 26, 27, 28, 29, 30, 32, 31, 33] (by decide +kernel) rfl) hS dX7_claimed_36 ?_
        exact ⟨S5, S6, S7, S8, S9, S10, S11, W1, W2, W3, W4, W8, D0, D1, D2, si12, si13, wi6, lv, W0, si4, wn, pn, T0, z9, ti4, z10, (by omega), (by omega), (by first | omega | exact ev_lt hnp), hz12, rfl⟩

