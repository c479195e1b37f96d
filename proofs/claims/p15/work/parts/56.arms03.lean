set_option maxHeartbeats 4000000 in
set_option maxRecDepth 100000 in
/-- filed -/
theorem arm_30 {p : Program} {l : Launch} {e : Env} {s : State} {m : MethodId} {below : List Frame} {meth : Method} {c : Code} {b L tf : Nat} {xs : Nat → Int32} {D : va_G} {cI cJ : ClassId} {Q : State → Prop} (C : LC p l s m c b L tf xs D cI cJ) {j k9 n9 : Nat} (hj : j + 6 ≤ L) (hL : L ≤ 3072) (hk9 : k9 + 2 ≤ room_1.cells) (hn9 : n9 + 16 ≤ room_1.slots) {dd : Drawn} (hdd : s.drawn.sameBut dd lw_cs) {x x0 x1 x2 x3 x4 x5 s1 s2 s5 s6 s7 s8 s9 s10 s11 b0 b1 b2 b3 b4 b5 b6 b7 b8 b9 b10 b11 w0 w1 w2 w3 w4 w8 d0 d1 d2 y0 y1 t0 t1 t2 t3 t6 t8 dr0 dr1 g g2 g3 g4 g5 g6 g7 g8 g9 g10 g12 g13 g15 g16 g17 g19 g20 g21 g22 g23 g24 g25 g26 g27 g28 g33 g34 g35 g36 g37 g38 g39 g41 g42 g44 g45 o : Nat} {pn np nl wn lv pm mv tt : Nat} {si4 si12 si13 bi14 wi6 ti4 ti7 gi0 gi18 gi29 gi30 gi40 gi43 : Int32} {X5 S5 S6 S7 S8 S9 S10 S11 B0 B1 B2 B3 B4 B5 B6 B7 B8 B9 B10 B11 W0 W1 W2 W3 W4 W8 D0 D1 Y0 Y1 T0 T1 T2 T3 T6 T8 DR0 DR1 G10 G16 G19 G20 G21 G22 G23 G24 G25 G26 G27 G28 G33 G34 G35 G36 G38 G39 G41 G42 G44 G45 : Nat → Int32} {D2 G37 OO : Nat → Int64} (hI : LInv pn np nl wn lv pm mv tt B0 B1 B2 B3 B6 B8 B10 B11 T6 DR0 G10 G16 G19 G20 G25 G27) {H : Heap} {locs : List Loc} (hP : va_P D vwCl (LWS cI cJ x x0 x1 x2 x3 x4 x5 s1 s2 s5 s6 s7 s8 s9 s10 s11 b0 b1 b2 b3 b4 b5 b6 b7 b8 b9 b10 b11 w0 w1 w2 w3 w4 w8 d0 d1 d2 y0 y1 t0 t1 t2 t3 t6 t8 dr0 dr1 g g2 g3 g4 g5 g6 g7 g8 g9 g10 g12 g13 g15 g16 g17 g19 g20 g21 g22 g23 g24 g25 g26 g27 g28 g33 g34 g35 g36 g37 g38 g39 g41 g42 g44 g45 o pn np nl wn lv pm mv tt si4 si12 si13 bi14 wi6 ti4 ti7 gi0 gi18 gi29 gi30 gi40 gi43 X5 S5 S6 S7 S8 S9 S10 S11 B0 B1 B2 B3 B4 B5 B6 B7 B8 B9 B10 B11 W0 W1 W2 W3 W4 W8 D0 D1 Y0 Y1 T0 T1 T2 T3 T6 T8 DR0 DR1 G10 G16 G19 G20 G21 G22 G23 G24 G25 G26 G27 G28 G33 G34 G35 G36 G38 G39 G41 G42 G44 G45 D2 G37 OO) H) (hD : va_D (fun q : Nat => s.heap.size ≤ q) (LWS cI cJ x x0 x1 x2 x3 x4 x5 s1 s2 s5 s6 s7 s8 s9 s10 s11 b0 b1 b2 b3 b4 b5 b6 b7 b8 b9 b10 b11 w0 w1 w2 w3 w4 w8 d0 d1 d2 y0 y1 t0 t1 t2 t3 t6 t8 dr0 dr1 g g2 g3 g4 g5 g6 g7 g8 g9 g10 g12 g13 g15 g16 g17 g19 g20 g21 g22 g23 g24 g25 g26 g27 g28 g33 g34 g35 g36 g37 g38 g39 g41 g42 g44 g45 o pn np nl wn lv pm mv tt si4 si12 si13 bi14 wi6 ti4 ti7 gi0 gi18 gi29 gi30 gi40 gi43 X5 S5 S6 S7 S8 S9 S10 S11 B0 B1 B2 B3 B4 B5 B6 B7 B8 B9 B10 B11 W0 W1 W2 W3 W4 W8 D0 D1 Y0 Y1 T0 T1 T2 T3 T6 T8 DR0 DR1 G10 G16 G19 G20 G21 G22 G23 G24 G25 G26 G27 G28 G33 G34 G35 G36 G38 G39 G41 G42 G44 G45 D2 G37 OO)) (hS : va_S (fun q : Nat => s.heap.size ≤ q) s.heap H locs) {ls : Array Slot} (hl : lv_has ls 7 [(4, .int (nI j)), (3, .ref o), (2, .ref g), (1, .ref x), (0, .ref b)])
    (kend : ∀ (pn np nl wn lv pm mv tt : Nat) (si4 si12 si13 bi14 wi6 ti4 ti7 gi0 gi18 gi29 gi30 gi40 gi43 : Int32) (X5 S5 S6 S7 S8 S9 S10 S11 B0 B1 B2 B3 B4 B5 B6 B7 B8 B9 B10 B11 W0 W1 W2 W3 W4 W8 D0 D1 Y0 Y1 T0 T1 T2 T3 T6 T8 DR0 DR1 G10 G16 G19 G20 G21 G22 G23 G24 G25 G26 G27 G28 G33 G34 G35 G36 G38 G39 G41 G42 G44 G45 : Nat → Int32) (D2 G37 OO : Nat → Int64) (H1 : Heap) (locs1 : List Loc) (ls1 : Array Slot) (dw1 : Drawn), s.drawn.sameBut dw1 lw_cs → LInv pn np nl wn lv pm mv tt B0 B1 B2 B3 B6 B8 B10 B11 T6 DR0 G10 G16 G19 G20 G25 G27 → va_P D vwCl (LWS cI cJ x x0 x1 x2 x3 x4 x5 s1 s2 s5 s6 s7 s8 s9 s10 s11 b0 b1 b2 b3 b4 b5 b6 b7 b8 b9 b10 b11 w0 w1 w2 w3 w4 w8 d0 d1 d2 y0 y1 t0 t1 t2 t3 t6 t8 dr0 dr1 g g2 g3 g4 g5 g6 g7 g8 g9 g10 g12 g13 g15 g16 g17 g19 g20 g21 g22 g23 g24 g25 g26 g27 g28 g33 g34 g35 g36 g37 g38 g39 g41 g42 g44 g45 o pn np nl wn lv pm mv tt si4 si12 si13 bi14 wi6 ti4 ti7 gi0 gi18 gi29 gi30 gi40 gi43 X5 S5 S6 S7 S8 S9 S10 S11 B0 B1 B2 B3 B4 B5 B6 B7 B8 B9 B10 B11 W0 W1 W2 W3 W4 W8 D0 D1 Y0 Y1 T0 T1 T2 T3 T6 T8 DR0 DR1 G10 G16 G19 G20 G21 G22 G23 G24 G25 G26 G27 G28 G33 G34 G35 G36 G38 G39 G41 G42 G44 G45 D2 G37 OO) H1 → va_D (fun q : Nat => s.heap.size ≤ q) (LWS cI cJ x x0 x1 x2 x3 x4 x5 s1 s2 s5 s6 s7 s8 s9 s10 s11 b0 b1 b2 b3 b4 b5 b6 b7 b8 b9 b10 b11 w0 w1 w2 w3 w4 w8 d0 d1 d2 y0 y1 t0 t1 t2 t3 t6 t8 dr0 dr1 g g2 g3 g4 g5 g6 g7 g8 g9 g10 g12 g13 g15 g16 g17 g19 g20 g21 g22 g23 g24 g25 g26 g27 g28 g33 g34 g35 g36 g37 g38 g39 g41 g42 g44 g45 o pn np nl wn lv pm mv tt si4 si12 si13 bi14 wi6 ti4 ti7 gi0 gi18 gi29 gi30 gi40 gi43 X5 S5 S6 S7 S8 S9 S10 S11 B0 B1 B2 B3 B4 B5 B6 B7 B8 B9 B10 B11 W0 W1 W2 W3 W4 W8 D0 D1 Y0 Y1 T0 T1 T2 T3 T6 T8 DR0 DR1 G10 G16 G19 G20 G21 G22 G23 G24 G25 G26 G27 G28 G33 G34 G35 G36 G38 G39 G41 G42 G44 G45 D2 G37 OO) → va_S (fun q : Nat => s.heap.size ≤ q) s.heap H1 locs1 → lv_has ls1 7 [(4, .int (nI j)), (3, .ref o), (2, .ref g), (1, .ref x), (0, .ref b)] → W p l e room_1 (s.setDrawn dw1) m #[Value.ref b] below meth c H1 locs1 (k9 + 2) (n9 + 16) Q (F0 m 1594 ls1 [])) : W p l e room_1 (s.setDrawn dd) m #[Value.ref b] below meth c H locs k9 n9 Q (F0 m 1529 ls []) := by
  obtain ⟨hx, hb, hml, hown, htsB, hE, hX, hbl, hXw, hZ, hl9⟩ := C
  have hXw0 := hXw
  have hA : ∀ q : Nat, s.heap.size ≤ q → (fun q : Nat => s.heap.size ≤ q) q := fun _ h => h
  have hbA : ¬ (fun q : Nat => s.heap.size ≤ q) b := Nat.not_le.mpr hbl
  obtain ⟨hnp, hnl, hwn, hlv, hpn, hpm, hmv, htt, hli, hor, hBK, hsu, hamt, hLE, hLO, hLW, hSH, hr8, hr16, hto⟩ := hI
  obtain ⟨li0, wo0, de0, ag0, hliv, hlib, hl1, hwov, hwob, hdev, hdeb, hagv, hagb⟩ := id hBK
  obtain ⟨a1, hsx1⟩ : ∃ y : Int32, xs (Int32.toNatClampNeg (nI (j + 1))) = y := ⟨_, rfl⟩
  obtain ⟨a2, hsx2⟩ : ∃ y : Int32, xs (Int32.toNatClampNeg (nI (j + 2))) = y := ⟨_, rfl⟩
  obtain ⟨a3, hsx3⟩ : ∃ y : Int32, xs (Int32.toNatClampNeg (nI (j + 3))) = y := ⟨_, rfl⟩
  obtain ⟨a4, hsx4⟩ : ∃ y : Int32, xs (Int32.toNatClampNeg (nI (j + 4))) = y := ⟨_, rfl⟩
  obtain ⟨a5, hsx5⟩ : ∃ y : Int32, xs (Int32.toNatClampNeg (nI (j + 5))) = y := ⟨_, rfl⟩
  have hts := dr_words htsB dd
  have hE : eK D cI cJ (s.setDrawn dd) := hE
  have hown : (s.setDrawn dd).vm.findClass RL = some m.cls := hown
  have hX : va_X b L xs (s.setDrawn dd) s.heap := hX
  have hXw : xw (fun q : Nat => s.heap.size ≤ q) (s.setDrawn dd) s.heap := xw.same (u := s) (U := s.setDrawn dd) rfl hXw0
  have hZ : fz tf (fun q : Nat => s.heap.size ≤ q) (s.setDrawn dd) s.heap := hZ
  refine lv_aload_n hx hb dL_law_1529 rfl (lv_at hl 3 rfl) ?_
  refine lv_aload_n hx hb dL_law_1530 rfl (lv_at hl 4 rfl) ?_
  refine lv_iload hx hb dL_law_1531 (lv_at hl 0 rfl) ?_
  refine lv_iconst (v := 1) hx hb dL_law_1533 (by decide) ?_
  refine lv_iadd hx hb dL_law_1534 ?_
  refine k_topi (nI_add j 1) ?_
  refine va_sld hx hb hX hbl hbA hS (vp_in_nI (n := j + 1) (by omega) (by omega)) dL_law_1535 ?_
  rw [hsx1]
  refine lv_aload_n hx hb dL_law_1536 rfl (lv_at hl 4 rfl) ?_
  refine lv_iload hx hb dL_law_1537 (lv_at hl 0 rfl) ?_
  refine lv_iconst (v := 2) hx hb dL_law_1539 (by decide) ?_
  refine lv_iadd hx hb dL_law_1540 ?_
  refine k_topi (nI_add j 2) ?_
  refine va_sld hx hb hX hbl hbA hS (vp_in_nI (n := j + 2) (by omega) (by omega)) dL_law_1541 ?_
  rw [hsx2]
  refine lv_aload_n hx hb dL_law_1542 rfl (lv_at hl 4 rfl) ?_
  refine lv_iload hx hb dL_law_1543 (lv_at hl 0 rfl) ?_
  refine lv_iconst (v := 3) hx hb dL_law_1545 (by decide) ?_
  refine lv_iadd hx hb dL_law_1546 ?_
  refine k_topi (nI_add j 3) ?_
  refine va_sld hx hb hX hbl hbA hS (vp_in_nI (n := j + 3) (by omega) (by omega)) dL_law_1547 ?_
  rw [hsx3]
  refine lv_if_eq (tgt := 1555) hx hb dL_law_1548 (by decide) (fun c1 => ?_) (fun c1 => ?_)
  · skip
    refine lv_iconst (v := 0) hx hb dL_law_1555 (by decide) ?_
    refine k_i (va_runV (As := [.int a1, .int a2, .int 0]) (rest := []) ⟨hx, hb, hml, hown, hts⟩ (m_X7_filed l D cI cJ H.size x x0 x1 x2 x3 x4 x5 dr0 dr1 a1 a2 0 DR0 DR1) (cwV 3 hts hL_law_X7_filed rfl rfl rfl (by decide +kernel) ⟨Nat.le_of_ble_eq_true rfl, Nat.le_of_ble_eq_true rfl⟩) (k_preV hE hP hD [0, 44, 45, 46] (by decide +kernel) rfl 0 rfl rfl) rfl rfl hl.1 rfl (lv_room (Nat.le_of_ble_eq_true rfl)) dL_law_1556 ⟨by omega, by omega⟩) hP hD hS hA [0, 44, 45, 46] [1, 2, 3, 4, 5, 6, 7, 8, 9, 10, 11, 12, 13, 14, 15, 16, 17, 18, 19, 20, 21, 22, 23, 24, 25, 26, 27, 28, 29, 30, 31, 32, 33, 34, 35, 36, 37, 38, 39, 40, 41, 42, 43, 47, 48, 49, 50, 51, 52, 53, 54, 55, 56, 57, 58, 59, 60, 61, 62, 63, 64, 65, 66, 67, 68, 69, 70, 71, 72, 73, 74, 75, 76, 77, 78, 79, 80, 81, 82, 83] rfl (wr := [(aIc cI x5 8 X5), (oX4 x1 x0 s1 s2 (nI pn) si4 s5 s6 s7 s8 s9 s10 s11 si12 si13), (aIc cI s5 8 S5), (aIc cI s6 8 S6), (aIc cI s7 8 S7), (aIc cI s8 8 S8), (aIc cI s9 8 S9), (aIc cI s10 8 S10), (aIc cI s11 8 S11), (oX0 x0 b0 b1 b2 b3 b4 b5 b6 b7 b8 b9 b10 b11 (nI np) (nI nl) bi14), (aIc cI b0 8 B0), (aIc cI b1 8 B1), (aIc cI b2 8 B2), (aIc cI b3 8 B3), (aIc cI b4 8 B4), (aIc cI b5 8 B5), (aIc cI b6 8 B6), (aIc cI b7 8 B7), (aIc cI b8 64 B8), (aIc cI b9 8 B9), (aIc cI b10 10 B10), (aIc cI b11 10 B11), (oX6 s1 w0 w1 w2 w3 w4 (nI wn) wi6 (nI lv) w8), (aIc cI w0 8 W0), (aIc cI w1 8 W1), (aIc cI w2 8 W2), (aIc cI w3 8 W3), (aIc cI w4 8 W4), (aIc cI w8 8 W8), (oX2 s2 d0 d1 d2), (aIc cI d0 8 D0), (aIc cI d1 8 D1), (aJc cJ d2 8 D2), (oX5 x2 y0 y1), (aIc cI y0 8 Y0), (aIc cI y1 8 Y1), (oX1 x3 t0 t1 t2 t3 ti4 (nI pm) t6 ti7 t8), (aIc cI t0 8 T0), (aIc cI t1 9 T1), (aIc cI t2 9 T2), (aIc cI t3 9 T3), (aIc cI t6 8 T6), (aIc cI t8 9 T8), (oX8 g gi0 (nI np) g2 g3 g4 g5 g6 g7 g8 g9 g10 (nI nl) g12 g13 bi14 g15 g16 g17 gi18 g19 g20 g21 g22 g23 g24 g25 g26 g27 g28 gi29 gi30 (nI mv) (nI tt) g33 g34 g35 g36 g37 g38 g39 gi40 g41 g42 gi43 g44 g45), (aIc cI g2 8 B0), (aIc cI g3 8 B1), (aIc cI g4 8 B2), (aIc cI g5 8 B3), (aIc cI g6 8 B4), (aIc cI g7 8 B5), (aIc cI g8 8 B6), (aIc cI g9 8 B7), (aIc cI g10 64 G10), (aIc cI g12 10 B10), (aIc cI g13 10 B11), (aIc cI g15 8 B9), (aIc cI g16 32 G16), (aIc cI g17 32 DR1), (aIc cI g19 8 G19), (aIc cI g20 8 G20), (aIc cI g21 8 G21), (aIc cI g22 8 G22), (aIc cI g23 8 G23), (aIc cI g24 8 G24), (aIc cI g25 8 G25), (aIc cI g26 8 G26), (aIc cI g27 8 G27), (aIc cI g28 8 G28), (aIc cI g33 8 G33), (aIc cI g34 8 G34), (aIc cI g35 8 G35), (aIc cI g36 8 G36), (aJc cJ g37 8 G37), (aIc cI g38 8 G38), (aIc cI g39 8 G39), (aIc cI g41 9 G41), (aIc cI g42 192 G42), (aIc cI g44 8 G44), (aIc cI g45 8 G45), (aJc cJ o 1 OO)]) rfl (by decide +kernel) (by decide +kernel) (fun r2 u H locs hw3 hP hD hS => ?_)
    rcases hw3 with ⟨ha4, rfl, rfl⟩ | ⟨ha5, rfl, rfl⟩ | ⟨ha6, rfl, rfl⟩ | ⟨ha7, rfl, rfl⟩
    · skip
      refine lv_pop hx hb dL_law_1559 rfl ?_
      refine lv_aload_n hx hb dL_law_1560 rfl (lv_at hl 2 rfl) ?_
      refine lv_aload_n hx hb dL_law_1561 rfl (lv_at hl 4 rfl) ?_
      refine lv_iload hx hb dL_law_1562 (lv_at hl 0 rfl) ?_
      refine lv_iconst (v := 1) hx hb dL_law_1564 (by decide) ?_
      refine lv_iadd hx hb dL_law_1565 ?_
      refine k_topi (nI_add j 1) ?_
      refine va_sld hx hb hX hbl hbA hS (vp_in_nI (n := j + 1) (by omega) (by omega)) dL_law_1566 ?_
      rw [hsx1]
      refine lv_aload_n hx hb dL_law_1567 rfl (lv_at hl 4 rfl) ?_
      refine lv_iload hx hb dL_law_1568 (lv_at hl 0 rfl) ?_
      refine lv_iconst (v := 2) hx hb dL_law_1570 (by decide) ?_
      refine lv_iadd hx hb dL_law_1571 ?_
      refine k_topi (nI_add j 2) ?_
      refine va_sld hx hb hX hbl hbA hS (vp_in_nI (n := j + 2) (by omega) (by omega)) dL_law_1572 ?_
      rw [hsx2]
      refine lv_aload_n hx hb dL_law_1573 rfl (lv_at hl 4 rfl) ?_
      refine lv_iload hx hb dL_law_1574 (lv_at hl 0 rfl) ?_
      refine lv_iconst (v := 3) hx hb dL_law_1576 (by decide) ?_
      refine lv_iadd hx hb dL_law_1577 ?_
      refine k_topi (nI_add j 3) ?_
      refine va_sld hx hb hX hbl hbA hS (vp_in_nI (n := j + 3) (by omega) (by omega)) dL_law_1578 ?_
      rw [hsx3]
      refine lv_if_eq (tgt := 1586) hx hb dL_law_1579 (by decide) (fun _ => ?_) (fun c8 => absurd c1 c8)
      refine lv_iconst (v := 0) hx hb dL_law_1586 (by decide) ?_
      refine k_i (va_runV (As := [.int a1, .int a2, .int 0]) (rest := []) ⟨hx, hb, hml, hown, hts⟩ (m_X8_filed l D cI cJ H.size g g2 g3 g4 g5 g6 g7 g8 g9 g10 g12 g13 g15 g16 g17 g19 g20 g21 g22 g23 g24 g25 g26 g27 g28 g33 g34 g35 g36 g37 g38 g39 g41 g42 g44 g45 np nl mv gi0 bi14 gi18 gi29 gi30 (nI tt) gi40 gi43 a1 a2 0 G16 DR1) (cwV 3 hts hL_law_X8_filed rfl rfl rfl (by decide +kernel) ⟨Nat.le_of_ble_eq_true rfl, Nat.le_of_ble_eq_true rfl⟩) (k_preV hE hP hD [43, 56, 57] (by decide +kernel) rfl 43 rfl rfl) rfl rfl hl.1 rfl (lv_room (Nat.le_of_ble_eq_true rfl)) dL_law_1587 ⟨by omega, by omega⟩) hP hD hS hA [43, 56, 57] [0, 1, 2, 3, 4, 5, 6, 7, 8, 9, 10, 11, 12, 13, 14, 15, 16, 17, 18, 19, 20, 21, 22, 23, 24, 25, 26, 27, 28, 29, 30, 31, 32, 33, 34, 35, 36, 37, 38, 39, 40, 41, 42, 44, 45, 46, 47, 48, 49, 50, 51, 52, 53, 54, 55, 58, 59, 60, 61, 62, 63, 64, 65, 66, 67, 68, 69, 70, 71, 72, 73, 74, 75, 76, 77, 78, 79, 80, 81, 82, 83] rfl (wr := [(aIc cI x5 8 X5), (oX4 x1 x0 s1 s2 (nI pn) si4 s5 s6 s7 s8 s9 s10 s11 si12 si13), (aIc cI s5 8 S5), (aIc cI s6 8 S6), (aIc cI s7 8 S7), (aIc cI s8 8 S8), (aIc cI s9 8 S9), (aIc cI s10 8 S10), (aIc cI s11 8 S11), (oX0 x0 b0 b1 b2 b3 b4 b5 b6 b7 b8 b9 b10 b11 (nI np) (nI nl) bi14), (aIc cI b0 8 B0), (aIc cI b1 8 B1), (aIc cI b2 8 B2), (aIc cI b3 8 B3), (aIc cI b4 8 B4), (aIc cI b5 8 B5), (aIc cI b6 8 B6), (aIc cI b7 8 B7), (aIc cI b8 64 B8), (aIc cI b9 8 B9), (aIc cI b10 10 B10), (aIc cI b11 10 B11), (oX6 s1 w0 w1 w2 w3 w4 (nI wn) wi6 (nI lv) w8), (aIc cI w0 8 W0), (aIc cI w1 8 W1), (aIc cI w2 8 W2), (aIc cI w3 8 W3), (aIc cI w4 8 W4), (aIc cI w8 8 W8), (oX2 s2 d0 d1 d2), (aIc cI d0 8 D0), (aIc cI d1 8 D1), (aJc cJ d2 8 D2), (oX5 x2 y0 y1), (aIc cI y0 8 Y0), (aIc cI y1 8 Y1), (oX1 x3 t0 t1 t2 t3 ti4 (nI pm) t6 ti7 t8), (aIc cI t0 8 T0), (aIc cI t1 9 T1), (aIc cI t2 9 T2), (aIc cI t3 9 T3), (aIc cI t6 8 T6), (aIc cI t8 9 T8), (aIc cI g2 8 B0), (aIc cI g3 8 B1), (aIc cI g4 8 B2), (aIc cI g5 8 B3), (aIc cI g6 8 B4), (aIc cI g7 8 B5), (aIc cI g8 8 B6), (aIc cI g9 8 B7), (aIc cI g10 64 G10), (aIc cI g12 10 B10), (aIc cI g13 10 B11), (aIc cI g15 8 B9), (aIc cI g19 8 G19), (aIc cI g20 8 G20), (aIc cI g21 8 G21), (aIc cI g22 8 G22), (aIc cI g23 8 G23), (aIc cI g24 8 G24), (aIc cI g25 8 G25), (aIc cI g26 8 G26), (aIc cI g27 8 G27), (aIc cI g28 8 G28), (aIc cI g33 8 G33), (aIc cI g34 8 G34), (aIc cI g35 8 G35), (aIc cI g36 8 G36), (aJc cJ g37 8 G37), (aIc cI g38 8 G38), (aIc cI g39 8 G39), (aIc cI g41 9 G41), (aIc cI g42 192 G42), (aIc cI g44 8 G44), (aIc cI g45 8 G45), (aJc cJ o 1 OO), (oX7 x x0 x1 x2 x3 x4 x5), (oX3 x4 dr0 dr1), (aIc cI dr0 32 DR0), (aIc cI dr1 32 DR1)]) rfl (by decide +kernel) (by decide +kernel) (fun r9 u H locs hw10 hP hD hS => ?_)
      rcases hw10 with ⟨ha11, rfl, rfl⟩ | ⟨ha12, rfl, rfl⟩ | ⟨ha13, rfl, rfl⟩ | ⟨ha14, rfl, rfl⟩
      · skip
        refine lv_pop hx hb dL_law_1590 rfl ?_
        refine lv_goto (tgt := 1594) hx hb dL_law_1591 (by decide) ?_
        refine W.widen (k := k9 + 2) (n := n9 + 16) (by omega) (by omega) ?_
        exact kend pn np nl wn lv pm mv tt si4 si12 si13 bi14 wi6 ti4 ti7 0 gi18 gi29 gi30 gi40 gi43 X5 S5 S6 S7 S8 S9 S10 S11 B0 B1 B2 B3 B4 B5 B6 B7 B8 B9 B10 B11 W0 W1 W2 W3 W4 W8 D0 D1 Y0 Y1 T0 T1 T2 T3 T6 T8 DR0 DR1 G10 G16 G19 G20 G21 G22 G23 G24 G25 G26 G27 G28 G33 G34 G35 G36 G38 G39 G41 G42 G44 G45 D2 G37 OO _ _ _ dd hdd ⟨hnp, hnl, hwn, hlv, hpn, hpm, hmv, htt, hli, hor, hBK, hsu, hamt, hLE, hLO, hLW, hSH, hr8, hr16, hto⟩ (k_sub hP [77, 0, 1, 2, 3, 4, 5, 6, 7, 8, 9, 10, 11, 12, 13, 14, 15, 16, 17, 18, 19, 20, 21, 22, 23, 24, 25, 26, 27, 28, 29, 30, 31, 32, 33, 34, 35, 36, 37, 38, 39, 40, 41, 42, 78, 79, 80, 81, 43, 44, 45, 46, 47, 48, 49, 50, 51, 52, 53, 54, 82, 83, 55, 56, 57, 58, 59, 60, 61, 62, 63, 64, 65, 66, 67, 68, 69, 70, 71, 72, 73, 74, 75, 76] rfl) (hD.sub [77, 0, 1, 2, 3, 4, 5, 6, 7, 8, 9, 10, 11, 12, 13, 14, 15, 16, 17, 18, 19, 20, 21, 22, 23, 24, 25, 26, 27, 28, 29, 30, 31, 32, 33, 34, 35, 36, 37, 38, 39, 40, 41, 42, 78, 79, 80, 81, 43, 44, 45, 46, 47, 48, 49, 50, 51, 52, 53, 54, 82, 83, 55, 56, 57, 58, 59, 60, 61, 62, 63, 64, 65, 66, 67, 68, 69, 70, 71, 72, 73, 74, 75, 76] (by decide +kernel) rfl) hS (lv_sub hl [0, 1, 2, 3, 4] rfl)
      · skip
        exact absurd ha12.1 ha4
      · skip
        exact absurd ha13.1 ha4
      · skip
        exact absurd ha14.1 ha4
    · skip
      refine lv_pop hx hb dL_law_1559 rfl ?_
      refine lv_aload_n hx hb dL_law_1560 rfl (lv_at hl 2 rfl) ?_
      refine lv_aload_n hx hb dL_law_1561 rfl (lv_at hl 4 rfl) ?_
      refine lv_iload hx hb dL_law_1562 (lv_at hl 0 rfl) ?_
      refine lv_iconst (v := 1) hx hb dL_law_1564 (by decide) ?_
      refine lv_iadd hx hb dL_law_1565 ?_
      refine k_topi (nI_add j 1) ?_
      refine va_sld hx hb hX hbl hbA hS (vp_in_nI (n := j + 1) (by omega) (by omega)) dL_law_1566 ?_
      rw [hsx1]
      refine lv_aload_n hx hb dL_law_1567 rfl (lv_at hl 4 rfl) ?_
      refine lv_iload hx hb dL_law_1568 (lv_at hl 0 rfl) ?_
      refine lv_iconst (v := 2) hx hb dL_law_1570 (by decide) ?_
      refine lv_iadd hx hb dL_law_1571 ?_
      refine k_topi (nI_add j 2) ?_
      refine va_sld hx hb hX hbl hbA hS (vp_in_nI (n := j + 2) (by omega) (by omega)) dL_law_1572 ?_
      rw [hsx2]
      refine lv_aload_n hx hb dL_law_1573 rfl (lv_at hl 4 rfl) ?_
      refine lv_iload hx hb dL_law_1574 (lv_at hl 0 rfl) ?_
      refine lv_iconst (v := 3) hx hb dL_law_1576 (by decide) ?_
      refine lv_iadd hx hb dL_law_1577 ?_
      refine k_topi (nI_add j 3) ?_
      refine va_sld hx hb hX hbl hbA hS (vp_in_nI (n := j + 3) (by omega) (by omega)) dL_law_1578 ?_
      rw [hsx3]
      refine lv_if_eq (tgt := 1586) hx hb dL_law_1579 (by decide) (fun _ => ?_) (fun c15 => absurd c1 c15)
      refine lv_iconst (v := 0) hx hb dL_law_1586 (by decide) ?_
      refine k_i (va_runV (As := [.int a1, .int a2, .int 0]) (rest := []) ⟨hx, hb, hml, hown, hts⟩ (m_X8_filed l D cI cJ H.size g g2 g3 g4 g5 g6 g7 g8 g9 g10 g12 g13 g15 g16 g17 g19 g20 g21 g22 g23 g24 g25 g26 g27 g28 g33 g34 g35 g36 g37 g38 g39 g41 g42 g44 g45 np nl mv gi0 bi14 gi18 gi29 gi30 (nI tt) gi40 gi43 a1 a2 0 G16 DR1) (cwV 3 hts hL_law_X8_filed rfl rfl rfl (by decide +kernel) ⟨Nat.le_of_ble_eq_true rfl, Nat.le_of_ble_eq_true rfl⟩) (k_preV hE hP hD [43, 56, 57] (by decide +kernel) rfl 43 rfl rfl) rfl rfl hl.1 rfl (lv_room (Nat.le_of_ble_eq_true rfl)) dL_law_1587 ⟨by omega, by omega⟩) hP hD hS hA [43, 56, 57] [0, 1, 2, 3, 4, 5, 6, 7, 8, 9, 10, 11, 12, 13, 14, 15, 16, 17, 18, 19, 20, 21, 22, 23, 24, 25, 26, 27, 28, 29, 30, 31, 32, 33, 34, 35, 36, 37, 38, 39, 40, 41, 42, 44, 45, 46, 47, 48, 49, 50, 51, 52, 53, 54, 55, 58, 59, 60, 61, 62, 63, 64, 65, 66, 67, 68, 69, 70, 71, 72, 73, 74, 75, 76, 77, 78, 79, 80, 81, 82, 83] rfl (wr := [(aIc cI x5 8 X5), (oX4 x1 x0 s1 s2 (nI pn) si4 s5 s6 s7 s8 s9 s10 s11 si12 si13), (aIc cI s5 8 S5), (aIc cI s6 8 S6), (aIc cI s7 8 S7), (aIc cI s8 8 S8), (aIc cI s9 8 S9), (aIc cI s10 8 S10), (aIc cI s11 8 S11), (oX0 x0 b0 b1 b2 b3 b4 b5 b6 b7 b8 b9 b10 b11 (nI np) (nI nl) bi14), (aIc cI b0 8 B0), (aIc cI b1 8 B1), (aIc cI b2 8 B2), (aIc cI b3 8 B3), (aIc cI b4 8 B4), (aIc cI b5 8 B5), (aIc cI b6 8 B6), (aIc cI b7 8 B7), (aIc cI b8 64 B8), (aIc cI b9 8 B9), (aIc cI b10 10 B10), (aIc cI b11 10 B11), (oX6 s1 w0 w1 w2 w3 w4 (nI wn) wi6 (nI lv) w8), (aIc cI w0 8 W0), (aIc cI w1 8 W1), (aIc cI w2 8 W2), (aIc cI w3 8 W3), (aIc cI w4 8 W4), (aIc cI w8 8 W8), (oX2 s2 d0 d1 d2), (aIc cI d0 8 D0), (aIc cI d1 8 D1), (aJc cJ d2 8 D2), (oX5 x2 y0 y1), (aIc cI y0 8 Y0), (aIc cI y1 8 Y1), (oX1 x3 t0 t1 t2 t3 ti4 (nI pm) t6 ti7 t8), (aIc cI t0 8 T0), (aIc cI t1 9 T1), (aIc cI t2 9 T2), (aIc cI t3 9 T3), (aIc cI t6 8 T6), (aIc cI t8 9 T8), (aIc cI g2 8 B0), (aIc cI g3 8 B1), (aIc cI g4 8 B2), (aIc cI g5 8 B3), (aIc cI g6 8 B4), (aIc cI g7 8 B5), (aIc cI g8 8 B6), (aIc cI g9 8 B7), (aIc cI g10 64 G10), (aIc cI g12 10 B10), (aIc cI g13 10 B11), (aIc cI g15 8 B9), (aIc cI g19 8 G19), (aIc cI g20 8 G20), (aIc cI g21 8 G21), (aIc cI g22 8 G22), (aIc cI g23 8 G23), (aIc cI g24 8 G24), (aIc cI g25 8 G25), (aIc cI g26 8 G26), (aIc cI g27 8 G27), (aIc cI g28 8 G28), (aIc cI g33 8 G33), (aIc cI g34 8 G34), (aIc cI g35 8 G35), (aIc cI g36 8 G36), (aJc cJ g37 8 G37), (aIc cI g38 8 G38), (aIc cI g39 8 G39), (aIc cI g41 9 G41), (aIc cI g42 192 G42), (aIc cI g44 8 G44), (aIc cI g45 8 G45), (aJc cJ o 1 OO), (oX7 x x0 x1 x2 x3 x4 x5), (oX3 x4 dr0 dr1), (aIc cI dr0 32 DR0), (aIc cI dr1 32 DR1)]) rfl (by decide +kernel) (by decide +kernel) (fun r16 u H locs hw17 hP hD hS => ?_)
      rcases hw17 with ⟨ha18, rfl, rfl⟩ | ⟨ha19, rfl, rfl⟩ | ⟨ha20, rfl, rfl⟩ | ⟨ha21, rfl, rfl⟩
      · skip
        exact absurd ha5.1 ha18
      · skip
        refine lv_pop hx hb dL_law_1590 rfl ?_
        refine lv_goto (tgt := 1594) hx hb dL_law_1591 (by decide) ?_
        refine W.widen (k := k9 + 2) (n := n9 + 16) (by omega) (by omega) ?_
        exact kend pn np nl wn lv pm mv tt si4 si12 si13 bi14 wi6 ti4 ti7 0 gi18 gi29 gi30 gi40 gi43 X5 S5 S6 S7 S8 S9 S10 S11 B0 B1 B2 B3 B4 B5 B6 B7 B8 B9 B10 B11 W0 W1 W2 W3 W4 W8 D0 D1 Y0 Y1 T0 T1 T2 T3 T6 T8 DR0 DR1 G10 G16 G19 G20 G21 G22 G23 G24 G25 G26 G27 G28 G33 G34 G35 G36 G38 G39 G41 G42 G44 G45 D2 G37 OO _ _ _ dd hdd ⟨hnp, hnl, hwn, hlv, hpn, hpm, hmv, htt, hli, hor, hBK, hsu, hamt, hLE, hLO, hLW, hSH, hr8, hr16, hto⟩ (k_sub hP [77, 0, 1, 2, 3, 4, 5, 6, 7, 8, 9, 10, 11, 12, 13, 14, 15, 16, 17, 18, 19, 20, 21, 22, 23, 24, 25, 26, 27, 28, 29, 30, 31, 32, 33, 34, 35, 36, 37, 38, 39, 40, 41, 42, 78, 79, 80, 81, 43, 44, 45, 46, 47, 48, 49, 50, 51, 52, 53, 54, 82, 83, 55, 56, 57, 58, 59, 60, 61, 62, 63, 64, 65, 66, 67, 68, 69, 70, 71, 72, 73, 74, 75, 76] rfl) (hD.sub [77, 0, 1, 2, 3, 4, 5, 6, 7, 8, 9, 10, 11, 12, 13, 14, 15, 16, 17, 18, 19, 20, 21, 22, 23, 24, 25, 26, 27, 28, 29, 30, 31, 32, 33, 34, 35, 36, 37, 38, 39, 40, 41, 42, 78, 79, 80, 81, 43, 44, 45, 46, 47, 48, 49, 50, 51, 52, 53, 54, 82, 83, 55, 56, 57, 58, 59, 60, 61, 62, 63, 64, 65, 66, 67, 68, 69, 70, 71, 72, 73, 74, 75, 76] (by decide +kernel) rfl) hS (lv_sub hl [0, 1, 2, 3, 4] rfl)
      · skip
        exact absurd ((fd_iff hr16 ha5.1).mp ha5.2) ha20.2.1
      · skip
        exact absurd ((fd_iff hr16 ha5.1).mp ha5.2) ha21.2.1
    · skip
      refine lv_pop hx hb dL_law_1559 rfl ?_
      refine lv_aload_n hx hb dL_law_1560 rfl (lv_at hl 2 rfl) ?_
      refine lv_aload_n hx hb dL_law_1561 rfl (lv_at hl 4 rfl) ?_
      refine lv_iload hx hb dL_law_1562 (lv_at hl 0 rfl) ?_
      refine lv_iconst (v := 1) hx hb dL_law_1564 (by decide) ?_
      refine lv_iadd hx hb dL_law_1565 ?_
      refine k_topi (nI_add j 1) ?_
      refine va_sld hx hb hX hbl hbA hS (vp_in_nI (n := j + 1) (by omega) (by omega)) dL_law_1566 ?_
      rw [hsx1]
      refine lv_aload_n hx hb dL_law_1567 rfl (lv_at hl 4 rfl) ?_
      refine lv_iload hx hb dL_law_1568 (lv_at hl 0 rfl) ?_
      refine lv_iconst (v := 2) hx hb dL_law_1570 (by decide) ?_
      refine lv_iadd hx hb dL_law_1571 ?_
      refine k_topi (nI_add j 2) ?_
      refine va_sld hx hb hX hbl hbA hS (vp_in_nI (n := j + 2) (by omega) (by omega)) dL_law_1572 ?_
      rw [hsx2]
      refine lv_aload_n hx hb dL_law_1573 rfl (lv_at hl 4 rfl) ?_
      refine lv_iload hx hb dL_law_1574 (lv_at hl 0 rfl) ?_
      refine lv_iconst (v := 3) hx hb dL_law_1576 (by decide) ?_
      refine lv_iadd hx hb dL_law_1577 ?_
      refine k_topi (nI_add j 3) ?_
      refine va_sld hx hb hX hbl hbA hS (vp_in_nI (n := j + 3) (by omega) (by omega)) dL_law_1578 ?_
      rw [hsx3]
      refine lv_if_eq (tgt := 1586) hx hb dL_law_1579 (by decide) (fun _ => ?_) (fun c22 => absurd c1 c22)
      refine lv_iconst (v := 0) hx hb dL_law_1586 (by decide) ?_
      refine k_i (va_runV (As := [.int a1, .int a2, .int 0]) (rest := []) ⟨hx, hb, hml, hown, hts⟩ (m_X8_filed l D cI cJ H.size g g2 g3 g4 g5 g6 g7 g8 g9 g10 g12 g13 g15 g16 g17 g19 g20 g21 g22 g23 g24 g25 g26 g27 g28 g33 g34 g35 g36 g37 g38 g39 g41 g42 g44 g45 np nl mv gi0 bi14 gi18 gi29 gi30 (nI tt) gi40 gi43 a1 a2 0 G16 DR1) (cwV 3 hts hL_law_X8_filed rfl rfl rfl (by decide +kernel) ⟨Nat.le_of_ble_eq_true rfl, Nat.le_of_ble_eq_true rfl⟩) (k_preV hE hP hD [43, 56, 57] (by decide +kernel) rfl 43 rfl rfl) rfl rfl hl.1 rfl (lv_room (Nat.le_of_ble_eq_true rfl)) dL_law_1587 ⟨by omega, by omega⟩) hP hD hS hA [43, 56, 57] [0, 1, 2, 3, 4, 5, 6, 7, 8, 9, 10, 11, 12, 13, 14, 15, 16, 17, 18, 19, 20, 21, 22, 23, 24, 25, 26, 27, 28, 29, 30, 31, 32, 33, 34, 35, 36, 37, 38, 39, 40, 41, 42, 44, 45, 46, 47, 48, 49, 50, 51, 52, 53, 54, 55, 58, 59, 60, 61, 62, 63, 64, 65, 66, 67, 68, 69, 70, 71, 72, 73, 74, 75, 76, 77, 78, 79, 80, 81, 82, 83] rfl (wr := [(aIc cI x5 8 X5), (oX4 x1 x0 s1 s2 (nI pn) si4 s5 s6 s7 s8 s9 s10 s11 si12 si13), (aIc cI s5 8 S5), (aIc cI s6 8 S6), (aIc cI s7 8 S7), (aIc cI s8 8 S8), (aIc cI s9 8 S9), (aIc cI s10 8 S10), (aIc cI s11 8 S11), (oX0 x0 b0 b1 b2 b3 b4 b5 b6 b7 b8 b9 b10 b11 (nI np) (nI nl) bi14), (aIc cI b0 8 B0), (aIc cI b1 8 B1), (aIc cI b2 8 B2), (aIc cI b3 8 B3), (aIc cI b4 8 B4), (aIc cI b5 8 B5), (aIc cI b6 8 B6), (aIc cI b7 8 B7), (aIc cI b8 64 B8), (aIc cI b9 8 B9), (aIc cI b10 10 B10), (aIc cI b11 10 B11), (oX6 s1 w0 w1 w2 w3 w4 (nI wn) wi6 (nI lv) w8), (aIc cI w0 8 W0), (aIc cI w1 8 W1), (aIc cI w2 8 W2), (aIc cI w3 8 W3), (aIc cI w4 8 W4), (aIc cI w8 8 W8), (oX2 s2 d0 d1 d2), (aIc cI d0 8 D0), (aIc cI d1 8 D1), (aJc cJ d2 8 D2), (oX5 x2 y0 y1), (aIc cI y0 8 Y0), (aIc cI y1 8 Y1), (oX1 x3 t0 t1 t2 t3 ti4 (nI pm) t6 ti7 t8), (aIc cI t0 8 T0), (aIc cI t1 9 T1), (aIc cI t2 9 T2), (aIc cI t3 9 T3), (aIc cI t6 8 T6), (aIc cI t8 9 T8), (aIc cI g2 8 B0), (aIc cI g3 8 B1), (aIc cI g4 8 B2), (aIc cI g5 8 B3), (aIc cI g6 8 B4), (aIc cI g7 8 B5), (aIc cI g8 8 B6), (aIc cI g9 8 B7), (aIc cI g10 64 G10), (aIc cI g12 10 B10), (aIc cI g13 10 B11), (aIc cI g15 8 B9), (aIc cI g19 8 G19), (aIc cI g20 8 G20), (aIc cI g21 8 G21), (aIc cI g22 8 G22), (aIc cI g23 8 G23), (aIc cI g24 8 G24), (aIc cI g25 8 G25), (aIc cI g26 8 G26), (aIc cI g27 8 G27), (aIc cI g28 8 G28), (aIc cI g33 8 G33), (aIc cI g34 8 G34), (aIc cI g35 8 G35), (aIc cI g36 8 G36), (aJc cJ g37 8 G37), (aIc cI g38 8 G38), (aIc cI g39 8 G39), (aIc cI g41 9 G41), (aIc cI g42 192 G42), (aIc cI g44 8 G44), (aIc cI g45 8 G45), (aJc cJ o 1 OO), (oX7 x x0 x1 x2 x3 x4 x5), (oX3 x4 dr0 dr1), (aIc cI dr0 32 DR0), (aIc cI dr1 32 DR1)]) rfl (by decide +kernel) (by decide +kernel) (fun r23 u H locs hw24 hP hD hS => ?_)
      rcases hw24 with ⟨ha25, rfl, rfl⟩ | ⟨ha26, rfl, rfl⟩ | ⟨ha27, rfl, rfl⟩ | ⟨ha28, rfl, rfl⟩
      · skip
        exact absurd ha6.1 ha25
      · skip
        exact absurd ((fd_iff hr16 ha26.1).mpr ha26.2) ha6.2.1
      · skip
        refine lv_pop hx hb dL_law_1590 rfl ?_
        refine lv_goto (tgt := 1594) hx hb dL_law_1591 (by decide) ?_
        refine W.widen (k := k9 + 2) (n := n9 + 16) (by omega) (by omega) ?_
        exact kend pn np nl wn lv pm mv tt si4 si12 si13 bi14 wi6 ti4 ti7 0 gi18 gi29 gi30 gi40 gi43 X5 S5 S6 S7 S8 S9 S10 S11 B0 B1 B2 B3 B4 B5 B6 B7 B8 B9 B10 B11 W0 W1 W2 W3 W4 W8 D0 D1 Y0 Y1 T0 T1 T2 T3 T6 T8 DR0 DR1 G10 G16 G19 G20 G21 G22 G23 G24 G25 G26 G27 G28 G33 G34 G35 G36 G38 G39 G41 G42 G44 G45 D2 G37 OO _ _ _ dd hdd ⟨hnp, hnl, hwn, hlv, hpn, hpm, hmv, htt, hli, hor, hBK, hsu, hamt, hLE, hLO, hLW, hSH, hr8, hr16, hto⟩ (k_sub hP [77, 0, 1, 2, 3, 4, 5, 6, 7, 8, 9, 10, 11, 12, 13, 14, 15, 16, 17, 18, 19, 20, 21, 22, 23, 24, 25, 26, 27, 28, 29, 30, 31, 32, 33, 34, 35, 36, 37, 38, 39, 40, 41, 42, 78, 79, 80, 81, 43, 44, 45, 46, 47, 48, 49, 50, 51, 52, 53, 54, 82, 83, 55, 56, 57, 58, 59, 60, 61, 62, 63, 64, 65, 66, 67, 68, 69, 70, 71, 72, 73, 74, 75, 76] rfl) (hD.sub [77, 0, 1, 2, 3, 4, 5, 6, 7, 8, 9, 10, 11, 12, 13, 14, 15, 16, 17, 18, 19, 20, 21, 22, 23, 24, 25, 26, 27, 28, 29, 30, 31, 32, 33, 34, 35, 36, 37, 38, 39, 40, 41, 42, 78, 79, 80, 81, 43, 44, 45, 46, 47, 48, 49, 50, 51, 52, 53, 54, 82, 83, 55, 56, 57, 58, 59, 60, 61, 62, 63, 64, 65, 66, 67, 68, 69, 70, 71, 72, 73, 74, 75, 76] (by decide +kernel) rfl) hS (lv_sub hl [0, 1, 2, 3, 4] rfl)
      · skip
        exact absurd ha28.2.2 ha6.2.2
    · skip
      refine lv_pop hx hb dL_law_1559 rfl ?_
      refine lv_aload_n hx hb dL_law_1560 rfl (lv_at hl 2 rfl) ?_
      refine lv_aload_n hx hb dL_law_1561 rfl (lv_at hl 4 rfl) ?_
      refine lv_iload hx hb dL_law_1562 (lv_at hl 0 rfl) ?_
      refine lv_iconst (v := 1) hx hb dL_law_1564 (by decide) ?_
      refine lv_iadd hx hb dL_law_1565 ?_
      refine k_topi (nI_add j 1) ?_
      refine va_sld hx hb hX hbl hbA hS (vp_in_nI (n := j + 1) (by omega) (by omega)) dL_law_1566 ?_
      rw [hsx1]
      refine lv_aload_n hx hb dL_law_1567 rfl (lv_at hl 4 rfl) ?_
      refine lv_iload hx hb dL_law_1568 (lv_at hl 0 rfl) ?_
      refine lv_iconst (v := 2) hx hb dL_law_1570 (by decide) ?_
      refine lv_iadd hx hb dL_law_1571 ?_
      refine k_topi (nI_add j 2) ?_
      refine va_sld hx hb hX hbl hbA hS (vp_in_nI (n := j + 2) (by omega) (by omega)) dL_law_1572 ?_
      rw [hsx2]
      refine lv_aload_n hx hb dL_law_1573 rfl (lv_at hl 4 rfl) ?_
      refine lv_iload hx hb dL_law_1574 (lv_at hl 0 rfl) ?_
      refine lv_iconst (v := 3) hx hb dL_law_1576 (by decide) ?_
      refine lv_iadd hx hb dL_law_1577 ?_
      refine k_topi (nI_add j 3) ?_
      refine va_sld hx hb hX hbl hbA hS (vp_in_nI (n := j + 3) (by omega) (by omega)) dL_law_1578 ?_
      rw [hsx3]
      refine lv_if_eq (tgt := 1586) hx hb dL_law_1579 (by decide) (fun _ => ?_) (fun c29 => absurd c1 c29)
      refine lv_iconst (v := 0) hx hb dL_law_1586 (by decide) ?_
      refine k_i (va_runV (As := [.int a1, .int a2, .int 0]) (rest := []) ⟨hx, hb, hml, hown, hts⟩ (m_X8_filed l D cI cJ H.size g g2 g3 g4 g5 g6 g7 g8 g9 g10 g12 g13 g15 g16 g17 g19 g20 g21 g22 g23 g24 g25 g26 g27 g28 g33 g34 g35 g36 g37 g38 g39 g41 g42 g44 g45 np nl mv gi0 bi14 gi18 gi29 gi30 (nI tt) gi40 gi43 a1 a2 0 G16 DR1) (cwV 3 hts hL_law_X8_filed rfl rfl rfl (by decide +kernel) ⟨Nat.le_of_ble_eq_true rfl, Nat.le_of_ble_eq_true rfl⟩) (k_preV hE hP hD [43, 56, 57] (by decide +kernel) rfl 43 rfl rfl) rfl rfl hl.1 rfl (lv_room (Nat.le_of_ble_eq_true rfl)) dL_law_1587 ⟨by omega, by omega⟩) hP hD hS hA [43, 56, 57] [0, 1, 2, 3, 4, 5, 6, 7, 8, 9, 10, 11, 12, 13, 14, 15, 16, 17, 18, 19, 20, 21, 22, 23, 24, 25, 26, 27, 28, 29, 30, 31, 32, 33, 34, 35, 36, 37, 38, 39, 40, 41, 42, 44, 45, 46, 47, 48, 49, 50, 51, 52, 53, 54, 55, 58, 59, 60, 61, 62, 63, 64, 65, 66, 67, 68, 69, 70, 71, 72, 73, 74, 75, 76, 77, 78, 79, 80, 81, 82, 83] rfl (wr := [(aIc cI x5 8 X5), (oX4 x1 x0 s1 s2 (nI pn) si4 s5 s6 s7 s8 s9 s10 s11 si12 si13), (aIc cI s5 8 S5), (aIc cI s6 8 S6), (aIc cI s7 8 S7), (aIc cI s8 8 S8), (aIc cI s9 8 S9), (aIc cI s10 8 S10), (aIc cI s11 8 S11), (oX0 x0 b0 b1 b2 b3 b4 b5 b6 b7 b8 b9 b10 b11 (nI np) (nI nl) bi14), (aIc cI b0 8 B0), (aIc cI b1 8 B1), (aIc cI b2 8 B2), (aIc cI b3 8 B3), (aIc cI b4 8 B4), (aIc cI b5 8 B5), (aIc cI b6 8 B6), (aIc cI b7 8 B7), (aIc cI b8 64 B8), (aIc cI b9 8 B9), (aIc cI b10 10 B10), (aIc cI b11 10 B11), (oX6 s1 w0 w1 w2 w3 w4 (nI wn) wi6 (nI lv) w8), (aIc cI w0 8 W0), (aIc cI w1 8 W1), (aIc cI w2 8 W2), (aIc cI w3 8 W3), (aIc cI w4 8 W4), (aIc cI w8 8 W8), (oX2 s2 d0 d1 d2), (aIc cI d0 8 D0), (aIc cI d1 8 D1), (aJc cJ d2 8 D2), (oX5 x2 y0 y1), (aIc cI y0 8 Y0), (aIc cI y1 8 Y1), (oX1 x3 t0 t1 t2 t3 ti4 (nI pm) t6 ti7 t8), (aIc cI t0 8 T0), (aIc cI t1 9 T1), (aIc cI t2 9 T2), (aIc cI t3 9 T3), (aIc cI t6 8 T6), (aIc cI t8 9 T8), (aIc cI g2 8 B0), (aIc cI g3 8 B1), (aIc cI g4 8 B2), (aIc cI g5 8 B3), (aIc cI g6 8 B4), (aIc cI g7 8 B5), (aIc cI g8 8 B6), (aIc cI g9 8 B7), (aIc cI g10 64 G10), (aIc cI g12 10 B10), (aIc cI g13 10 B11), (aIc cI g15 8 B9), (aIc cI g19 8 G19), (aIc cI g20 8 G20), (aIc cI g21 8 G21), (aIc cI g22 8 G22), (aIc cI g23 8 G23), (aIc cI g24 8 G24), (aIc cI g25 8 G25), (aIc cI g26 8 G26), (aIc cI g27 8 G27), (aIc cI g28 8 G28), (aIc cI g33 8 G33), (aIc cI g34 8 G34), (aIc cI g35 8 G35), (aIc cI g36 8 G36), (aJc cJ g37 8 G37), (aIc cI g38 8 G38), (aIc cI g39 8 G39), (aIc cI g41 9 G41), (aIc cI g42 192 G42), (aIc cI g44 8 G44), (aIc cI g45 8 G45), (aJc cJ o 1 OO), (oX7 x x0 x1 x2 x3 x4 x5), (oX3 x4 dr0 dr1), (aIc cI dr0 32 DR0), (aIc cI dr1 32 DR1)]) rfl (by decide +kernel) (by decide +kernel) (fun r30 u H locs hw31 hP hD hS => ?_)
      rcases hw31 with ⟨ha32, rfl, rfl⟩ | ⟨ha33, rfl, rfl⟩ | ⟨ha34, rfl, rfl⟩ | ⟨ha35, rfl, rfl⟩
      · skip
        exact absurd ha7.1 ha32
      · skip
        exact absurd ((fd_iff hr16 ha33.1).mpr ha33.2) ha7.2.1
      · skip
        exact absurd ha7.2.2 ha34.2.2
      · skip
        refine lv_pop hx hb dL_law_1590 rfl ?_
        refine lv_goto (tgt := 1594) hx hb dL_law_1591 (by decide) ?_
        refine W.widen (k := k9 + 2) (n := n9 + 16) (by omega) (by omega) ?_
        exact kend pn np nl wn lv pm mv tt si4 si12 si13 bi14 wi6 ti4 ti7 0 gi18 gi29 gi30 gi40 gi43 X5 S5 S6 S7 S8 S9 S10 S11 B0 B1 B2 B3 B4 B5 B6 B7 B8 B9 B10 B11 W0 W1 W2 W3 W4 W8 D0 D1 Y0 Y1 T0 T1 T2 T3 T6 T8 DR0 DR1 G10 G16 G19 G20 G21 G22 G23 G24 G25 G26 G27 G28 G33 G34 G35 G36 G38 G39 G41 G42 G44 G45 D2 G37 OO _ _ _ dd hdd ⟨hnp, hnl, hwn, hlv, hpn, hpm, hmv, htt, hli, hor, hBK, hsu, hamt, hLE, hLO, hLW, hSH, hr8, hr16, hto⟩ (k_sub hP [77, 0, 1, 2, 3, 4, 5, 6, 7, 8, 9, 10, 11, 12, 13, 14, 15, 16, 17, 18, 19, 20, 21, 22, 23, 24, 25, 26, 27, 28, 29, 30, 31, 32, 33, 34, 35, 36, 37, 38, 39, 40, 41, 42, 78, 79, 80, 81, 43, 44, 45, 46, 47, 48, 49, 50, 51, 52, 53, 54, 82, 83, 55, 56, 57, 58, 59, 60, 61, 62, 63, 64, 65, 66, 67, 68, 69, 70, 71, 72, 73, 74, 75, 76] rfl) (hD.sub [77, 0, 1, 2, 3, 4, 5, 6, 7, 8, 9, 10, 11, 12, 13, 14, 15, 16, 17, 18, 19, 20, 21, 22, 23, 24, 25, 26, 27, 28, 29, 30, 31, 32, 33, 34, 35, 36, 37, 38, 39, 40, 41, 42, 78, 79, 80, 81, 43, 44, 45, 46, 47, 48, 49, 50, 51, 52, 53, 54, 82, 83, 55, 56, 57, 58, 59, 60, 61, 62, 63, 64, 65, 66, 67, 68, 69, 70, 71, 72, 73, 74, 75, 76] (by decide +kernel) rfl) hS (lv_sub hl [0, 1, 2, 3, 4] rfl)
  · skip
    refine lv_iconst (v := 1) hx hb dL_law_1551 (by decide) ?_
    refine lv_goto (tgt := 1556) hx hb dL_law_1552 (by decide) ?_
    refine k_i (va_runV (As := [.int a1, .int a2, .int 1]) (rest := []) ⟨hx, hb, hml, hown, hts⟩ (m_X7_filed l D cI cJ H.size x x0 x1 x2 x3 x4 x5 dr0 dr1 a1 a2 1 DR0 DR1) (cwV 3 hts hL_law_X7_filed rfl rfl rfl (by decide +kernel) ⟨Nat.le_of_ble_eq_true rfl, Nat.le_of_ble_eq_true rfl⟩) (k_preV hE hP hD [0, 44, 45, 46] (by decide +kernel) rfl 0 rfl rfl) rfl rfl hl.1 rfl (lv_room (Nat.le_of_ble_eq_true rfl)) dL_law_1556 ⟨by omega, by omega⟩) hP hD hS hA [0, 44, 45, 46] [1, 2, 3, 4, 5, 6, 7, 8, 9, 10, 11, 12, 13, 14, 15, 16, 17, 18, 19, 20, 21, 22, 23, 24, 25, 26, 27, 28, 29, 30, 31, 32, 33, 34, 35, 36, 37, 38, 39, 40, 41, 42, 43, 47, 48, 49, 50, 51, 52, 53, 54, 55, 56, 57, 58, 59, 60, 61, 62, 63, 64, 65, 66, 67, 68, 69, 70, 71, 72, 73, 74, 75, 76, 77, 78, 79, 80, 81, 82, 83] rfl (wr := [(aIc cI x5 8 X5), (oX4 x1 x0 s1 s2 (nI pn) si4 s5 s6 s7 s8 s9 s10 s11 si12 si13), (aIc cI s5 8 S5), (aIc cI s6 8 S6), (aIc cI s7 8 S7), (aIc cI s8 8 S8), (aIc cI s9 8 S9), (aIc cI s10 8 S10), (aIc cI s11 8 S11), (oX0 x0 b0 b1 b2 b3 b4 b5 b6 b7 b8 b9 b10 b11 (nI np) (nI nl) bi14), (aIc cI b0 8 B0), (aIc cI b1 8 B1), (aIc cI b2 8 B2), (aIc cI b3 8 B3), (aIc cI b4 8 B4), (aIc cI b5 8 B5), (aIc cI b6 8 B6), (aIc cI b7 8 B7), (aIc cI b8 64 B8), (aIc cI b9 8 B9), (aIc cI b10 10 B10), (aIc cI b11 10 B11), (oX6 s1 w0 w1 w2 w3 w4 (nI wn) wi6 (nI lv) w8), (aIc cI w0 8 W0), (aIc cI w1 8 W1), (aIc cI w2 8 W2), (aIc cI w3 8 W3), (aIc cI w4 8 W4), (aIc cI w8 8 W8), (oX2 s2 d0 d1 d2), (aIc cI d0 8 D0), (aIc cI d1 8 D1), (aJc cJ d2 8 D2), (oX5 x2 y0 y1), (aIc cI y0 8 Y0), (aIc cI y1 8 Y1), (oX1 x3 t0 t1 t2 t3 ti4 (nI pm) t6 ti7 t8), (aIc cI t0 8 T0), (aIc cI t1 9 T1), (aIc cI t2 9 T2), (aIc cI t3 9 T3), (aIc cI t6 8 T6), (aIc cI t8 9 T8), (oX8 g gi0 (nI np) g2 g3 g4 g5 g6 g7 g8 g9 g10 (nI nl) g12 g13 bi14 g15 g16 g17 gi18 g19 g20 g21 g22 g23 g24 g25 g26 g27 g28 gi29 gi30 (nI mv) (nI tt) g33 g34 g35 g36 g37 g38 g39 gi40 g41 g42 gi43 g44 g45), (aIc cI g2 8 B0), (aIc cI g3 8 B1), (aIc cI g4 8 B2), (aIc cI g5 8 B3), (aIc cI g6 8 B4), (aIc cI g7 8 B5), (aIc cI g8 8 B6), (aIc cI g9 8 B7), (aIc cI g10 64 G10), (aIc cI g12 10 B10), (aIc cI g13 10 B11), (aIc cI g15 8 B9), (aIc cI g16 32 G16), (aIc cI g17 32 DR1), (aIc cI g19 8 G19), (aIc cI g20 8 G20), (aIc cI g21 8 G21), (aIc cI g22 8 G22), (aIc cI g23 8 G23), (aIc cI g24 8 G24), (aIc cI g25 8 G25), (aIc cI g26 8 G26), (aIc cI g27 8 G27), (aIc cI g28 8 G28), (aIc cI g33 8 G33), (aIc cI g34 8 G34), (aIc cI g35 8 G35), (aIc cI g36 8 G36), (aJc cJ g37 8 G37), (aIc cI g38 8 G38), (aIc cI g39 8 G39), (aIc cI g41 9 G41), (aIc cI g42 192 G42), (aIc cI g44 8 G44), (aIc cI g45 8 G45), (aJc cJ o 1 OO)]) rfl (by decide +kernel) (by decide +kernel) (fun r36 u H locs hw37 hP hD hS => ?_)
    rcases hw37 with ⟨ha38, rfl, rfl⟩ | ⟨ha39, rfl, rfl⟩ | ⟨ha40, rfl, rfl⟩ | ⟨ha41, rfl, rfl⟩
    · skip
      refine lv_pop hx hb dL_law_1559 rfl ?_
      refine lv_aload_n hx hb dL_law_1560 rfl (lv_at hl 2 rfl) ?_
      refine lv_aload_n hx hb dL_law_1561 rfl (lv_at hl 4 rfl) ?_
      refine lv_iload hx hb dL_law_1562 (lv_at hl 0 rfl) ?_
      refine lv_iconst (v := 1) hx hb dL_law_1564 (by decide) ?_
      refine lv_iadd hx hb dL_law_1565 ?_
      refine k_topi (nI_add j 1) ?_
      refine va_sld hx hb hX hbl hbA hS (vp_in_nI (n := j + 1) (by omega) (by omega)) dL_law_1566 ?_
      rw [hsx1]
      refine lv_aload_n hx hb dL_law_1567 rfl (lv_at hl 4 rfl) ?_
      refine lv_iload hx hb dL_law_1568 (lv_at hl 0 rfl) ?_
      refine lv_iconst (v := 2) hx hb dL_law_1570 (by decide) ?_
      refine lv_iadd hx hb dL_law_1571 ?_
      refine k_topi (nI_add j 2) ?_
      refine va_sld hx hb hX hbl hbA hS (vp_in_nI (n := j + 2) (by omega) (by omega)) dL_law_1572 ?_
      rw [hsx2]
      refine lv_aload_n hx hb dL_law_1573 rfl (lv_at hl 4 rfl) ?_
      refine lv_iload hx hb dL_law_1574 (lv_at hl 0 rfl) ?_
      refine lv_iconst (v := 3) hx hb dL_law_1576 (by decide) ?_
      refine lv_iadd hx hb dL_law_1577 ?_
      refine k_topi (nI_add j 3) ?_
      refine va_sld hx hb hX hbl hbA hS (vp_in_nI (n := j + 3) (by omega) (by omega)) dL_law_1578 ?_
      rw [hsx3]
      refine lv_if_eq (tgt := 1586) hx hb dL_law_1579 (by decide) (fun c42 => absurd c42 c1) (fun _ => ?_)
      refine lv_iconst (v := 1) hx hb dL_law_1582 (by decide) ?_
      refine lv_goto (tgt := 1587) hx hb dL_law_1583 (by decide) ?_
      refine k_i (va_runV (As := [.int a1, .int a2, .int 1]) (rest := []) ⟨hx, hb, hml, hown, hts⟩ (m_X8_filed l D cI cJ H.size g g2 g3 g4 g5 g6 g7 g8 g9 g10 g12 g13 g15 g16 g17 g19 g20 g21 g22 g23 g24 g25 g26 g27 g28 g33 g34 g35 g36 g37 g38 g39 g41 g42 g44 g45 np nl mv gi0 bi14 gi18 gi29 gi30 (nI tt) gi40 gi43 a1 a2 1 G16 DR1) (cwV 3 hts hL_law_X8_filed rfl rfl rfl (by decide +kernel) ⟨Nat.le_of_ble_eq_true rfl, Nat.le_of_ble_eq_true rfl⟩) (k_preV hE hP hD [43, 56, 57] (by decide +kernel) rfl 43 rfl rfl) rfl rfl hl.1 rfl (lv_room (Nat.le_of_ble_eq_true rfl)) dL_law_1587 ⟨by omega, by omega⟩) hP hD hS hA [43, 56, 57] [0, 1, 2, 3, 4, 5, 6, 7, 8, 9, 10, 11, 12, 13, 14, 15, 16, 17, 18, 19, 20, 21, 22, 23, 24, 25, 26, 27, 28, 29, 30, 31, 32, 33, 34, 35, 36, 37, 38, 39, 40, 41, 42, 44, 45, 46, 47, 48, 49, 50, 51, 52, 53, 54, 55, 58, 59, 60, 61, 62, 63, 64, 65, 66, 67, 68, 69, 70, 71, 72, 73, 74, 75, 76, 77, 78, 79, 80, 81, 82, 83] rfl (wr := [(aIc cI x5 8 X5), (oX4 x1 x0 s1 s2 (nI pn) si4 s5 s6 s7 s8 s9 s10 s11 si12 si13), (aIc cI s5 8 S5), (aIc cI s6 8 S6), (aIc cI s7 8 S7), (aIc cI s8 8 S8), (aIc cI s9 8 S9), (aIc cI s10 8 S10), (aIc cI s11 8 S11), (oX0 x0 b0 b1 b2 b3 b4 b5 b6 b7 b8 b9 b10 b11 (nI np) (nI nl) bi14), (aIc cI b0 8 B0), (aIc cI b1 8 B1), (aIc cI b2 8 B2), (aIc cI b3 8 B3), (aIc cI b4 8 B4), (aIc cI b5 8 B5), (aIc cI b6 8 B6), (aIc cI b7 8 B7), (aIc cI b8 64 B8), (aIc cI b9 8 B9), (aIc cI b10 10 B10), (aIc cI b11 10 B11), (oX6 s1 w0 w1 w2 w3 w4 (nI wn) wi6 (nI lv) w8), (aIc cI w0 8 W0), (aIc cI w1 8 W1), (aIc cI w2 8 W2), (aIc cI w3 8 W3), (aIc cI w4 8 W4), (aIc cI w8 8 W8), (oX2 s2 d0 d1 d2), (aIc cI d0 8 D0), (aIc cI d1 8 D1), (aJc cJ d2 8 D2), (oX5 x2 y0 y1), (aIc cI y0 8 Y0), (aIc cI y1 8 Y1), (oX1 x3 t0 t1 t2 t3 ti4 (nI pm) t6 ti7 t8), (aIc cI t0 8 T0), (aIc cI t1 9 T1), (aIc cI t2 9 T2), (aIc cI t3 9 T3), (aIc cI t6 8 T6), (aIc cI t8 9 T8), (aIc cI g2 8 B0), (aIc cI g3 8 B1), (aIc cI g4 8 B2), (aIc cI g5 8 B3), (aIc cI g6 8 B4), (aIc cI g7 8 B5), (aIc cI g8 8 B6), (aIc cI g9 8 B7), (aIc cI g10 64 G10), (aIc cI g12 10 B10), (aIc cI g13 10 B11), (aIc cI g15 8 B9), (aIc cI g19 8 G19), (aIc cI g20 8 G20), (aIc cI g21 8 G21), (aIc cI g22 8 G22), (aIc cI g23 8 G23), (aIc cI g24 8 G24), (aIc cI g25 8 G25), (aIc cI g26 8 G26), (aIc cI g27 8 G27), (aIc cI g28 8 G28), (aIc cI g33 8 G33), (aIc cI g34 8 G34), (aIc cI g35 8 G35), (aIc cI g36 8 G36), (aJc cJ g37 8 G37), (aIc cI g38 8 G38), (aIc cI g39 8 G39), (aIc cI g41 9 G41), (aIc cI g42 192 G42), (aIc cI g44 8 G44), (aIc cI g45 8 G45), (aJc cJ o 1 OO), (oX7 x x0 x1 x2 x3 x4 x5), (oX3 x4 dr0 dr1), (aIc cI dr0 32 DR0), (aIc cI dr1 32 DR1)]) rfl (by decide +kernel) (by decide +kernel) (fun r43 u H locs hw44 hP hD hS => ?_)
      rcases hw44 with ⟨ha45, rfl, rfl⟩ | ⟨ha46, rfl, rfl⟩ | ⟨ha47, rfl, rfl⟩ | ⟨ha48, rfl, rfl⟩
      · skip
        refine lv_pop hx hb dL_law_1590 rfl ?_
        refine lv_goto (tgt := 1594) hx hb dL_law_1591 (by decide) ?_
        refine W.widen (k := k9 + 2) (n := n9 + 16) (by omega) (by omega) ?_
        exact kend pn np nl wn lv pm mv tt si4 si12 si13 bi14 wi6 ti4 ti7 0 gi18 gi29 gi30 gi40 gi43 X5 S5 S6 S7 S8 S9 S10 S11 B0 B1 B2 B3 B4 B5 B6 B7 B8 B9 B10 B11 W0 W1 W2 W3 W4 W8 D0 D1 Y0 Y1 T0 T1 T2 T3 T6 T8 DR0 DR1 G10 G16 G19 G20 G21 G22 G23 G24 G25 G26 G27 G28 G33 G34 G35 G36 G38 G39 G41 G42 G44 G45 D2 G37 OO _ _ _ dd hdd ⟨hnp, hnl, hwn, hlv, hpn, hpm, hmv, htt, hli, hor, hBK, hsu, hamt, hLE, hLO, hLW, hSH, hr8, hr16, hto⟩ (k_sub hP [77, 0, 1, 2, 3, 4, 5, 6, 7, 8, 9, 10, 11, 12, 13, 14, 15, 16, 17, 18, 19, 20, 21, 22, 23, 24, 25, 26, 27, 28, 29, 30, 31, 32, 33, 34, 35, 36, 37, 38, 39, 40, 41, 42, 78, 79, 80, 81, 43, 44, 45, 46, 47, 48, 49, 50, 51, 52, 53, 54, 82, 83, 55, 56, 57, 58, 59, 60, 61, 62, 63, 64, 65, 66, 67, 68, 69, 70, 71, 72, 73, 74, 75, 76] rfl) (hD.sub [77, 0, 1, 2, 3, 4, 5, 6, 7, 8, 9, 10, 11, 12, 13, 14, 15, 16, 17, 18, 19, 20, 21, 22, 23, 24, 25, 26, 27, 28, 29, 30, 31, 32, 33, 34, 35, 36, 37, 38, 39, 40, 41, 42, 78, 79, 80, 81, 43, 44, 45, 46, 47, 48, 49, 50, 51, 52, 53, 54, 82, 83, 55, 56, 57, 58, 59, 60, 61, 62, 63, 64, 65, 66, 67, 68, 69, 70, 71, 72, 73, 74, 75, 76] (by decide +kernel) rfl) hS (lv_sub hl [0, 1, 2, 3, 4] rfl)
      · skip
        exact absurd ha46.1 ha38
      · skip
        exact absurd ha47.1 ha38
      · skip
        exact absurd ha48.1 ha38
    · skip
      refine lv_pop hx hb dL_law_1559 rfl ?_
      refine lv_aload_n hx hb dL_law_1560 rfl (lv_at hl 2 rfl) ?_
      refine lv_aload_n hx hb dL_law_1561 rfl (lv_at hl 4 rfl) ?_
      refine lv_iload hx hb dL_law_1562 (lv_at hl 0 rfl) ?_
      refine lv_iconst (v := 1) hx hb dL_law_1564 (by decide) ?_
      refine lv_iadd hx hb dL_law_1565 ?_
      refine k_topi (nI_add j 1) ?_
      refine va_sld hx hb hX hbl hbA hS (vp_in_nI (n := j + 1) (by omega) (by omega)) dL_law_1566 ?_
      rw [hsx1]
      refine lv_aload_n hx hb dL_law_1567 rfl (lv_at hl 4 rfl) ?_
      refine lv_iload hx hb dL_law_1568 (lv_at hl 0 rfl) ?_
      refine lv_iconst (v := 2) hx hb dL_law_1570 (by decide) ?_
      refine lv_iadd hx hb dL_law_1571 ?_
      refine k_topi (nI_add j 2) ?_
      refine va_sld hx hb hX hbl hbA hS (vp_in_nI (n := j + 2) (by omega) (by omega)) dL_law_1572 ?_
      rw [hsx2]
      refine lv_aload_n hx hb dL_law_1573 rfl (lv_at hl 4 rfl) ?_
      refine lv_iload hx hb dL_law_1574 (lv_at hl 0 rfl) ?_
      refine lv_iconst (v := 3) hx hb dL_law_1576 (by decide) ?_
      refine lv_iadd hx hb dL_law_1577 ?_
      refine k_topi (nI_add j 3) ?_
      refine va_sld hx hb hX hbl hbA hS (vp_in_nI (n := j + 3) (by omega) (by omega)) dL_law_1578 ?_
      rw [hsx3]
      refine lv_if_eq (tgt := 1586) hx hb dL_law_1579 (by decide) (fun c49 => absurd c49 c1) (fun _ => ?_)
      refine lv_iconst (v := 1) hx hb dL_law_1582 (by decide) ?_
      refine lv_goto (tgt := 1587) hx hb dL_law_1583 (by decide) ?_
      refine k_i (va_runV (As := [.int a1, .int a2, .int 1]) (rest := []) ⟨hx, hb, hml, hown, hts⟩ (m_X8_filed l D cI cJ H.size g g2 g3 g4 g5 g6 g7 g8 g9 g10 g12 g13 g15 g16 g17 g19 g20 g21 g22 g23 g24 g25 g26 g27 g28 g33 g34 g35 g36 g37 g38 g39 g41 g42 g44 g45 np nl mv gi0 bi14 gi18 gi29 gi30 (nI tt) gi40 gi43 a1 a2 1 G16 DR1) (cwV 3 hts hL_law_X8_filed rfl rfl rfl (by decide +kernel) ⟨Nat.le_of_ble_eq_true rfl, Nat.le_of_ble_eq_true rfl⟩) (k_preV hE hP hD [43, 56, 57] (by decide +kernel) rfl 43 rfl rfl) rfl rfl hl.1 rfl (lv_room (Nat.le_of_ble_eq_true rfl)) dL_law_1587 ⟨by omega, by omega⟩) hP hD hS hA [43, 56, 57] [0, 1, 2, 3, 4, 5, 6, 7, 8, 9, 10, 11, 12, 13, 14, 15, 16, 17, 18, 19, 20, 21, 22, 23, 24, 25, 26, 27, 28, 29, 30, 31, 32, 33, 34, 35, 36, 37, 38, 39, 40, 41, 42, 44, 45, 46, 47, 48, 49, 50, 51, 52, 53, 54, 55, 58, 59, 60, 61, 62, 63, 64, 65, 66, 67, 68, 69, 70, 71, 72, 73, 74, 75, 76, 77, 78, 79, 80, 81, 82, 83] rfl (wr := [(aIc cI x5 8 X5), (oX4 x1 x0 s1 s2 (nI pn) si4 s5 s6 s7 s8 s9 s10 s11 si12 si13), (aIc cI s5 8 S5), (aIc cI s6 8 S6), (aIc cI s7 8 S7), (aIc cI s8 8 S8), (aIc cI s9 8 S9), (aIc cI s10 8 S10), (aIc cI s11 8 S11), (oX0 x0 b0 b1 b2 b3 b4 b5 b6 b7 b8 b9 b10 b11 (nI np) (nI nl) bi14), (aIc cI b0 8 B0), (aIc cI b1 8 B1), (aIc cI b2 8 B2), (aIc cI b3 8 B3), (aIc cI b4 8 B4), (aIc cI b5 8 B5), (aIc cI b6 8 B6), (aIc cI b7 8 B7), (aIc cI b8 64 B8), (aIc cI b9 8 B9), (aIc cI b10 10 B10), (aIc cI b11 10 B11), (oX6 s1 w0 w1 w2 w3 w4 (nI wn) wi6 (nI lv) w8), (aIc cI w0 8 W0), (aIc cI w1 8 W1), (aIc cI w2 8 W2), (aIc cI w3 8 W3), (aIc cI w4 8 W4), (aIc cI w8 8 W8), (oX2 s2 d0 d1 d2), (aIc cI d0 8 D0), (aIc cI d1 8 D1), (aJc cJ d2 8 D2), (oX5 x2 y0 y1), (aIc cI y0 8 Y0), (aIc cI y1 8 Y1), (oX1 x3 t0 t1 t2 t3 ti4 (nI pm) t6 ti7 t8), (aIc cI t0 8 T0), (aIc cI t1 9 T1), (aIc cI t2 9 T2), (aIc cI t3 9 T3), (aIc cI t6 8 T6), (aIc cI t8 9 T8), (aIc cI g2 8 B0), (aIc cI g3 8 B1), (aIc cI g4 8 B2), (aIc cI g5 8 B3), (aIc cI g6 8 B4), (aIc cI g7 8 B5), (aIc cI g8 8 B6), (aIc cI g9 8 B7), (aIc cI g10 64 G10), (aIc cI g12 10 B10), (aIc cI g13 10 B11), (aIc cI g15 8 B9), (aIc cI g19 8 G19), (aIc cI g20 8 G20), (aIc cI g21 8 G21), (aIc cI g22 8 G22), (aIc cI g23 8 G23), (aIc cI g24 8 G24), (aIc cI g25 8 G25), (aIc cI g26 8 G26), (aIc cI g27 8 G27), (aIc cI g28 8 G28), (aIc cI g33 8 G33), (aIc cI g34 8 G34), (aIc cI g35 8 G35), (aIc cI g36 8 G36), (aJc cJ g37 8 G37), (aIc cI g38 8 G38), (aIc cI g39 8 G39), (aIc cI g41 9 G41), (aIc cI g42 192 G42), (aIc cI g44 8 G44), (aIc cI g45 8 G45), (aJc cJ o 1 OO), (oX7 x x0 x1 x2 x3 x4 x5), (oX3 x4 dr0 dr1), (aIc cI dr0 32 DR0), (aIc cI dr1 32 DR1)]) rfl (by decide +kernel) (by decide +kernel) (fun r50 u H locs hw51 hP hD hS => ?_)
      rcases hw51 with ⟨ha52, rfl, rfl⟩ | ⟨ha53, rfl, rfl⟩ | ⟨ha54, rfl, rfl⟩ | ⟨ha55, rfl, rfl⟩
      · skip
        exact absurd ha39.1 ha52
      · skip
        refine lv_pop hx hb dL_law_1590 rfl ?_
        refine lv_goto (tgt := 1594) hx hb dL_law_1591 (by decide) ?_
        refine W.widen (k := k9 + 2) (n := n9 + 16) (by omega) (by omega) ?_
        exact kend pn np nl wn lv pm mv tt si4 si12 si13 bi14 wi6 ti4 ti7 0 gi18 gi29 gi30 gi40 gi43 X5 S5 S6 S7 S8 S9 S10 S11 B0 B1 B2 B3 B4 B5 B6 B7 B8 B9 B10 B11 W0 W1 W2 W3 W4 W8 D0 D1 Y0 Y1 T0 T1 T2 T3 T6 T8 DR0 DR1 G10 G16 G19 G20 G21 G22 G23 G24 G25 G26 G27 G28 G33 G34 G35 G36 G38 G39 G41 G42 G44 G45 D2 G37 OO _ _ _ dd hdd ⟨hnp, hnl, hwn, hlv, hpn, hpm, hmv, htt, hli, hor, hBK, hsu, hamt, hLE, hLO, hLW, hSH, hr8, hr16, hto⟩ (k_sub hP [77, 0, 1, 2, 3, 4, 5, 6, 7, 8, 9, 10, 11, 12, 13, 14, 15, 16, 17, 18, 19, 20, 21, 22, 23, 24, 25, 26, 27, 28, 29, 30, 31, 32, 33, 34, 35, 36, 37, 38, 39, 40, 41, 42, 78, 79, 80, 81, 43, 44, 45, 46, 47, 48, 49, 50, 51, 52, 53, 54, 82, 83, 55, 56, 57, 58, 59, 60, 61, 62, 63, 64, 65, 66, 67, 68, 69, 70, 71, 72, 73, 74, 75, 76] rfl) (hD.sub [77, 0, 1, 2, 3, 4, 5, 6, 7, 8, 9, 10, 11, 12, 13, 14, 15, 16, 17, 18, 19, 20, 21, 22, 23, 24, 25, 26, 27, 28, 29, 30, 31, 32, 33, 34, 35, 36, 37, 38, 39, 40, 41, 42, 78, 79, 80, 81, 43, 44, 45, 46, 47, 48, 49, 50, 51, 52, 53, 54, 82, 83, 55, 56, 57, 58, 59, 60, 61, 62, 63, 64, 65, 66, 67, 68, 69, 70, 71, 72, 73, 74, 75, 76] (by decide +kernel) rfl) hS (lv_sub hl [0, 1, 2, 3, 4] rfl)
      · skip
        exact absurd ((fd_iff hr16 ha39.1).mp ha39.2) ha54.2.1
      · skip
        exact absurd ((fd_iff hr16 ha39.1).mp ha39.2) ha55.2.1
    · skip
      refine lv_pop hx hb dL_law_1559 rfl ?_
      refine lv_aload_n hx hb dL_law_1560 rfl (lv_at hl 2 rfl) ?_
      refine lv_aload_n hx hb dL_law_1561 rfl (lv_at hl 4 rfl) ?_
      refine lv_iload hx hb dL_law_1562 (lv_at hl 0 rfl) ?_
      refine lv_iconst (v := 1) hx hb dL_law_1564 (by decide) ?_
      refine lv_iadd hx hb dL_law_1565 ?_
      refine k_topi (nI_add j 1) ?_
      refine va_sld hx hb hX hbl hbA hS (vp_in_nI (n := j + 1) (by omega) (by omega)) dL_law_1566 ?_
      rw [hsx1]
      refine lv_aload_n hx hb dL_law_1567 rfl (lv_at hl 4 rfl) ?_
      refine lv_iload hx hb dL_law_1568 (lv_at hl 0 rfl) ?_
      refine lv_iconst (v := 2) hx hb dL_law_1570 (by decide) ?_
      refine lv_iadd hx hb dL_law_1571 ?_
      refine k_topi (nI_add j 2) ?_
      refine va_sld hx hb hX hbl hbA hS (vp_in_nI (n := j + 2) (by omega) (by omega)) dL_law_1572 ?_
      rw [hsx2]
      refine lv_aload_n hx hb dL_law_1573 rfl (lv_at hl 4 rfl) ?_
      refine lv_iload hx hb dL_law_1574 (lv_at hl 0 rfl) ?_
      refine lv_iconst (v := 3) hx hb dL_law_1576 (by decide) ?_
      refine lv_iadd hx hb dL_law_1577 ?_
      refine k_topi (nI_add j 3) ?_
      refine va_sld hx hb hX hbl hbA hS (vp_in_nI (n := j + 3) (by omega) (by omega)) dL_law_1578 ?_
      rw [hsx3]
      refine lv_if_eq (tgt := 1586) hx hb dL_law_1579 (by decide) (fun c56 => absurd c56 c1) (fun _ => ?_)
      refine lv_iconst (v := 1) hx hb dL_law_1582 (by decide) ?_
      refine lv_goto (tgt := 1587) hx hb dL_law_1583 (by decide) ?_
      refine k_i (va_runV (As := [.int a1, .int a2, .int 1]) (rest := []) ⟨hx, hb, hml, hown, hts⟩ (m_X8_filed l D cI cJ H.size g g2 g3 g4 g5 g6 g7 g8 g9 g10 g12 g13 g15 g16 g17 g19 g20 g21 g22 g23 g24 g25 g26 g27 g28 g33 g34 g35 g36 g37 g38 g39 g41 g42 g44 g45 np nl mv gi0 bi14 gi18 gi29 gi30 (nI tt) gi40 gi43 a1 a2 1 G16 DR1) (cwV 3 hts hL_law_X8_filed rfl rfl rfl (by decide +kernel) ⟨Nat.le_of_ble_eq_true rfl, Nat.le_of_ble_eq_true rfl⟩) (k_preV hE hP hD [43, 56, 57] (by decide +kernel) rfl 43 rfl rfl) rfl rfl hl.1 rfl (lv_room (Nat.le_of_ble_eq_true rfl)) dL_law_1587 ⟨by omega, by omega⟩) hP hD hS hA [43, 56, 57] [0, 1, 2, 3, 4, 5, 6, 7, 8, 9, 10, 11, 12, 13, 14, 15, 16, 17, 18, 19, 20, 21, 22, 23, 24, 25, 26, 27, 28, 29, 30, 31, 32, 33, 34, 35, 36, 37, 38, 39, 40, 41, 42, 44, 45, 46, 47, 48, 49, 50, 51, 52, 53, 54, 55, 58, 59, 60, 61, 62, 63, 64, 65, 66, 67, 68, 69, 70, 71, 72, 73, 74, 75, 76, 77, 78, 79, 80, 81, 82, 83] rfl (wr := [(aIc cI x5 8 X5), (oX4 x1 x0 s1 s2 (nI pn) si4 s5 s6 s7 s8 s9 s10 s11 si12 si13), (aIc cI s5 8 S5), (aIc cI s6 8 S6), (aIc cI s7 8 S7), (aIc cI s8 8 S8), (aIc cI s9 8 S9), (aIc cI s10 8 S10), (aIc cI s11 8 S11), (oX0 x0 b0 b1 b2 b3 b4 b5 b6 b7 b8 b9 b10 b11 (nI np) (nI nl) bi14), (aIc cI b0 8 B0), (aIc cI b1 8 B1), (aIc cI b2 8 B2), (aIc cI b3 8 B3), (aIc cI b4 8 B4), (aIc cI b5 8 B5), (aIc cI b6 8 B6), (aIc cI b7 8 B7), (aIc cI b8 64 B8), (aIc cI b9 8 B9), (aIc cI b10 10 B10), (aIc cI b11 10 B11), (oX6 s1 w0 w1 w2 w3 w4 (nI wn) wi6 (nI lv) w8), (aIc cI w0 8 W0), (aIc cI w1 8 W1), (aIc cI w2 8 W2), (aIc cI w3 8 W3), (aIc cI w4 8 W4), (aIc cI w8 8 W8), (oX2 s2 d0 d1 d2), (aIc cI d0 8 D0), (aIc cI d1 8 D1), (aJc cJ d2 8 D2), (oX5 x2 y0 y1), (aIc cI y0 8 Y0), (aIc cI y1 8 Y1), (oX1 x3 t0 t1 t2 t3 ti4 (nI pm) t6 ti7 t8), (aIc cI t0 8 T0), (aIc cI t1 9 T1), (aIc cI t2 9 T2), (aIc cI t3 9 T3), (aIc cI t6 8 T6), (aIc cI t8 9 T8), (aIc cI g2 8 B0), (aIc cI g3 8 B1), (aIc cI g4 8 B2), (aIc cI g5 8 B3), (aIc cI g6 8 B4), (aIc cI g7 8 B5), (aIc cI g8 8 B6), (aIc cI g9 8 B7), (aIc cI g10 64 G10), (aIc cI g12 10 B10), (aIc cI g13 10 B11), (aIc cI g15 8 B9), (aIc cI g19 8 G19), (aIc cI g20 8 G20), (aIc cI g21 8 G21), (aIc cI g22 8 G22), (aIc cI g23 8 G23), (aIc cI g24 8 G24), (aIc cI g25 8 G25), (aIc cI g26 8 G26), (aIc cI g27 8 G27), (aIc cI g28 8 G28), (aIc cI g33 8 G33), (aIc cI g34 8 G34), (aIc cI g35 8 G35), (aIc cI g36 8 G36), (aJc cJ g37 8 G37), (aIc cI g38 8 G38), (aIc cI g39 8 G39), (aIc cI g41 9 G41), (aIc cI g42 192 G42), (aIc cI g44 8 G44), (aIc cI g45 8 G45), (aJc cJ o 1 OO), (oX7 x x0 x1 x2 x3 x4 x5), (oX3 x4 dr0 dr1), (aIc cI dr0 32 DR0), (aIc cI dr1 32 DR1)]) rfl (by decide +kernel) (by decide +kernel) (fun r57 u H locs hw58 hP hD hS => ?_)
      rcases hw58 with ⟨ha59, rfl, rfl⟩ | ⟨ha60, rfl, rfl⟩ | ⟨ha61, rfl, rfl⟩ | ⟨ha62, rfl, rfl⟩
      · skip
        exact absurd ha40.1 ha59
      · skip
        exact absurd ((fd_iff hr16 ha60.1).mpr ha60.2) ha40.2.1
      · skip
        refine lv_pop hx hb dL_law_1590 rfl ?_
        refine lv_goto (tgt := 1594) hx hb dL_law_1591 (by decide) ?_
        refine W.widen (k := k9 + 2) (n := n9 + 16) (by omega) (by omega) ?_
        exact kend pn np nl wn lv pm mv tt si4 si12 si13 bi14 wi6 ti4 ti7 0 gi18 gi29 gi30 gi40 gi43 X5 S5 S6 S7 S8 S9 S10 S11 B0 B1 B2 B3 B4 B5 B6 B7 B8 B9 B10 B11 W0 W1 W2 W3 W4 W8 D0 D1 Y0 Y1 T0 T1 T2 T3 T6 T8 DR0 DR1 G10 G16 G19 G20 G21 G22 G23 G24 G25 G26 G27 G28 G33 G34 G35 G36 G38 G39 G41 G42 G44 G45 D2 G37 OO _ _ _ dd hdd ⟨hnp, hnl, hwn, hlv, hpn, hpm, hmv, htt, hli, hor, hBK, hsu, hamt, hLE, hLO, hLW, hSH, hr8, hr16, hto⟩ (k_sub hP [77, 0, 1, 2, 3, 4, 5, 6, 7, 8, 9, 10, 11, 12, 13, 14, 15, 16, 17, 18, 19, 20, 21, 22, 23, 24, 25, 26, 27, 28, 29, 30, 31, 32, 33, 34, 35, 36, 37, 38, 39, 40, 41, 42, 78, 79, 80, 81, 43, 44, 45, 46, 47, 48, 49, 50, 51, 52, 53, 54, 82, 83, 55, 56, 57, 58, 59, 60, 61, 62, 63, 64, 65, 66, 67, 68, 69, 70, 71, 72, 73, 74, 75, 76] rfl) (hD.sub [77, 0, 1, 2, 3, 4, 5, 6, 7, 8, 9, 10, 11, 12, 13, 14, 15, 16, 17, 18, 19, 20, 21, 22, 23, 24, 25, 26, 27, 28, 29, 30, 31, 32, 33, 34, 35, 36, 37, 38, 39, 40, 41, 42, 78, 79, 80, 81, 43, 44, 45, 46, 47, 48, 49, 50, 51, 52, 53, 54, 82, 83, 55, 56, 57, 58, 59, 60, 61, 62, 63, 64, 65, 66, 67, 68, 69, 70, 71, 72, 73, 74, 75, 76] (by decide +kernel) rfl) hS (lv_sub hl [0, 1, 2, 3, 4] rfl)
      · skip
        exact absurd ha62.2.2 ha40.2.2
    · skip
      refine lv_pop hx hb dL_law_1559 rfl ?_
      refine lv_aload_n hx hb dL_law_1560 rfl (lv_at hl 2 rfl) ?_
      refine lv_aload_n hx hb dL_law_1561 rfl (lv_at hl 4 rfl) ?_
      refine lv_iload hx hb dL_law_1562 (lv_at hl 0 rfl) ?_
      refine lv_iconst (v := 1) hx hb dL_law_1564 (by decide) ?_
      refine lv_iadd hx hb dL_law_1565 ?_
      refine k_topi (nI_add j 1) ?_
      refine va_sld hx hb hX hbl hbA hS (vp_in_nI (n := j + 1) (by omega) (by omega)) dL_law_1566 ?_
      rw [hsx1]
      refine lv_aload_n hx hb dL_law_1567 rfl (lv_at hl 4 rfl) ?_
      refine lv_iload hx hb dL_law_1568 (lv_at hl 0 rfl) ?_
      refine lv_iconst (v := 2) hx hb dL_law_1570 (by decide) ?_
      refine lv_iadd hx hb dL_law_1571 ?_
      refine k_topi (nI_add j 2) ?_
      refine va_sld hx hb hX hbl hbA hS (vp_in_nI (n := j + 2) (by omega) (by omega)) dL_law_1572 ?_
      rw [hsx2]
      refine lv_aload_n hx hb dL_law_1573 rfl (lv_at hl 4 rfl) ?_
      refine lv_iload hx hb dL_law_1574 (lv_at hl 0 rfl) ?_
      refine lv_iconst (v := 3) hx hb dL_law_1576 (by decide) ?_
      refine lv_iadd hx hb dL_law_1577 ?_
      refine k_topi (nI_add j 3) ?_
      refine va_sld hx hb hX hbl hbA hS (vp_in_nI (n := j + 3) (by omega) (by omega)) dL_law_1578 ?_
      rw [hsx3]
      refine lv_if_eq (tgt := 1586) hx hb dL_law_1579 (by decide) (fun c63 => absurd c63 c1) (fun _ => ?_)
      refine lv_iconst (v := 1) hx hb dL_law_1582 (by decide) ?_
      refine lv_goto (tgt := 1587) hx hb dL_law_1583 (by decide) ?_
      refine k_i (va_runV (As := [.int a1, .int a2, .int 1]) (rest := []) ⟨hx, hb, hml, hown, hts⟩ (m_X8_filed l D cI cJ H.size g g2 g3 g4 g5 g6 g7 g8 g9 g10 g12 g13 g15 g16 g17 g19 g20 g21 g22 g23 g24 g25 g26 g27 g28 g33 g34 g35 g36 g37 g38 g39 g41 g42 g44 g45 np nl mv gi0 bi14 gi18 gi29 gi30 (nI tt) gi40 gi43 a1 a2 1 G16 DR1) (cwV 3 hts hL_law_X8_filed rfl rfl rfl (by decide +kernel) ⟨Nat.le_of_ble_eq_true rfl, Nat.le_of_ble_eq_true rfl⟩) (k_preV hE hP hD [43, 56, 57] (by decide +kernel) rfl 43 rfl rfl) rfl rfl hl.1 rfl (lv_room (Nat.le_of_ble_eq_true rfl)) dL_law_1587 ⟨by omega, by omega⟩) hP hD hS hA [43, 56, 57] [0, 1, 2, 3, 4, 5, 6, 7, 8, 9, 10, 11, 12, 13, 14, 15, 16, 17, 18, 19, 20, 21, 22, 23, 24, 25, 26, 27, 28, 29, 30, 31, 32, 33, 34, 35, 36, 37, 38, 39, 40, 41, 42, 44, 45, 46, 47, 48, 49, 50, 51, 52, 53, 54, 55, 58, 59, 60, 61, 62, 63, 64, 65, 66, 67, 68, 69, 70, 71, 72, 73, 74, 75, 76, 77, 78, 79, 80, 81, 82, 83] rfl (wr := [(aIc cI x5 8 X5), (oX4 x1 x0 s1 s2 (nI pn) si4 s5 s6 s7 s8 s9 s10 s11 si12 si13), (aIc cI s5 8 S5), (aIc cI s6 8 S6), (aIc cI s7 8 S7), (aIc cI s8 8 S8), (aIc cI s9 8 S9), (aIc cI s10 8 S10), (aIc cI s11 8 S11), (oX0 x0 b0 b1 b2 b3 b4 b5 b6 b7 b8 b9 b10 b11 (nI np) (nI nl) bi14), (aIc cI b0 8 B0), (aIc cI b1 8 B1), (aIc cI b2 8 B2), (aIc cI b3 8 B3), (aIc cI b4 8 B4), (aIc cI b5 8 B5), (aIc cI b6 8 B6), (aIc cI b7 8 B7), (aIc cI b8 64 B8), (aIc cI b9 8 B9), (aIc cI b10 10 B10), (aIc cI b11 10 B11), (oX6 s1 w0 w1 w2 w3 w4 (nI wn) wi6 (nI lv) w8), (aIc cI w0 8 W0), (aIc cI w1 8 W1), (aIc cI w2 8 W2), (aIc cI w3 8 W3), (aIc cI w4 8 W4), (aIc cI w8 8 W8), (oX2 s2 d0 d1 d2), (aIc cI d0 8 D0), (aIc cI d1 8 D1), (aJc cJ d2 8 D2), (oX5 x2 y0 y1), (aIc cI y0 8 Y0), (aIc cI y1 8 Y1), (oX1 x3 t0 t1 t2 t3 ti4 (nI pm) t6 ti7 t8), (aIc cI t0 8 T0), (aIc cI t1 9 T1), (aIc cI t2 9 T2), (aIc cI t3 9 T3), (aIc cI t6 8 T6), (aIc cI t8 9 T8), (aIc cI g2 8 B0), (aIc cI g3 8 B1), (aIc cI g4 8 B2), (aIc cI g5 8 B3), (aIc cI g6 8 B4), (aIc cI g7 8 B5), (aIc cI g8 8 B6), (aIc cI g9 8 B7), (aIc cI g10 64 G10), (aIc cI g12 10 B10), (aIc cI g13 10 B11), (aIc cI g15 8 B9), (aIc cI g19 8 G19), (aIc cI g20 8 G20), (aIc cI g21 8 G21), (aIc cI g22 8 G22), (aIc cI g23 8 G23), (aIc cI g24 8 G24), (aIc cI g25 8 G25), (aIc cI g26 8 G26), (aIc cI g27 8 G27), (aIc cI g28 8 G28), (aIc cI g33 8 G33), (aIc cI g34 8 G34), (aIc cI g35 8 G35), (aIc cI g36 8 G36), (aJc cJ g37 8 G37), (aIc cI g38 8 G38), (aIc cI g39 8 G39), (aIc cI g41 9 G41), (aIc cI g42 192 G42), (aIc cI g44 8 G44), (aIc cI g45 8 G45), (aJc cJ o 1 OO), (oX7 x x0 x1 x2 x3 x4 x5), (oX3 x4 dr0 dr1), (aIc cI dr0 32 DR0), (aIc cI dr1 32 DR1)]) rfl (by decide +kernel) (by decide +kernel) (fun r64 u H locs hw65 hP hD hS => ?_)
      rcases hw65 with ⟨ha66, rfl, rfl⟩ | ⟨ha67, rfl, rfl⟩ | ⟨ha68, rfl, rfl⟩ | ⟨ha69, rfl, rfl⟩
      · skip
        exact absurd ha41.1 ha66
      · skip
        exact absurd ((fd_iff hr16 ha67.1).mpr ha67.2) ha41.2.1
      · skip
        exact absurd ha41.2.2 ha68.2.2
      · skip
        refine lv_pop hx hb dL_law_1590 rfl ?_
        refine lv_goto (tgt := 1594) hx hb dL_law_1591 (by decide) ?_
        refine W.widen (k := k9 + 2) (n := n9 + 16) (by omega) (by omega) ?_
        exact kend pn np nl wn lv pm mv tt si4 si12 si13 bi14 wi6 ti4 ti7 0 gi18 gi29 gi30 gi40 gi43 X5 S5 S6 S7 S8 S9 S10 S11 B0 B1 B2 B3 B4 B5 B6 B7 B8 B9 B10 B11 W0 W1 W2 W3 W4 W8 D0 D1 Y0 Y1 T0 T1 T2 T3 T6 T8 DR0 DR1 G10 G16 G19 G20 G21 G22 G23 G24 G25 G26 G27 G28 G33 G34 G35 G36 G38 G39 G41 G42 G44 G45 D2 G37 OO _ _ _ dd hdd ⟨hnp, hnl, hwn, hlv, hpn, hpm, hmv, htt, hli, hor, hBK, hsu, hamt, hLE, hLO, hLW, hSH, hr8, hr16, hto⟩ (k_sub hP [77, 0, 1, 2, 3, 4, 5, 6, 7, 8, 9, 10, 11, 12, 13, 14, 15, 16, 17, 18, 19, 20, 21, 22, 23, 24, 25, 26, 27, 28, 29, 30, 31, 32, 33, 34, 35, 36, 37, 38, 39, 40, 41, 42, 78, 79, 80, 81, 43, 44, 45, 46, 47, 48, 49, 50, 51, 52, 53, 54, 82, 83, 55, 56, 57, 58, 59, 60, 61, 62, 63, 64, 65, 66, 67, 68, 69, 70, 71, 72, 73, 74, 75, 76] rfl) (hD.sub [77, 0, 1, 2, 3, 4, 5, 6, 7, 8, 9, 10, 11, 12, 13, 14, 15, 16, 17, 18, 19, 20, 21, 22, 23, 24, 25, 26, 27, 28, 29, 30, 31, 32, 33, 34, 35, 36, 37, 38, 39, 40, 41, 42, 78, 79, 80, 81, 43, 44, 45, 46, 47, 48, 49, 50, 51, 52, 53, 54, 82, 83, 55, 56, 57, 58, 59, 60, 61, 62, 63, 64, 65, 66, 67, 68, 69, 70, 71, 72, 73, 74, 75, 76] (by decide +kernel) rfl) hS (lv_sub hl [0, 1, 2, 3, 4] rfl)

