set_option maxHeartbeats 4000000 in
set_option maxRecDepth 100000 in
/-- of -/
theorem arm_9 {p : Program} {l : Launch} {e : Env} {s : State} {m : MethodId} {below : List Frame} {meth : Method} {c : Code} {b L tf : Nat} {xs : Nat → Int32} {D : va_G} {cI cJ : ClassId} {Q : State → Prop} (C : LC p l s m c b L tf xs D cI cJ) {j k9 n9 : Nat} (hj : j + 6 ≤ L) (hL : L ≤ 3072) (hk9 : k9 + 2 ≤ room_1.cells) (hn9 : n9 + 16 ≤ room_1.slots) {dd : Drawn} (hdd : s.drawn.sameBut dd lw_cs) {x x0 x1 x2 x3 x4 x5 s1 s2 s5 s6 s7 s8 s9 s10 s11 b0 b1 b2 b3 b4 b5 b6 b7 b8 b9 b10 b11 w0 w1 w2 w3 w4 w8 d0 d1 d2 y0 y1 t0 t1 t2 t3 t6 t8 dr0 dr1 g g2 g3 g4 g5 g6 g7 g8 g9 g10 g12 g13 g15 g16 g17 g19 g20 g21 g22 g23 g24 g25 g26 g27 g28 g33 g34 g35 g36 g37 g38 g39 g41 g42 g44 g45 o : Nat} {pn np nl wn lv pm mv tt : Nat} {si4 si12 si13 bi14 wi6 ti4 ti7 gi0 gi18 gi29 gi30 gi40 gi43 : Int32} {X5 S5 S6 S7 S8 S9 S10 S11 B0 B1 B2 B3 B4 B5 B6 B7 B8 B9 B10 B11 W0 W1 W2 W3 W4 W8 D0 D1 Y0 Y1 T0 T1 T2 T3 T6 T8 DR0 DR1 G10 G16 G19 G20 G21 G22 G23 G24 G25 G26 G27 G28 G33 G34 G35 G36 G38 G39 G41 G42 G44 G45 : Nat → Int32} {D2 G37 OO : Nat → Int64} (hI : LInv pn np nl wn lv pm mv tt B0 B1 B2 B3 B6 B8 B10 B11 T6 DR0 G10 G16 G19 G20 G25 G27) {H : Heap} {locs : List Loc} (hP : va_P D vwCl (LWS cI cJ x x0 x1 x2 x3 x4 x5 s1 s2 s5 s6 s7 s8 s9 s10 s11 b0 b1 b2 b3 b4 b5 b6 b7 b8 b9 b10 b11 w0 w1 w2 w3 w4 w8 d0 d1 d2 y0 y1 t0 t1 t2 t3 t6 t8 dr0 dr1 g g2 g3 g4 g5 g6 g7 g8 g9 g10 g12 g13 g15 g16 g17 g19 g20 g21 g22 g23 g24 g25 g26 g27 g28 g33 g34 g35 g36 g37 g38 g39 g41 g42 g44 g45 o pn np nl wn lv pm mv tt si4 si12 si13 bi14 wi6 ti4 ti7 gi0 gi18 gi29 gi30 gi40 gi43 X5 S5 S6 S7 S8 S9 S10 S11 B0 B1 B2 B3 B4 B5 B6 B7 B8 B9 B10 B11 W0 W1 W2 W3 W4 W8 D0 D1 Y0 Y1 T0 T1 T2 T3 T6 T8 DR0 DR1 G10 G16 G19 G20 G21 G22 G23 G24 G25 G26 G27 G28 G33 G34 G35 G36 G38 G39 G41 G42 G44 G45 D2 G37 OO) H) (hD : va_D (fun q : Nat => s.heap.size ≤ q) (LWS cI cJ x x0 x1 x2 x3 x4 x5 s1 s2 s5 s6 s7 s8 s9 s10 s11 b0 b1 b2 b3 b4 b5 b6 b7 b8 b9 b10 b11 w0 w1 w2 w3 w4 w8 d0 d1 d2 y0 y1 t0 t1 t2 t3 t6 t8 dr0 dr1 g g2 g3 g4 g5 g6 g7 g8 g9 g10 g12 g13 g15 g16 g17 g19 g20 g21 g22 g23 g24 g25 g26 g27 g28 g33 g34 g35 g36 g37 g38 g39 g41 g42 g44 g45 o pn np nl wn lv pm mv tt si4 si12 si13 bi14 wi6 ti4 ti7 gi0 gi18 gi29 gi30 gi40 gi43 X5 S5 S6 S7 S8 S9 S10 S11 B0 B1 B2 B3 B4 B5 B6 B7 B8 B9 B10 B11 W0 W1 W2 W3 W4 W8 D0 D1 Y0 Y1 T0 T1 T2 T3 T6 T8 DR0 DR1 G10 G16 G19 G20 G21 G22 G23 G24 G25 G26 G27 G28 G33 G34 G35 G36 G38 G39 G41 G42 G44 G45 D2 G37 OO)) (hS : va_S (fun q : Nat => s.heap.size ≤ q) s.heap H locs) {ls : Array Slot} (hl : lv_has ls 7 [(4, .int (nI j)), (3, .ref o), (2, .ref g), (1, .ref x), (0, .ref b)])
    (kend : ∀ (pn np nl wn lv pm mv tt : Nat) (si4 si12 si13 bi14 wi6 ti4 ti7 gi0 gi18 gi29 gi30 gi40 gi43 : Int32) (X5 S5 S6 S7 S8 S9 S10 S11 B0 B1 B2 B3 B4 B5 B6 B7 B8 B9 B10 B11 W0 W1 W2 W3 W4 W8 D0 D1 Y0 Y1 T0 T1 T2 T3 T6 T8 DR0 DR1 G10 G16 G19 G20 G21 G22 G23 G24 G25 G26 G27 G28 G33 G34 G35 G36 G38 G39 G41 G42 G44 G45 : Nat → Int32) (D2 G37 OO : Nat → Int64) (H1 : Heap) (locs1 : List Loc) (ls1 : Array Slot) (dw1 : Drawn), s.drawn.sameBut dw1 lw_cs → LInv pn np nl wn lv pm mv tt B0 B1 B2 B3 B6 B8 B10 B11 T6 DR0 G10 G16 G19 G20 G25 G27 → va_P D vwCl (LWS cI cJ x x0 x1 x2 x3 x4 x5 s1 s2 s5 s6 s7 s8 s9 s10 s11 b0 b1 b2 b3 b4 b5 b6 b7 b8 b9 b10 b11 w0 w1 w2 w3 w4 w8 d0 d1 d2 y0 y1 t0 t1 t2 t3 t6 t8 dr0 dr1 g g2 g3 g4 g5 g6 g7 g8 g9 g10 g12 g13 g15 g16 g17 g19 g20 g21 g22 g23 g24 g25 g26 g27 g28 g33 g34 g35 g36 g37 g38 g39 g41 g42 g44 g45 o pn np nl wn lv pm mv tt si4 si12 si13 bi14 wi6 ti4 ti7 gi0 gi18 gi29 gi30 gi40 gi43 X5 S5 S6 S7 S8 S9 S10 S11 B0 B1 B2 B3 B4 B5 B6 B7 B8 B9 B10 B11 W0 W1 W2 W3 W4 W8 D0 D1 Y0 Y1 T0 T1 T2 T3 T6 T8 DR0 DR1 G10 G16 G19 G20 G21 G22 G23 G24 G25 G26 G27 G28 G33 G34 G35 G36 G38 G39 G41 G42 G44 G45 D2 G37 OO) H1 → va_D (fun q : Nat => s.heap.size ≤ q) (LWS cI cJ x x0 x1 x2 x3 x4 x5 s1 s2 s5 s6 s7 s8 s9 s10 s11 b0 b1 b2 b3 b4 b5 b6 b7 b8 b9 b10 b11 w0 w1 w2 w3 w4 w8 d0 d1 d2 y0 y1 t0 t1 t2 t3 t6 t8 dr0 dr1 g g2 g3 g4 g5 g6 g7 g8 g9 g10 g12 g13 g15 g16 g17 g19 g20 g21 g22 g23 g24 g25 g26 g27 g28 g33 g34 g35 g36 g37 g38 g39 g41 g42 g44 g45 o pn np nl wn lv pm mv tt si4 si12 si13 bi14 wi6 ti4 ti7 gi0 gi18 gi29 gi30 gi40 gi43 X5 S5 S6 S7 S8 S9 S10 S11 B0 B1 B2 B3 B4 B5 B6 B7 B8 B9 B10 B11 W0 W1 W2 W3 W4 W8 D0 D1 Y0 Y1 T0 T1 T2 T3 T6 T8 DR0 DR1 G10 G16 G19 G20 G21 G22 G23 G24 G25 G26 G27 G28 G33 G34 G35 G36 G38 G39 G41 G42 G44 G45 D2 G37 OO) → va_S (fun q : Nat => s.heap.size ≤ q) s.heap H1 locs1 → lv_has ls1 7 [(4, .int (nI j)), (3, .ref o), (2, .ref g), (1, .ref x), (0, .ref b)] → W p l e room_1 (s.setDrawn dw1) m #[Value.ref b] below meth c H1 locs1 (k9 + 2) (n9 + 16) Q (F0 m 1593 ls1 [])) : W p l e room_1 (s.setDrawn dd) m #[Value.ref b] below meth c H locs k9 n9 Q (F0 m 541 ls []) := by
  obtain ⟨hx, hb, hml, hown, htsB, hE, hX, hbl, hXw, hZ, hl9⟩ := C
  have hXw0 := hXw
  have hA : ∀ q : Nat, s.heap.size ≤ q → (fun q : Nat => s.heap.size ≤ q) q := fun _ h => h
  have hbA : ¬ (fun q : Nat => s.heap.size ≤ q) b := Nat.not_le.mpr hbl
  obtain ⟨hnp, hnl, hwn, hlv, hpn, hpm, hmv, htt, hli, hor, hBK, hsu, hamt, hLE, hLO, hLW, hSH, hr8, hr16, hto⟩ := hI
  obtain ⟨li0, wo0, de0, ag0, hliv, hlib, hl1, hwov, hwob, hdev, hdeb, hagv, hagb⟩ := id hBK
  obtain ⟨a1, hsx1⟩ : ∃ y : Int32, xs (Int32.toNatClampNeg (nI (j + 1))) = y := ⟨_, rfl⟩
  obtain ⟨a2, hsx2⟩ : ∃ y : Int32, xs (Int32.toNatClampNeg (nI (j + 2))) = y := ⟨_, rfl⟩
  obtain ⟨a3, hsx3⟩ : ∃ y : Int32, xs (Int32.toNatClampNeg (nI (j + 3))) = y := ⟨_, rfl⟩
  obtain ⟨a4, hsx4⟩ : ∃ y : Int32, xs (Int32.toNatClampNeg (nI (j + 4))) = y := ⟨_, rfl⟩
  obtain ⟨a5, hsx5⟩ : ∃ y : Int32, xs (Int32.toNatClampNeg (nI (j + 5))) = y := ⟨_, rfl⟩
  have hts := dr_words htsB dd
  have hE : eK D cI cJ (s.setDrawn dd) := hE
  have hown : (s.setDrawn dd).vm.findClass RL = some m.cls := hown
  have hX : va_X b L xs (s.setDrawn dd) s.heap := hX
  have hXw : xw (fun q : Nat => s.heap.size ≤ q) (s.setDrawn dd) s.heap := xw.same (u := s) (U := s.setDrawn dd) rfl hXw0
  have hZ : fz tf (fun q : Nat => s.heap.size ≤ q) (s.setDrawn dd) s.heap := hZ
  refine lv_aload_n hx hb dL_law_541 rfl (lv_at hl 3 rfl) ?_
  refine lv_aload_n hx hb dL_law_542 rfl (lv_at hl 4 rfl) ?_
  refine lv_iload hx hb dL_law_543 (lv_at hl 0 rfl) ?_
  refine lv_iconst (v := 1) hx hb dL_law_545 (by decide) ?_
  refine lv_iadd hx hb dL_law_546 ?_
  refine k_topi (nI_add j 1) ?_
  refine va_sld hx hb hX hbl hbA hS (vp_in_nI (n := j + 1) (by omega) (by omega)) dL_law_547 ?_
  rw [hsx1]
  refine lv_aload_n hx hb dL_law_548 rfl (lv_at hl 4 rfl) ?_
  refine lv_iload hx hb dL_law_549 (lv_at hl 0 rfl) ?_
  refine lv_iconst (v := 2) hx hb dL_law_551 (by decide) ?_
  refine lv_iadd hx hb dL_law_552 ?_
  refine k_topi (nI_add j 2) ?_
  refine va_sld hx hb hX hbl hbA hS (vp_in_nI (n := j + 2) (by omega) (by omega)) dL_law_553 ?_
  rw [hsx2]
  refine lv_aload_n hx hb dL_law_554 rfl (lv_at hl 1 rfl) ?_
  refine k_i (vx_runSW (As := [.ref x, .int a1, .int a2, .ref o]) (rest := []) ⟨hx, hb, hml, hown, hts⟩ (k_L_of l hl9 D cI cJ H.size x x0 x1 x2 x3 x4 x5 s1 s2 s5 s6 s7 s8 s9 s10 s11 b0 b1 b2 b3 b4 b5 b6 b7 b8 b9 b10 b11 w0 w1 w2 w3 w4 w8 d0 d1 d2 o wn lv np nl pn si4 si12 si13 bi14 wi6 a1 a2 B0 B1 B2 B3 B4 B6 B8 B10 B11 S5 S6 S7 S8 S9 S10 S11 W0 W1 W2 W3 W4 W8 D0 D1 D2 B5 B7 OO hwn hlv hli hnp hnl hpn) (vx_cwSW 4 hts hL_law_L_of rfl rfl rfl (by decide +kernel) ⟨Nat.le_of_ble_eq_true rfl, Nat.le_of_ble_eq_true rfl⟩) (k_prex hE hP hD hS hA hXw [0, 2, 10, 23, 30, 11, 12, 13, 14, 15, 17, 19, 21, 22, 3, 4, 5, 6, 7, 8, 9, 24, 25, 26, 27, 28, 29, 31, 32, 33, 16, 18, 83] (by decide +kernel) rfl) rfl rfl hl.1 rfl (lv_room (Nat.le_of_ble_eq_true rfl)) dL_law_555 ⟨by omega, by omega⟩) hP hD hS hA [0, 2, 10, 23, 30, 11, 12, 13, 14, 15, 17, 19, 21, 22, 3, 4, 5, 6, 7, 8, 9, 24, 25, 26, 27, 28, 29, 31, 32, 33, 16, 18, 83] [1, 20, 34, 35, 36, 37, 38, 39, 40, 41, 42, 43, 44, 45, 46, 47, 48, 49, 50, 51, 52, 53, 54, 55, 56, 57, 58, 59, 60, 61, 62, 63, 64, 65, 66, 67, 68, 69, 70, 71, 72, 73, 74, 75, 76, 77, 78, 79, 80, 81, 82] rfl (wr := [(aIc cI x5 8 X5), (aIc cI b9 8 B9), (oX5 x2 y0 y1), (aIc cI y0 8 Y0), (aIc cI y1 8 Y1), (oX1 x3 t0 t1 t2 t3 ti4 (nI pm) t6 ti7 t8), (aIc cI t0 8 T0), (aIc cI t1 9 T1), (aIc cI t2 9 T2), (aIc cI t3 9 T3), (aIc cI t6 8 T6), (aIc cI t8 9 T8), (oX3 x4 dr0 dr1), (aIc cI dr0 32 DR0), (aIc cI dr1 32 DR1), (oX8 g gi0 (nI np) g2 g3 g4 g5 g6 g7 g8 g9 g10 (nI nl) g12 g13 bi14 g15 g16 g17 gi18 g19 g20 g21 g22 g23 g24 g25 g26 g27 g28 gi29 gi30 (nI mv) (nI tt) g33 g34 g35 g36 g37 g38 g39 gi40 g41 g42 gi43 g44 g45), (aIc cI g2 8 B0), (aIc cI g3 8 B1), (aIc cI g4 8 B2), (aIc cI g5 8 B3), (aIc cI g6 8 B4), (aIc cI g7 8 B5), (aIc cI g8 8 B6), (aIc cI g9 8 B7), (aIc cI g10 64 G10), (aIc cI g12 10 B10), (aIc cI g13 10 B11), (aIc cI g15 8 B9), (aIc cI g16 32 G16), (aIc cI g17 32 DR1), (aIc cI g19 8 G19), (aIc cI g20 8 G20), (aIc cI g21 8 G21), (aIc cI g22 8 G22), (aIc cI g23 8 G23), (aIc cI g24 8 G24), (aIc cI g25 8 G25), (aIc cI g26 8 G26), (aIc cI g27 8 G27), (aIc cI g28 8 G28), (aIc cI g33 8 G33), (aIc cI g34 8 G34), (aIc cI g35 8 G35), (aIc cI g36 8 G36), (aJc cJ g37 8 G37), (aIc cI g38 8 G38), (aIc cI g39 8 G39), (aIc cI g41 9 G41), (aIc cI g42 192 G42), (aIc cI g44 8 G44), (aIc cI g45 8 G45)]) rfl (by decide +kernel) (by decide +kernel) (fun r1 u H locs hw2 hP hD hS => ?_)
  refine W.widen (k := k9 + 2) (n := n9 + 16) (by omega) (by omega) ?_
  obtain ⟨z3, z4, z5, z6, z7, z8, z9, z10, z11, z12, z13, z14, z15, z16, z17, z18, z19, z20, z21, z22, z23, z24, z25, z26, hz27, hz28, hz29, rfl⟩ := hw2
  refine lv_istore (lv' := [(5, .int r1), (4, .int (nI j)), (3, .ref o), (2, .ref g), (1, .ref x), (0, .ref b)]) hx hb dL_law_558 hl (by decide) rfl (fun ls hl => ?_)
  refine lv_aload_n hx hb dL_law_560 rfl (lv_at hl 3 rfl) ?_
  refine lv_aload_n hx hb dL_law_561 rfl (lv_at hl 5 rfl) ?_
  refine lv_iload hx hb dL_law_562 (lv_at hl 1 rfl) ?_
  refine lv_iconst (v := 1) hx hb dL_law_564 (by decide) ?_
  refine lv_iadd hx hb dL_law_565 ?_
  refine k_topi (nI_add j 1) ?_
  refine va_sld hx hb hX hbl hbA hS (vp_in_nI (n := j + 1) (by omega) (by omega)) dL_law_566 ?_
  rw [hsx1]
  refine lv_aload_n hx hb dL_law_567 rfl (lv_at hl 5 rfl) ?_
  refine lv_iload hx hb dL_law_568 (lv_at hl 1 rfl) ?_
  refine lv_iconst (v := 2) hx hb dL_law_570 (by decide) ?_
  refine lv_iadd hx hb dL_law_571 ?_
  refine k_topi (nI_add j 2) ?_
  refine va_sld hx hb hX hbl hbA hS (vp_in_nI (n := j + 2) (by omega) (by omega)) dL_law_572 ?_
  rw [hsx2]
  refine k_i (va_runV (As := [.int a1, .int a2]) (rest := []) ⟨hx, hb, hml, hown, hts⟩ (m_X8_of l D cI cJ H.size g g2 g3 g4 g5 g6 g7 g8 g9 g10 g12 g13 g15 g16 g17 g19 g20 g21 g22 g23 g24 g25 g26 g27 g28 g33 g34 g35 g36 g37 g38 g39 g41 g42 g44 g45 np nl mv tt gi0 bi14 gi18 gi29 gi30 gi40 gi43 a1 a2 B0 B1 B2 B3 B4 B5 B6 G10 B10 B11 G19 G20 G21 G22 G23 G24 G25 G26 G27 G28 G33 G34 G35 G36 G37 B7 li0 wo0 de0 ag0 hnp hnl hli hsu hliv hlib hwov hwob hdev hdeb hagv hagb hamt hLE hLO hLW hSH htt hmv) (cwV 2 hts hL_law_X8_of rfl rfl rfl (by decide +kernel) ⟨Nat.le_of_ble_eq_true rfl, Nat.le_of_ble_eq_true rfl⟩) (k_preV hE hP hD [15, 16, 17, 18, 19, 20, 21, 22, 24, 25, 26, 30, 31, 32, 33, 34, 35, 36, 37, 38, 39, 40, 41, 42, 43, 44, 23] (by decide +kernel) rfl 15 rfl rfl) rfl rfl hl.1 rfl (lv_room (Nat.le_of_ble_eq_true rfl)) dL_law_573 ⟨by omega, by omega⟩) hP hD hS hA [15, 16, 17, 18, 19, 20, 21, 22, 24, 25, 26, 30, 31, 32, 33, 34, 35, 36, 37, 38, 39, 40, 41, 42, 43, 44, 23] [0, 1, 2, 3, 4, 5, 6, 7, 8, 9, 10, 11, 12, 13, 14, 27, 28, 29, 45, 46, 47, 48, 49, 50, 51, 52, 53, 54, 55, 56, 57, 58, 59, 60, 61, 62, 63, 64, 65, 66, 67, 68, 69, 70, 71, 72, 73, 74, 75, 76, 77, 78, 79, 80, 81, 82, 83] rfl (wr := [(aIc cI x5 8 X5), (aIc cI b9 8 B9), (oX5 x2 y0 y1), (aIc cI y0 8 Y0), (aIc cI y1 8 Y1), (oX1 x3 t0 t1 t2 t3 ti4 (nI pm) t6 ti7 t8), (aIc cI t0 8 T0), (aIc cI t1 9 T1), (aIc cI t2 9 T2), (aIc cI t3 9 T3), (aIc cI t6 8 T6), (aIc cI t8 9 T8), (oX3 x4 dr0 dr1), (aIc cI dr0 32 DR0), (aIc cI dr1 32 DR1), (aIc cI g15 8 B9), (aIc cI g16 32 G16), (aIc cI g17 32 DR1), (aIc cI g38 8 G38), (aIc cI g39 8 G39), (aIc cI g41 9 G41), (aIc cI g42 192 G42), (aIc cI g44 8 G44), (aIc cI g45 8 G45), (oX7 x x0 x1 x2 x3 x4 x5), (oX4 x1 x0 s1 s2 (nI z25) z23 s5 s6 s7 s8 s9 s10 s11 z18 z19), (oX0 x0 b0 b1 b2 b3 b4 b5 b6 b7 b8 b9 b10 b11 (nI np) (nI nl) bi14), (oX6 s1 w0 w1 w2 w3 w4 (nI z24) z20 (nI z21) w8), (oX2 s2 d0 d1 d2), (aIc cI b0 8 B0), (aIc cI b1 8 B1), (aIc cI b2 8 B2), (aIc cI b3 8 B3), (aIc cI b4 8 B4), (aIc cI b6 8 B6), (aIc cI b8 64 B8), (aIc cI b10 10 B10), (aIc cI b11 10 B11), (aIc cI s5 8 z3), (aIc cI s6 8 z4), (aIc cI s7 8 z5), (aIc cI s8 8 z6), (aIc cI s9 8 z7), (aIc cI s10 8 z8), (aIc cI s11 8 z9), (aIc cI w0 8 z22), (aIc cI w1 8 z10), (aIc cI w2 8 z11), (aIc cI w3 8 z12), (aIc cI w4 8 z13), (aIc cI w8 8 z14), (aIc cI d0 8 z15), (aIc cI d1 8 z16), (aJc cJ d2 8 z17), (aIc cI b5 8 B5), (aIc cI b7 8 B7), (aJc cJ o 1 z26)]) rfl (by decide +kernel) (by decide +kernel) (fun r30 u H locs hw31 hP hD hS => ?_)
  obtain ⟨z32, z33, z34, z35, z36, z37, z38, z39, z40, z41, z42, z43, z44, z45, z46, z47, z48, z49, z50, z51, z52, hz53, hz54, hz55, hz56, hz57, hz58, rfl⟩ := hw31
  refine lv_istore (lv' := [(6, .int r30), (5, .int r1), (4, .int (nI j)), (3, .ref o), (2, .ref g), (1, .ref x), (0, .ref b)]) hx hb dL_law_576 hl (by decide) rfl (fun ls hl => ?_)
  refine lv_goto (tgt := 1593) hx hb dL_law_578 (by decide) ?_
  refine W.widen (k := k9 + 2) (n := n9 + 16) (by omega) (by omega) ?_
  exact kend z25 np nl z24 z21 pm z50 z51 z23 z18 z19 bi14 z20 ti4 ti7 z52 z49 z47 z48 gi40 gi43 X5 z3 z4 z5 z6 z7 z8 z9 B0 B1 B2 B3 B4 B5 B6 B7 B8 B9 B10 B11 z22 z10 z11 z12 z13 z14 z15 z16 Y0 Y1 T0 T1 T2 T3 T6 T8 DR0 DR1 G10 G16 z32 z33 z34 z35 z36 z37 z38 z39 z40 z41 z42 z43 z44 z45 G38 G39 G41 G42 G44 G45 z17 z46 z26 _ _ _ dd hdd ⟨hnp, hnl, hz28, hz27, hz29, hpm, hz58, hz57, hli, hor, hBK, hsu, hamt, hz53, hz54, hz55, hz56, hr8, hr16, hto⟩ (k_sub hP [24, 0, 25, 38, 39, 40, 41, 42, 43, 44, 26, 29, 30, 31, 32, 33, 54, 34, 55, 35, 1, 36, 37, 27, 45, 46, 47, 48, 49, 50, 28, 51, 52, 53, 2, 3, 4, 5, 6, 7, 8, 9, 10, 11, 12, 13, 14, 57, 58, 59, 60, 61, 62, 63, 64, 83, 65, 66, 67, 15, 16, 17, 68, 69, 70, 71, 72, 73, 74, 75, 76, 77, 78, 79, 80, 81, 82, 18, 19, 20, 21, 22, 23, 56] rfl) (hD.sub [24, 0, 25, 38, 39, 40, 41, 42, 43, 44, 26, 29, 30, 31, 32, 33, 54, 34, 55, 35, 1, 36, 37, 27, 45, 46, 47, 48, 49, 50, 28, 51, 52, 53, 2, 3, 4, 5, 6, 7, 8, 9, 10, 11, 12, 13, 14, 57, 58, 59, 60, 61, 62, 63, 64, 83, 65, 66, 67, 15, 16, 17, 68, 69, 70, 71, 72, 73, 74, 75, 76, 77, 78, 79, 80, 81, 82, 18, 19, 20, 21, 22, 23, 56] (by decide +kernel) rfl) hS (lv_sub hl [2, 3, 4, 5, 6] rfl)
set_option maxHeartbeats 4000000 in
set_option maxRecDepth 100000 in
/-- settled -/
theorem arm_10 {p : Program} {l : Launch} {e : Env} {s : State} {m : MethodId} {below : List Frame} {meth : Method} {c : Code} {b L tf : Nat} {xs : Nat → Int32} {D : va_G} {cI cJ : ClassId} {Q : State → Prop} (C : LC p l s m c b L tf xs D cI cJ) {j k9 n9 : Nat} (hj : j + 6 ≤ L) (hL : L ≤ 3072) (hk9 : k9 + 2 ≤ room_1.cells) (hn9 : n9 + 16 ≤ room_1.slots) {dd : Drawn} (hdd : s.drawn.sameBut dd lw_cs) {x x0 x1 x2 x3 x4 x5 s1 s2 s5 s6 s7 s8 s9 s10 s11 b0 b1 b2 b3 b4 b5 b6 b7 b8 b9 b10 b11 w0 w1 w2 w3 w4 w8 d0 d1 d2 y0 y1 t0 t1 t2 t3 t6 t8 dr0 dr1 g g2 g3 g4 g5 g6 g7 g8 g9 g10 g12 g13 g15 g16 g17 g19 g20 g21 g22 g23 g24 g25 g26 g27 g28 g33 g34 g35 g36 g37 g38 g39 g41 g42 g44 g45 o : Nat} {pn np nl wn lv pm mv tt : Nat} {si4 si12 si13 bi14 wi6 ti4 ti7 gi0 gi18 gi29 gi30 gi40 gi43 : Int32} {X5 S5 S6 S7 S8 S9 S10 S11 B0 B1 B2 B3 B4 B5 B6 B7 B8 B9 B10 B11 W0 W1 W2 W3 W4 W8 D0 D1 Y0 Y1 T0 T1 T2 T3 T6 T8 DR0 DR1 G10 G16 G19 G20 G21 G22 G23 G24 G25 G26 G27 G28 G33 G34 G35 G36 G38 G39 G41 G42 G44 G45 : Nat → Int32} {D2 G37 OO : Nat → Int64} (hI : LInv pn np nl wn lv pm mv tt B0 B1 B2 B3 B6 B8 B10 B11 T6 DR0 G10 G16 G19 G20 G25 G27) {H : Heap} {locs : List Loc} (hP : va_P D vwCl (LWS cI cJ x x0 x1 x2 x3 x4 x5 s1 s2 s5 s6 s7 s8 s9 s10 s11 b0 b1 b2 b3 b4 b5 b6 b7 b8 b9 b10 b11 w0 w1 w2 w3 w4 w8 d0 d1 d2 y0 y1 t0 t1 t2 t3 t6 t8 dr0 dr1 g g2 g3 g4 g5 g6 g7 g8 g9 g10 g12 g13 g15 g16 g17 g19 g20 g21 g22 g23 g24 g25 g26 g27 g28 g33 g34 g35 g36 g37 g38 g39 g41 g42 g44 g45 o pn np nl wn lv pm mv tt si4 si12 si13 bi14 wi6 ti4 ti7 gi0 gi18 gi29 gi30 gi40 gi43 X5 S5 S6 S7 S8 S9 S10 S11 B0 B1 B2 B3 B4 B5 B6 B7 B8 B9 B10 B11 W0 W1 W2 W3 W4 W8 D0 D1 Y0 Y1 T0 T1 T2 T3 T6 T8 DR0 DR1 G10 G16 G19 G20 G21 G22 G23 G24 G25 G26 G27 G28 G33 G34 G35 G36 G38 G39 G41 G42 G44 G45 D2 G37 OO) H) (hD : va_D (fun q : Nat => s.heap.size ≤ q) (LWS cI cJ x x0 x1 x2 x3 x4 x5 s1 s2 s5 s6 s7 s8 s9 s10 s11 b0 b1 b2 b3 b4 b5 b6 b7 b8 b9 b10 b11 w0 w1 w2 w3 w4 w8 d0 d1 d2 y0 y1 t0 t1 t2 t3 t6 t8 dr0 dr1 g g2 g3 g4 g5 g6 g7 g8 g9 g10 g12 g13 g15 g16 g17 g19 g20 g21 g22 g23 g24 g25 g26 g27 g28 g33 g34 g35 g36 g37 g38 g39 g41 g42 g44 g45 o pn np nl wn lv pm mv tt si4 si12 si13 bi14 wi6 ti4 ti7 gi0 gi18 gi29 gi30 gi40 gi43 X5 S5 S6 S7 S8 S9 S10 S11 B0 B1 B2 B3 B4 B5 B6 B7 B8 B9 B10 B11 W0 W1 W2 W3 W4 W8 D0 D1 Y0 Y1 T0 T1 T2 T3 T6 T8 DR0 DR1 G10 G16 G19 G20 G21 G22 G23 G24 G25 G26 G27 G28 G33 G34 G35 G36 G38 G39 G41 G42 G44 G45 D2 G37 OO)) (hS : va_S (fun q : Nat => s.heap.size ≤ q) s.heap H locs) {ls : Array Slot} (hl : lv_has ls 7 [(4, .int (nI j)), (3, .ref o), (2, .ref g), (1, .ref x), (0, .ref b)])
    (kend : ∀ (pn np nl wn lv pm mv tt : Nat) (si4 si12 si13 bi14 wi6 ti4 ti7 gi0 gi18 gi29 gi30 gi40 gi43 : Int32) (X5 S5 S6 S7 S8 S9 S10 S11 B0 B1 B2 B3 B4 B5 B6 B7 B8 B9 B10 B11 W0 W1 W2 W3 W4 W8 D0 D1 Y0 Y1 T0 T1 T2 T3 T6 T8 DR0 DR1 G10 G16 G19 G20 G21 G22 G23 G24 G25 G26 G27 G28 G33 G34 G35 G36 G38 G39 G41 G42 G44 G45 : Nat → Int32) (D2 G37 OO : Nat → Int64) (H1 : Heap) (locs1 : List Loc) (ls1 : Array Slot) (dw1 : Drawn), s.drawn.sameBut dw1 lw_cs → LInv pn np nl wn lv pm mv tt B0 B1 B2 B3 B6 B8 B10 B11 T6 DR0 G10 G16 G19 G20 G25 G27 → va_P D vwCl (LWS cI cJ x x0 x1 x2 x3 x4 x5 s1 s2 s5 s6 s7 s8 s9 s10 s11 b0 b1 b2 b3 b4 b5 b6 b7 b8 b9 b10 b11 w0 w1 w2 w3 w4 w8 d0 d1 d2 y0 y1 t0 t1 t2 t3 t6 t8 dr0 dr1 g g2 g3 g4 g5 g6 g7 g8 g9 g10 g12 g13 g15 g16 g17 g19 g20 g21 g22 g23 g24 g25 g26 g27 g28 g33 g34 g35 g36 g37 g38 g39 g41 g42 g44 g45 o pn np nl wn lv pm mv tt si4 si12 si13 bi14 wi6 ti4 ti7 gi0 gi18 gi29 gi30 gi40 gi43 X5 S5 S6 S7 S8 S9 S10 S11 B0 B1 B2 B3 B4 B5 B6 B7 B8 B9 B10 B11 W0 W1 W2 W3 W4 W8 D0 D1 Y0 Y1 T0 T1 T2 T3 T6 T8 DR0 DR1 G10 G16 G19 G20 G21 G22 G23 G24 G25 G26 G27 G28 G33 G34 G35 G36 G38 G39 G41 G42 G44 G45 D2 G37 OO) H1 → va_D (fun q : Nat => s.heap.size ≤ q) (LWS cI cJ x x0 x1 x2 x3 x4 x5 s1 s2 s5 s6 s7 s8 s9 s10 s11 b0 b1 b2 b3 b4 b5 b6 b7 b8 b9 b10 b11 w0 w1 w2 w3 w4 w8 d0 d1 d2 y0 y1 t0 t1 t2 t3 t6 t8 dr0 dr1 g g2 g3 g4 g5 g6 g7 g8 g9 g10 g12 g13 g15 g16 g17 g19 g20 g21 g22 g23 g24 g25 g26 g27 g28 g33 g34 g35 g36 g37 g38 g39 g41 g42 g44 g45 o pn np nl wn lv pm mv tt si4 si12 si13 bi14 wi6 ti4 ti7 gi0 gi18 gi29 gi30 gi40 gi43 X5 S5 S6 S7 S8 S9 S10 S11 B0 B1 B2 B3 B4 B5 B6 B7 B8 B9 B10 B11 W0 W1 W2 W3 W4 W8 D0 D1 Y0 Y1 T0 T1 T2 T3 T6 T8 DR0 DR1 G10 G16 G19 G20 G21 G22 G23 G24 G25 G26 G27 G28 G33 G34 G35 G36 G38 G39 G41 G42 G44 G45 D2 G37 OO) → va_S (fun q : Nat => s.heap.size ≤ q) s.heap H1 locs1 → lv_has ls1 7 [(4, .int (nI j)), (3, .ref o), (2, .ref g), (1, .ref x), (0, .ref b)] → W p l e room_1 (s.setDrawn dw1) m #[Value.ref b] below meth c H1 locs1 (k9 + 2) (n9 + 16) Q (F0 m 1593 ls1 [])) : W p l e room_1 (s.setDrawn dd) m #[Value.ref b] below meth c H locs k9 n9 Q (F0 m 581 ls []) := by
  obtain ⟨hx, hb, hml, hown, htsB, hE, hX, hbl, hXw, hZ, hl9⟩ := C
  have hXw0 := hXw
  have hA : ∀ q : Nat, s.heap.size ≤ q → (fun q : Nat => s.heap.size ≤ q) q := fun _ h => h
  have hbA : ¬ (fun q : Nat => s.heap.size ≤ q) b := Nat.not_le.mpr hbl
  obtain ⟨hnp, hnl, hwn, hlv, hpn, hpm, hmv, htt, hli, hor, hBK, hsu, hamt, hLE, hLO, hLW, hSH, hr8, hr16, hto⟩ := hI
  obtain ⟨li0, wo0, de0, ag0, hliv, hlib, hl1, hwov, hwob, hdev, hdeb, hagv, hagb⟩ := id hBK
  obtain ⟨a1, hsx1⟩ : ∃ y : Int32, xs (Int32.toNatClampNeg (nI (j + 1))) = y := ⟨_, rfl⟩
  obtain ⟨a2, hsx2⟩ : ∃ y : Int32, xs (Int32.toNatClampNeg (nI (j + 2))) = y := ⟨_, rfl⟩
  obtain ⟨a3, hsx3⟩ : ∃ y : Int32, xs (Int32.toNatClampNeg (nI (j + 3))) = y := ⟨_, rfl⟩
  obtain ⟨a4, hsx4⟩ : ∃ y : Int32, xs (Int32.toNatClampNeg (nI (j + 4))) = y := ⟨_, rfl⟩
  obtain ⟨a5, hsx5⟩ : ∃ y : Int32, xs (Int32.toNatClampNeg (nI (j + 5))) = y := ⟨_, rfl⟩
  have hts := dr_words htsB dd
  have hE : eK D cI cJ (s.setDrawn dd) := hE
  have hown : (s.setDrawn dd).vm.findClass RL = some m.cls := hown
  have hX : va_X b L xs (s.setDrawn dd) s.heap := hX
  have hXw : xw (fun q : Nat => s.heap.size ≤ q) (s.setDrawn dd) s.heap := xw.same (u := s) (U := s.setDrawn dd) rfl hXw0
  have hZ : fz tf (fun q : Nat => s.heap.size ≤ q) (s.setDrawn dd) s.heap := hZ
  refine lv_aload_n hx hb dL_law_581 rfl (lv_at hl 3 rfl) ?_
  refine lv_aload_n hx hb dL_law_582 rfl (lv_at hl 4 rfl) ?_
  refine lv_iload hx hb dL_law_583 (lv_at hl 0 rfl) ?_
  refine lv_iconst (v := 1) hx hb dL_law_585 (by decide) ?_
  refine lv_iadd hx hb dL_law_586 ?_
  refine k_topi (nI_add j 1) ?_
  refine va_sld hx hb hX hbl hbA hS (vp_in_nI (n := j + 1) (by omega) (by omega)) dL_law_587 ?_
  rw [hsx1]
  refine lv_aload_n hx hb dL_law_588 rfl (lv_at hl 4 rfl) ?_
  refine lv_iload hx hb dL_law_589 (lv_at hl 0 rfl) ?_
  refine lv_iconst (v := 2) hx hb dL_law_591 (by decide) ?_
  refine lv_iadd hx hb dL_law_592 ?_
  refine k_topi (nI_add j 2) ?_
  refine va_sld hx hb hX hbl hbA hS (vp_in_nI (n := j + 2) (by omega) (by omega)) dL_law_593 ?_
  rw [hsx2]
  refine k_i (va_runV (As := [.int a1, .int a2]) (rest := []) ⟨hx, hb, hml, hown, hts⟩ (m_X7_settled l D cI cJ H.size x x0 x1 x2 x3 x4 x5 s1 s2 s5 s6 s7 s8 s9 s10 s11 b0 b1 b2 b3 b4 b5 b6 b7 b8 b9 b10 b11 w0 w1 w2 w3 w4 w8 d0 d1 d2 wn lv np nl pn si4 si12 si13 bi14 wi6 a1 a2 B0 B1 B2 B3 B4 B6 B8 B10 B11 S5 S6 S7 S8 S9 S10 S11 W0 W1 W2 W3 W4 W8 D0 D1 D2 B5 hwn hlv hli hnp hnl hpn) (cwV 2 hts hL_law_X7_settled rfl rfl rfl (by decide +kernel) ⟨Nat.le_of_ble_eq_true rfl, Nat.le_of_ble_eq_true rfl⟩) (k_preV hE hP hD [0, 2, 10, 23, 30, 11, 12, 13, 14, 15, 17, 19, 21, 22, 3, 4, 5, 6, 7, 8, 9, 24, 25, 26, 27, 28, 29, 31, 32, 33, 16] (by decide +kernel) rfl 0 rfl rfl) rfl rfl hl.1 rfl (lv_room (Nat.le_of_ble_eq_true rfl)) dL_law_594 ⟨by omega, by omega⟩) hP hD hS hA [0, 2, 10, 23, 30, 11, 12, 13, 14, 15, 17, 19, 21, 22, 3, 4, 5, 6, 7, 8, 9, 24, 25, 26, 27, 28, 29, 31, 32, 33, 16] [1, 18, 20, 34, 35, 36, 37, 38, 39, 40, 41, 42, 43, 44, 45, 46, 47, 48, 49, 50, 51, 52, 53, 54, 55, 56, 57, 58, 59, 60, 61, 62, 63, 64, 65, 66, 67, 68, 69, 70, 71, 72, 73, 74, 75, 76, 77, 78, 79, 80, 81, 82, 83] rfl (wr := [(aIc cI x5 8 X5), (aIc cI b7 8 B7), (aIc cI b9 8 B9), (oX5 x2 y0 y1), (aIc cI y0 8 Y0), (aIc cI y1 8 Y1), (oX1 x3 t0 t1 t2 t3 ti4 (nI pm) t6 ti7 t8), (aIc cI t0 8 T0), (aIc cI t1 9 T1), (aIc cI t2 9 T2), (aIc cI t3 9 T3), (aIc cI t6 8 T6), (aIc cI t8 9 T8), (oX3 x4 dr0 dr1), (aIc cI dr0 32 DR0), (aIc cI dr1 32 DR1), (oX8 g gi0 (nI np) g2 g3 g4 g5 g6 g7 g8 g9 g10 (nI nl) g12 g13 bi14 g15 g16 g17 gi18 g19 g20 g21 g22 g23 g24 g25 g26 g27 g28 gi29 gi30 (nI mv) (nI tt) g33 g34 g35 g36 g37 g38 g39 gi40 g41 g42 gi43 g44 g45), (aIc cI g2 8 B0), (aIc cI g3 8 B1), (aIc cI g4 8 B2), (aIc cI g5 8 B3), (aIc cI g6 8 B4), (aIc cI g7 8 B5), (aIc cI g8 8 B6), (aIc cI g9 8 B7), (aIc cI g10 64 G10), (aIc cI g12 10 B10), (aIc cI g13 10 B11), (aIc cI g15 8 B9), (aIc cI g16 32 G16), (aIc cI g17 32 DR1), (aIc cI g19 8 G19), (aIc cI g20 8 G20), (aIc cI g21 8 G21), (aIc cI g22 8 G22), (aIc cI g23 8 G23), (aIc cI g24 8 G24), (aIc cI g25 8 G25), (aIc cI g26 8 G26), (aIc cI g27 8 G27), (aIc cI g28 8 G28), (aIc cI g33 8 G33), (aIc cI g34 8 G34), (aIc cI g35 8 G35), (aIc cI g36 8 G36), (aJc cJ g37 8 G37), (aIc cI g38 8 G38), (aIc cI g39 8 G39), (aIc cI g41 9 G41), (aIc cI g42 192 G42), (aIc cI g44 8 G44), (aIc cI g45 8 G45), (aJc cJ o 1 OO)]) rfl (by decide +kernel) (by decide +kernel) (fun r1 u H locs hw2 hP hD hS => ?_)
  obtain ⟨z3, z4, z5, z6, z7, z8, z9, z10, z11, z12, z13, z14, z15, z16, z17, z18, z19, z20, z21, z22, z23, z24, z25, hz26, hz27, hz28, rfl⟩ := hw2
  refine lv_pop hx hb dL_law_597 rfl ?_
  refine lv_aload_n hx hb dL_law_598 rfl (lv_at hl 2 rfl) ?_
  refine lv_aload_n hx hb dL_law_599 rfl (lv_at hl 4 rfl) ?_
  refine lv_iload hx hb dL_law_600 (lv_at hl 0 rfl) ?_
  refine lv_iconst (v := 1) hx hb dL_law_602 (by decide) ?_
  refine lv_iadd hx hb dL_law_603 ?_
  refine k_topi (nI_add j 1) ?_
  refine va_sld hx hb hX hbl hbA hS (vp_in_nI (n := j + 1) (by omega) (by omega)) dL_law_604 ?_
  rw [hsx1]
  refine lv_aload_n hx hb dL_law_605 rfl (lv_at hl 4 rfl) ?_
  refine lv_iload hx hb dL_law_606 (lv_at hl 0 rfl) ?_
  refine lv_iconst (v := 2) hx hb dL_law_608 (by decide) ?_
  refine lv_iadd hx hb dL_law_609 ?_
  refine k_topi (nI_add j 2) ?_
  refine va_sld hx hb hX hbl hbA hS (vp_in_nI (n := j + 2) (by omega) (by omega)) dL_law_610 ?_
  rw [hsx2]
  refine k_i (va_runV (As := [.int a1, .int a2]) (rest := []) ⟨hx, hb, hml, hown, hts⟩ (m_X8_settled l D cI cJ H.size g g2 g3 g4 g5 g6 g7 g8 g9 g10 g12 g13 g15 g16 g17 g19 g20 g21 g22 g23 g24 g25 g26 g27 g28 g33 g34 g35 g36 g37 g38 g39 g41 g42 g44 g45 np nl mv tt gi0 bi14 gi18 gi29 gi30 gi40 gi43 a1 a2 B0 B1 B2 B3 B4 B5 B6 G10 B10 B11 G19 G20 G21 G22 G23 G24 G25 G26 G27 G28 G33 G34 G35 G36 G37 li0 wo0 de0 ag0 hnp hnl hli hsu hliv hlib hwov hwob hdev hdeb hagv hagb hamt hLE hLO hLW hSH htt hmv) (cwV 2 hts hL_law_X8_settled rfl rfl rfl (by decide +kernel) ⟨Nat.le_of_ble_eq_true rfl, Nat.le_of_ble_eq_true rfl⟩) (k_preV hE hP hD [16, 17, 18, 19, 20, 21, 22, 23, 25, 26, 27, 31, 32, 33, 34, 35, 36, 37, 38, 39, 40, 41, 42, 43, 44, 45] (by decide +kernel) rfl 16 rfl rfl) rfl rfl hl.1 rfl (lv_room (Nat.le_of_ble_eq_true rfl)) dL_law_611 ⟨by omega, by omega⟩) hP hD hS hA [16, 17, 18, 19, 20, 21, 22, 23, 25, 26, 27, 31, 32, 33, 34, 35, 36, 37, 38, 39, 40, 41, 42, 43, 44, 45] [0, 1, 2, 3, 4, 5, 6, 7, 8, 9, 10, 11, 12, 13, 14, 15, 24, 28, 29, 30, 46, 47, 48, 49, 50, 51, 52, 53, 54, 55, 56, 57, 58, 59, 60, 61, 62, 63, 64, 65, 66, 67, 68, 69, 70, 71, 72, 73, 74, 75, 76, 77, 78, 79, 80, 81, 82, 83] rfl (wr := [(aIc cI x5 8 X5), (aIc cI b7 8 B7), (aIc cI b9 8 B9), (oX5 x2 y0 y1), (aIc cI y0 8 Y0), (aIc cI y1 8 Y1), (oX1 x3 t0 t1 t2 t3 ti4 (nI pm) t6 ti7 t8), (aIc cI t0 8 T0), (aIc cI t1 9 T1), (aIc cI t2 9 T2), (aIc cI t3 9 T3), (aIc cI t6 8 T6), (aIc cI t8 9 T8), (oX3 x4 dr0 dr1), (aIc cI dr0 32 DR0), (aIc cI dr1 32 DR1), (aIc cI g9 8 B7), (aIc cI g15 8 B9), (aIc cI g16 32 G16), (aIc cI g17 32 DR1), (aIc cI g38 8 G38), (aIc cI g39 8 G39), (aIc cI g41 9 G41), (aIc cI g42 192 G42), (aIc cI g44 8 G44), (aIc cI g45 8 G45), (aJc cJ o 1 OO), (oX7 x x0 x1 x2 x3 x4 x5), (oX4 x1 x0 s1 s2 (nI z25) z23 s5 s6 s7 s8 s9 s10 s11 z18 z19), (oX0 x0 b0 b1 b2 b3 b4 b5 b6 b7 b8 b9 b10 b11 (nI np) (nI nl) bi14), (oX6 s1 w0 w1 w2 w3 w4 (nI z24) z20 (nI z21) w8), (oX2 s2 d0 d1 d2), (aIc cI b0 8 B0), (aIc cI b1 8 B1), (aIc cI b2 8 B2), (aIc cI b3 8 B3), (aIc cI b4 8 B4), (aIc cI b6 8 B6), (aIc cI b8 64 B8), (aIc cI b10 10 B10), (aIc cI b11 10 B11), (aIc cI s5 8 z3), (aIc cI s6 8 z4), (aIc cI s7 8 z5), (aIc cI s8 8 z6), (aIc cI s9 8 z7), (aIc cI s10 8 z8), (aIc cI s11 8 z9), (aIc cI w0 8 z22), (aIc cI w1 8 z10), (aIc cI w2 8 z11), (aIc cI w3 8 z12), (aIc cI w4 8 z13), (aIc cI w8 8 z14), (aIc cI d0 8 z15), (aIc cI d1 8 z16), (aJc cJ d2 8 z17), (aIc cI b5 8 B5)]) rfl (by decide +kernel) (by decide +kernel) (fun r29 u H locs hw30 hP hD hS => ?_)
  obtain ⟨z31, z32, z33, z34, z35, z36, z37, z38, z39, z40, z41, z42, z43, z44, z45, z46, z47, z48, z49, z50, z51, hz52, hz53, hz54, hz55, hz56, hz57, rfl⟩ := hw30
  refine lv_pop hx hb dL_law_614 rfl ?_
  refine lv_goto (tgt := 1593) hx hb dL_law_615 (by decide) ?_
  refine W.widen (k := k9 + 2) (n := n9 + 16) (by omega) (by omega) ?_
  exact kend z25 np nl z24 z21 pm z49 z50 z23 z18 z19 bi14 z20 ti4 ti7 z51 z48 z46 z47 gi40 gi43 X5 z3 z4 z5 z6 z7 z8 z9 B0 B1 B2 B3 B4 B5 B6 B7 B8 B9 B10 B11 z22 z10 z11 z12 z13 z14 z15 z16 Y0 Y1 T0 T1 T2 T3 T6 T8 DR0 DR1 G10 G16 z31 z32 z33 z34 z35 z36 z37 z38 z39 z40 z41 z42 z43 z44 G38 G39 G41 G42 G44 G45 z17 z45 OO _ _ _ dd hdd ⟨hnp, hnl, hz27, hz26, hz28, hpm, hz57, hz56, hli, hor, hBK, hsu, hamt, hz52, hz53, hz54, hz55, hr8, hr16, hto⟩ (k_sub hP [27, 0, 28, 41, 42, 43, 44, 45, 46, 47, 29, 32, 33, 34, 35, 36, 57, 37, 1, 38, 2, 39, 40, 30, 48, 49, 50, 51, 52, 53, 31, 54, 55, 56, 3, 4, 5, 6, 7, 8, 9, 10, 11, 12, 13, 14, 15, 58, 59, 60, 61, 62, 63, 64, 65, 16, 66, 67, 68, 17, 18, 19, 69, 70, 71, 72, 73, 74, 75, 76, 77, 78, 79, 80, 81, 82, 83, 20, 21, 22, 23, 24, 25, 26] rfl) (hD.sub [27, 0, 28, 41, 42, 43, 44, 45, 46, 47, 29, 32, 33, 34, 35, 36, 57, 37, 1, 38, 2, 39, 40, 30, 48, 49, 50, 51, 52, 53, 31, 54, 55, 56, 3, 4, 5, 6, 7, 8, 9, 10, 11, 12, 13, 14, 15, 58, 59, 60, 61, 62, 63, 64, 65, 16, 66, 67, 68, 17, 18, 19, 69, 70, 71, 72, 73, 74, 75, 76, 77, 78, 79, 80, 81, 82, 83, 20, 21, 22, 23, 24, 25, 26] (by decide +kernel) rfl) hS (lv_sub hl [0, 1, 2, 3, 4] rfl)
set_option maxHeartbeats 4000000 in
set_option maxRecDepth 100000 in
/-- share -/
theorem arm_11 {p : Program} {l : Launch} {e : Env} {s : State} {m : MethodId} {below : List Frame} {meth : Method} {c : Code} {b L tf : Nat} {xs : Nat → Int32} {D : va_G} {cI cJ : ClassId} {Q : State → Prop} (C : LC p l s m c b L tf xs D cI cJ) {j k9 n9 : Nat} (hj : j + 6 ≤ L) (hL : L ≤ 3072) (hk9 : k9 + 2 ≤ room_1.cells) (hn9 : n9 + 16 ≤ room_1.slots) {dd : Drawn} (hdd : s.drawn.sameBut dd lw_cs) {x x0 x1 x2 x3 x4 x5 s1 s2 s5 s6 s7 s8 s9 s10 s11 b0 b1 b2 b3 b4 b5 b6 b7 b8 b9 b10 b11 w0 w1 w2 w3 w4 w8 d0 d1 d2 y0 y1 t0 t1 t2 t3 t6 t8 dr0 dr1 g g2 g3 g4 g5 g6 g7 g8 g9 g10 g12 g13 g15 g16 g17 g19 g20 g21 g22 g23 g24 g25 g26 g27 g28 g33 g34 g35 g36 g37 g38 g39 g41 g42 g44 g45 o : Nat} {pn np nl wn lv pm mv tt : Nat} {si4 si12 si13 bi14 wi6 ti4 ti7 gi0 gi18 gi29 gi30 gi40 gi43 : Int32} {X5 S5 S6 S7 S8 S9 S10 S11 B0 B1 B2 B3 B4 B5 B6 B7 B8 B9 B10 B11 W0 W1 W2 W3 W4 W8 D0 D1 Y0 Y1 T0 T1 T2 T3 T6 T8 DR0 DR1 G10 G16 G19 G20 G21 G22 G23 G24 G25 G26 G27 G28 G33 G34 G35 G36 G38 G39 G41 G42 G44 G45 : Nat → Int32} {D2 G37 OO : Nat → Int64} (hI : LInv pn np nl wn lv pm mv tt B0 B1 B2 B3 B6 B8 B10 B11 T6 DR0 G10 G16 G19 G20 G25 G27) {H : Heap} {locs : List Loc} (hP : va_P D vwCl (LWS cI cJ x x0 x1 x2 x3 x4 x5 s1 s2 s5 s6 s7 s8 s9 s10 s11 b0 b1 b2 b3 b4 b5 b6 b7 b8 b9 b10 b11 w0 w1 w2 w3 w4 w8 d0 d1 d2 y0 y1 t0 t1 t2 t3 t6 t8 dr0 dr1 g g2 g3 g4 g5 g6 g7 g8 g9 g10 g12 g13 g15 g16 g17 g19 g20 g21 g22 g23 g24 g25 g26 g27 g28 g33 g34 g35 g36 g37 g38 g39 g41 g42 g44 g45 o pn np nl wn lv pm mv tt si4 si12 si13 bi14 wi6 ti4 ti7 gi0 gi18 gi29 gi30 gi40 gi43 X5 S5 S6 S7 S8 S9 S10 S11 B0 B1 B2 B3 B4 B5 B6 B7 B8 B9 B10 B11 W0 W1 W2 W3 W4 W8 D0 D1 Y0 Y1 T0 T1 T2 T3 T6 T8 DR0 DR1 G10 G16 G19 G20 G21 G22 G23 G24 G25 G26 G27 G28 G33 G34 G35 G36 G38 G39 G41 G42 G44 G45 D2 G37 OO) H) (hD : va_D (fun q : Nat => s.heap.size ≤ q) (LWS cI cJ x x0 x1 x2 x3 x4 x5 s1 s2 s5 s6 s7 s8 s9 s10 s11 b0 b1 b2 b3 b4 b5 b6 b7 b8 b9 b10 b11 w0 w1 w2 w3 w4 w8 d0 d1 d2 y0 y1 t0 t1 t2 t3 t6 t8 dr0 dr1 g g2 g3 g4 g5 g6 g7 g8 g9 g10 g12 g13 g15 g16 g17 g19 g20 g21 g22 g23 g24 g25 g26 g27 g28 g33 g34 g35 g36 g37 g38 g39 g41 g42 g44 g45 o pn np nl wn lv pm mv tt si4 si12 si13 bi14 wi6 ti4 ti7 gi0 gi18 gi29 gi30 gi40 gi43 X5 S5 S6 S7 S8 S9 S10 S11 B0 B1 B2 B3 B4 B5 B6 B7 B8 B9 B10 B11 W0 W1 W2 W3 W4 W8 D0 D1 Y0 Y1 T0 T1 T2 T3 T6 T8 DR0 DR1 G10 G16 G19 G20 G21 G22 G23 G24 G25 G26 G27 G28 G33 G34 G35 G36 G38 G39 G41 G42 G44 G45 D2 G37 OO)) (hS : va_S (fun q : Nat => s.heap.size ≤ q) s.heap H locs) {ls : Array Slot} (hl : lv_has ls 7 [(4, .int (nI j)), (3, .ref o), (2, .ref g), (1, .ref x), (0, .ref b)])
    (kend : ∀ (pn np nl wn lv pm mv tt : Nat) (si4 si12 si13 bi14 wi6 ti4 ti7 gi0 gi18 gi29 gi30 gi40 gi43 : Int32) (X5 S5 S6 S7 S8 S9 S10 S11 B0 B1 B2 B3 B4 B5 B6 B7 B8 B9 B10 B11 W0 W1 W2 W3 W4 W8 D0 D1 Y0 Y1 T0 T1 T2 T3 T6 T8 DR0 DR1 G10 G16 G19 G20 G21 G22 G23 G24 G25 G26 G27 G28 G33 G34 G35 G36 G38 G39 G41 G42 G44 G45 : Nat → Int32) (D2 G37 OO : Nat → Int64) (H1 : Heap) (locs1 : List Loc) (ls1 : Array Slot) (dw1 : Drawn), s.drawn.sameBut dw1 lw_cs → LInv pn np nl wn lv pm mv tt B0 B1 B2 B3 B6 B8 B10 B11 T6 DR0 G10 G16 G19 G20 G25 G27 → va_P D vwCl (LWS cI cJ x x0 x1 x2 x3 x4 x5 s1 s2 s5 s6 s7 s8 s9 s10 s11 b0 b1 b2 b3 b4 b5 b6 b7 b8 b9 b10 b11 w0 w1 w2 w3 w4 w8 d0 d1 d2 y0 y1 t0 t1 t2 t3 t6 t8 dr0 dr1 g g2 g3 g4 g5 g6 g7 g8 g9 g10 g12 g13 g15 g16 g17 g19 g20 g21 g22 g23 g24 g25 g26 g27 g28 g33 g34 g35 g36 g37 g38 g39 g41 g42 g44 g45 o pn np nl wn lv pm mv tt si4 si12 si13 bi14 wi6 ti4 ti7 gi0 gi18 gi29 gi30 gi40 gi43 X5 S5 S6 S7 S8 S9 S10 S11 B0 B1 B2 B3 B4 B5 B6 B7 B8 B9 B10 B11 W0 W1 W2 W3 W4 W8 D0 D1 Y0 Y1 T0 T1 T2 T3 T6 T8 DR0 DR1 G10 G16 G19 G20 G21 G22 G23 G24 G25 G26 G27 G28 G33 G34 G35 G36 G38 G39 G41 G42 G44 G45 D2 G37 OO) H1 → va_D (fun q : Nat => s.heap.size ≤ q) (LWS cI cJ x x0 x1 x2 x3 x4 x5 s1 s2 s5 s6 s7 s8 s9 s10 s11 b0 b1 b2 b3 b4 b5 b6 b7 b8 b9 b10 b11 w0 w1 w2 w3 w4 w8 d0 d1 d2 y0 y1 t0 t1 t2 t3 t6 t8 dr0 dr1 g g2 g3 g4 g5 g6 g7 g8 g9 g10 g12 g13 g15 g16 g17 g19 g20 g21 g22 g23 g24 g25 g26 g27 g28 g33 g34 g35 g36 g37 g38 g39 g41 g42 g44 g45 o pn np nl wn lv pm mv tt si4 si12 si13 bi14 wi6 ti4 ti7 gi0 gi18 gi29 gi30 gi40 gi43 X5 S5 S6 S7 S8 S9 S10 S11 B0 B1 B2 B3 B4 B5 B6 B7 B8 B9 B10 B11 W0 W1 W2 W3 W4 W8 D0 D1 Y0 Y1 T0 T1 T2 T3 T6 T8 DR0 DR1 G10 G16 G19 G20 G21 G22 G23 G24 G25 G26 G27 G28 G33 G34 G35 G36 G38 G39 G41 G42 G44 G45 D2 G37 OO) → va_S (fun q : Nat => s.heap.size ≤ q) s.heap H1 locs1 → lv_has ls1 7 [(4, .int (nI j)), (3, .ref o), (2, .ref g), (1, .ref x), (0, .ref b)] → W p l e room_1 (s.setDrawn dw1) m #[Value.ref b] below meth c H1 locs1 (k9 + 2) (n9 + 16) Q (F0 m 1593 ls1 [])) : W p l e room_1 (s.setDrawn dd) m #[Value.ref b] below meth c H locs k9 n9 Q (F0 m 618 ls []) := by
  obtain ⟨hx, hb, hml, hown, htsB, hE, hX, hbl, hXw, hZ, hl9⟩ := C
  have hXw0 := hXw
  have hA : ∀ q : Nat, s.heap.size ≤ q → (fun q : Nat => s.heap.size ≤ q) q := fun _ h => h
  have hbA : ¬ (fun q : Nat => s.heap.size ≤ q) b := Nat.not_le.mpr hbl
  obtain ⟨hnp, hnl, hwn, hlv, hpn, hpm, hmv, htt, hli, hor, hBK, hsu, hamt, hLE, hLO, hLW, hSH, hr8, hr16, hto⟩ := hI
  obtain ⟨li0, wo0, de0, ag0, hliv, hlib, hl1, hwov, hwob, hdev, hdeb, hagv, hagb⟩ := id hBK
  obtain ⟨a1, hsx1⟩ : ∃ y : Int32, xs (Int32.toNatClampNeg (nI (j + 1))) = y := ⟨_, rfl⟩
  obtain ⟨a2, hsx2⟩ : ∃ y : Int32, xs (Int32.toNatClampNeg (nI (j + 2))) = y := ⟨_, rfl⟩
  obtain ⟨a3, hsx3⟩ : ∃ y : Int32, xs (Int32.toNatClampNeg (nI (j + 3))) = y := ⟨_, rfl⟩
  obtain ⟨a4, hsx4⟩ : ∃ y : Int32, xs (Int32.toNatClampNeg (nI (j + 4))) = y := ⟨_, rfl⟩
  obtain ⟨a5, hsx5⟩ : ∃ y : Int32, xs (Int32.toNatClampNeg (nI (j + 5))) = y := ⟨_, rfl⟩
  have hts := dr_words htsB dd
  have hE : eK D cI cJ (s.setDrawn dd) := hE
  have hown : (s.setDrawn dd).vm.findClass RL = some m.cls := hown
  have hX : va_X b L xs (s.setDrawn dd) s.heap := hX
  have hXw : xw (fun q : Nat => s.heap.size ≤ q) (s.setDrawn dd) s.heap := xw.same (u := s) (U := s.setDrawn dd) rfl hXw0
  have hZ : fz tf (fun q : Nat => s.heap.size ≤ q) (s.setDrawn dd) s.heap := hZ
  refine lv_aload_n hx hb dL_law_618 rfl (lv_at hl 3 rfl) ?_
  refine lv_aload_n hx hb dL_law_619 rfl (lv_at hl 4 rfl) ?_
  refine lv_iload hx hb dL_law_620 (lv_at hl 0 rfl) ?_
  refine lv_iconst (v := 1) hx hb dL_law_622 (by decide) ?_
  refine lv_iadd hx hb dL_law_623 ?_
  refine k_topi (nI_add j 1) ?_
  refine va_sld hx hb hX hbl hbA hS (vp_in_nI (n := j + 1) (by omega) (by omega)) dL_law_624 ?_
  rw [hsx1]
  refine lv_aload_n hx hb dL_law_625 rfl (lv_at hl 4 rfl) ?_
  refine lv_iload hx hb dL_law_626 (lv_at hl 0 rfl) ?_
  refine lv_iconst (v := 2) hx hb dL_law_628 (by decide) ?_
  refine lv_iadd hx hb dL_law_629 ?_
  refine k_topi (nI_add j 2) ?_
  refine va_sld hx hb hX hbl hbA hS (vp_in_nI (n := j + 2) (by omega) (by omega)) dL_law_630 ?_
  rw [hsx2]
  refine lv_aload_n hx hb dL_law_631 rfl (lv_at hl 4 rfl) ?_
  refine lv_iload hx hb dL_law_632 (lv_at hl 0 rfl) ?_
  refine lv_iconst (v := 3) hx hb dL_law_634 (by decide) ?_
  refine lv_iadd hx hb dL_law_635 ?_
  refine k_topi (nI_add j 3) ?_
  refine va_sld hx hb hX hbl hbA hS (vp_in_nI (n := j + 3) (by omega) (by omega)) dL_law_636 ?_
  rw [hsx3]
  refine lv_aload_n hx hb dL_law_637 rfl (lv_at hl 1 rfl) ?_
  refine k_i (vx_runSW (As := [.ref x, .int a1, .int a2, .int a3, .ref o]) (rest := []) ⟨hx, hb, hml, hown, hts⟩ (k_L_share l hl9 D cI cJ H.size x x0 x1 x2 x3 x4 x5 s1 s2 s5 s6 s7 s8 s9 s10 s11 b0 b1 b2 b3 b4 b5 b6 b7 b8 b9 b10 b11 w0 w1 w2 w3 w4 w8 d0 d1 d2 o wn lv np nl pn si4 si12 si13 bi14 wi6 a1 a2 a3 B0 B1 B2 B3 B4 B6 B8 B10 B11 S5 S6 S7 S8 S9 S10 S11 W0 W1 W2 W3 W4 W8 D0 D1 D2 B5 OO hwn hlv hli hnp hnl hpn) (vx_cwSW 5 hts hL_law_L_share rfl rfl rfl (by decide +kernel) ⟨Nat.le_of_ble_eq_true rfl, Nat.le_of_ble_eq_true rfl⟩) (k_prex hE hP hD hS hA hXw [0, 2, 10, 23, 30, 11, 12, 13, 14, 15, 17, 19, 21, 22, 3, 4, 5, 6, 7, 8, 9, 24, 25, 26, 27, 28, 29, 31, 32, 33, 16, 83] (by decide +kernel) rfl) rfl rfl hl.1 rfl (lv_room (Nat.le_of_ble_eq_true rfl)) dL_law_638 ⟨by omega, by omega⟩) hP hD hS hA [0, 2, 10, 23, 30, 11, 12, 13, 14, 15, 17, 19, 21, 22, 3, 4, 5, 6, 7, 8, 9, 24, 25, 26, 27, 28, 29, 31, 32, 33, 16, 83] [1, 18, 20, 34, 35, 36, 37, 38, 39, 40, 41, 42, 43, 44, 45, 46, 47, 48, 49, 50, 51, 52, 53, 54, 55, 56, 57, 58, 59, 60, 61, 62, 63, 64, 65, 66, 67, 68, 69, 70, 71, 72, 73, 74, 75, 76, 77, 78, 79, 80, 81, 82] rfl (wr := [(aIc cI x5 8 X5), (aIc cI b7 8 B7), (aIc cI b9 8 B9), (oX5 x2 y0 y1), (aIc cI y0 8 Y0), (aIc cI y1 8 Y1), (oX1 x3 t0 t1 t2 t3 ti4 (nI pm) t6 ti7 t8), (aIc cI t0 8 T0), (aIc cI t1 9 T1), (aIc cI t2 9 T2), (aIc cI t3 9 T3), (aIc cI t6 8 T6), (aIc cI t8 9 T8), (oX3 x4 dr0 dr1), (aIc cI dr0 32 DR0), (aIc cI dr1 32 DR1), (oX8 g gi0 (nI np) g2 g3 g4 g5 g6 g7 g8 g9 g10 (nI nl) g12 g13 bi14 g15 g16 g17 gi18 g19 g20 g21 g22 g23 g24 g25 g26 g27 g28 gi29 gi30 (nI mv) (nI tt) g33 g34 g35 g36 g37 g38 g39 gi40 g41 g42 gi43 g44 g45), (aIc cI g2 8 B0), (aIc cI g3 8 B1), (aIc cI g4 8 B2), (aIc cI g5 8 B3), (aIc cI g6 8 B4), (aIc cI g7 8 B5), (aIc cI g8 8 B6), (aIc cI g9 8 B7), (aIc cI g10 64 G10), (aIc cI g12 10 B10), (aIc cI g13 10 B11), (aIc cI g15 8 B9), (aIc cI g16 32 G16), (aIc cI g17 32 DR1), (aIc cI g19 8 G19), (aIc cI g20 8 G20), (aIc cI g21 8 G21), (aIc cI g22 8 G22), (aIc cI g23 8 G23), (aIc cI g24 8 G24), (aIc cI g25 8 G25), (aIc cI g26 8 G26), (aIc cI g27 8 G27), (aIc cI g28 8 G28), (aIc cI g33 8 G33), (aIc cI g34 8 G34), (aIc cI g35 8 G35), (aIc cI g36 8 G36), (aJc cJ g37 8 G37), (aIc cI g38 8 G38), (aIc cI g39 8 G39), (aIc cI g41 9 G41), (aIc cI g42 192 G42), (aIc cI g44 8 G44), (aIc cI g45 8 G45)]) rfl (by decide +kernel) (by decide +kernel) (fun r1 u H locs hw2 hP hD hS => ?_)
  refine W.widen (k := k9 + 2) (n := n9 + 16) (by omega) (by omega) ?_
  obtain ⟨z3, z4, z5, z6, z7, z8, z9, z10, z11, z12, z13, z14, z15, z16, z17, z18, z19, z20, z21, z22, z23, z24, z25, z26, hz27, hz28, hz29, rfl⟩ := hw2
  refine lv_istore (lv' := [(5, .int r1), (4, .int (nI j)), (3, .ref o), (2, .ref g), (1, .ref x), (0, .ref b)]) hx hb dL_law_641 hl (by decide) rfl (fun ls hl => ?_)
  refine lv_aload_n hx hb dL_law_643 rfl (lv_at hl 3 rfl) ?_
  refine lv_aload_n hx hb dL_law_644 rfl (lv_at hl 5 rfl) ?_
  refine lv_iload hx hb dL_law_645 (lv_at hl 1 rfl) ?_
  refine lv_iconst (v := 1) hx hb dL_law_647 (by decide) ?_
  refine lv_iadd hx hb dL_law_648 ?_
  refine k_topi (nI_add j 1) ?_
  refine va_sld hx hb hX hbl hbA hS (vp_in_nI (n := j + 1) (by omega) (by omega)) dL_law_649 ?_
  rw [hsx1]
  refine lv_aload_n hx hb dL_law_650 rfl (lv_at hl 5 rfl) ?_
  refine lv_iload hx hb dL_law_651 (lv_at hl 1 rfl) ?_
  refine lv_iconst (v := 2) hx hb dL_law_653 (by decide) ?_
  refine lv_iadd hx hb dL_law_654 ?_
  refine k_topi (nI_add j 2) ?_
  refine va_sld hx hb hX hbl hbA hS (vp_in_nI (n := j + 2) (by omega) (by omega)) dL_law_655 ?_
  rw [hsx2]
  refine lv_aload_n hx hb dL_law_656 rfl (lv_at hl 5 rfl) ?_
  refine lv_iload hx hb dL_law_657 (lv_at hl 1 rfl) ?_
  refine lv_iconst (v := 3) hx hb dL_law_659 (by decide) ?_
  refine lv_iadd hx hb dL_law_660 ?_
  refine k_topi (nI_add j 3) ?_
  refine va_sld hx hb hX hbl hbA hS (vp_in_nI (n := j + 3) (by omega) (by omega)) dL_law_661 ?_
  rw [hsx3]
  refine k_i (va_runV (As := [.int a1, .int a2, .int a3]) (rest := []) ⟨hx, hb, hml, hown, hts⟩ (m_X8_share l D cI cJ H.size g g2 g3 g4 g5 g6 g7 g8 g9 g10 g12 g13 g15 g16 g17 g19 g20 g21 g22 g23 g24 g25 g26 g27 g28 g33 g34 g35 g36 g37 g38 g39 g41 g42 g44 g45 np nl mv tt gi0 bi14 gi18 gi29 gi30 gi40 gi43 a1 a2 a3 B0 B1 B2 B3 B4 B5 B6 G10 B10 B11 G19 G20 G21 G22 G23 G24 G25 G26 G27 G28 G33 G34 G35 G36 G37 li0 wo0 de0 ag0 hnp hnl hli hsu hliv hlib hwov hwob hdev hdeb hagv hagb hamt hLE hLO hLW hSH htt hmv) (cwV 3 hts hL_law_X8_share rfl rfl rfl (by decide +kernel) ⟨Nat.le_of_ble_eq_true rfl, Nat.le_of_ble_eq_true rfl⟩) (k_preV hE hP hD [16, 17, 18, 19, 20, 21, 22, 23, 25, 26, 27, 31, 32, 33, 34, 35, 36, 37, 38, 39, 40, 41, 42, 43, 44, 45] (by decide +kernel) rfl 16 rfl rfl) rfl rfl hl.1 rfl (lv_room (Nat.le_of_ble_eq_true rfl)) dL_law_662 ⟨by omega, by omega⟩) hP hD hS hA [16, 17, 18, 19, 20, 21, 22, 23, 25, 26, 27, 31, 32, 33, 34, 35, 36, 37, 38, 39, 40, 41, 42, 43, 44, 45] [0, 1, 2, 3, 4, 5, 6, 7, 8, 9, 10, 11, 12, 13, 14, 15, 24, 28, 29, 30, 46, 47, 48, 49, 50, 51, 52, 53, 54, 55, 56, 57, 58, 59, 60, 61, 62, 63, 64, 65, 66, 67, 68, 69, 70, 71, 72, 73, 74, 75, 76, 77, 78, 79, 80, 81, 82, 83] rfl (wr := [(aIc cI x5 8 X5), (aIc cI b7 8 B7), (aIc cI b9 8 B9), (oX5 x2 y0 y1), (aIc cI y0 8 Y0), (aIc cI y1 8 Y1), (oX1 x3 t0 t1 t2 t3 ti4 (nI pm) t6 ti7 t8), (aIc cI t0 8 T0), (aIc cI t1 9 T1), (aIc cI t2 9 T2), (aIc cI t3 9 T3), (aIc cI t6 8 T6), (aIc cI t8 9 T8), (oX3 x4 dr0 dr1), (aIc cI dr0 32 DR0), (aIc cI dr1 32 DR1), (aIc cI g9 8 B7), (aIc cI g15 8 B9), (aIc cI g16 32 G16), (aIc cI g17 32 DR1), (aIc cI g38 8 G38), (aIc cI g39 8 G39), (aIc cI g41 9 G41), (aIc cI g42 192 G42), (aIc cI g44 8 G44), (aIc cI g45 8 G45), (oX7 x x0 x1 x2 x3 x4 x5), (oX4 x1 x0 s1 s2 (nI z25) z23 s5 s6 s7 s8 s9 s10 s11 z18 z19), (oX0 x0 b0 b1 b2 b3 b4 b5 b6 b7 b8 b9 b10 b11 (nI np) (nI nl) bi14), (oX6 s1 w0 w1 w2 w3 w4 (nI z24) z20 (nI z21) w8), (oX2 s2 d0 d1 d2), (aIc cI b0 8 B0), (aIc cI b1 8 B1), (aIc cI b2 8 B2), (aIc cI b3 8 B3), (aIc cI b4 8 B4), (aIc cI b6 8 B6), (aIc cI b8 64 B8), (aIc cI b10 10 B10), (aIc cI b11 10 B11), (aIc cI s5 8 z3), (aIc cI s6 8 z4), (aIc cI s7 8 z5), (aIc cI s8 8 z6), (aIc cI s9 8 z7), (aIc cI s10 8 z8), (aIc cI s11 8 z9), (aIc cI w0 8 z22), (aIc cI w1 8 z10), (aIc cI w2 8 z11), (aIc cI w3 8 z12), (aIc cI w4 8 z13), (aIc cI w8 8 z14), (aIc cI d0 8 z15), (aIc cI d1 8 z16), (aJc cJ d2 8 z17), (aIc cI b5 8 B5), (aJc cJ o 1 z26)]) rfl (by decide +kernel) (by decide +kernel) (fun r30 u H locs hw31 hP hD hS => ?_)
  obtain ⟨z32, z33, z34, z35, z36, z37, z38, z39, z40, z41, z42, z43, z44, z45, z46, z47, z48, z49, z50, z51, z52, hz53, hz54, hz55, hz56, hz57, hz58, rfl⟩ := hw31
  refine lv_istore (lv' := [(6, .int r30), (5, .int r1), (4, .int (nI j)), (3, .ref o), (2, .ref g), (1, .ref x), (0, .ref b)]) hx hb dL_law_665 hl (by decide) rfl (fun ls hl => ?_)
  refine lv_goto (tgt := 1593) hx hb dL_law_667 (by decide) ?_
  refine W.widen (k := k9 + 2) (n := n9 + 16) (by omega) (by omega) ?_
  exact kend z25 np nl z24 z21 pm z50 z51 z23 z18 z19 bi14 z20 ti4 ti7 z52 z49 z47 z48 gi40 gi43 X5 z3 z4 z5 z6 z7 z8 z9 B0 B1 B2 B3 B4 B5 B6 B7 B8 B9 B10 B11 z22 z10 z11 z12 z13 z14 z15 z16 Y0 Y1 T0 T1 T2 T3 T6 T8 DR0 DR1 G10 G16 z32 z33 z34 z35 z36 z37 z38 z39 z40 z41 z42 z43 z44 z45 G38 G39 G41 G42 G44 G45 z17 z46 z26 _ _ _ dd hdd ⟨hnp, hnl, hz28, hz27, hz29, hpm, hz58, hz57, hli, hor, hBK, hsu, hamt, hz53, hz54, hz55, hz56, hr8, hr16, hto⟩ (k_sub hP [26, 0, 27, 40, 41, 42, 43, 44, 45, 46, 28, 31, 32, 33, 34, 35, 56, 36, 1, 37, 2, 38, 39, 29, 47, 48, 49, 50, 51, 52, 30, 53, 54, 55, 3, 4, 5, 6, 7, 8, 9, 10, 11, 12, 13, 14, 15, 58, 59, 60, 61, 62, 63, 64, 65, 16, 66, 67, 68, 17, 18, 19, 69, 70, 71, 72, 73, 74, 75, 76, 77, 78, 79, 80, 81, 82, 83, 20, 21, 22, 23, 24, 25, 57] rfl) (hD.sub [26, 0, 27, 40, 41, 42, 43, 44, 45, 46, 28, 31, 32, 33, 34, 35, 56, 36, 1, 37, 2, 38, 39, 29, 47, 48, 49, 50, 51, 52, 30, 53, 54, 55, 3, 4, 5, 6, 7, 8, 9, 10, 11, 12, 13, 14, 15, 58, 59, 60, 61, 62, 63, 64, 65, 16, 66, 67, 68, 17, 18, 19, 69, 70, 71, 72, 73, 74, 75, 76, 77, 78, 79, 80, 81, 82, 83, 20, 21, 22, 23, 24, 25, 57] (by decide +kernel) rfl) hS (lv_sub hl [2, 3, 4, 5, 6] rfl)
set_option maxHeartbeats 4000000 in
set_option maxRecDepth 100000 in
/-- part -/
theorem arm_12 {p : Program} {l : Launch} {e : Env} {s : State} {m : MethodId} {below : List Frame} {meth : Method} {c : Code} {b L tf : Nat} {xs : Nat → Int32} {D : va_G} {cI cJ : ClassId} {Q : State → Prop} (C : LC p l s m c b L tf xs D cI cJ) {j k9 n9 : Nat} (hj : j + 6 ≤ L) (hL : L ≤ 3072) (hk9 : k9 + 2 ≤ room_1.cells) (hn9 : n9 + 16 ≤ room_1.slots) {dd : Drawn} (hdd : s.drawn.sameBut dd lw_cs) {x x0 x1 x2 x3 x4 x5 s1 s2 s5 s6 s7 s8 s9 s10 s11 b0 b1 b2 b3 b4 b5 b6 b7 b8 b9 b10 b11 w0 w1 w2 w3 w4 w8 d0 d1 d2 y0 y1 t0 t1 t2 t3 t6 t8 dr0 dr1 g g2 g3 g4 g5 g6 g7 g8 g9 g10 g12 g13 g15 g16 g17 g19 g20 g21 g22 g23 g24 g25 g26 g27 g28 g33 g34 g35 g36 g37 g38 g39 g41 g42 g44 g45 o : Nat} {pn np nl wn lv pm mv tt : Nat} {si4 si12 si13 bi14 wi6 ti4 ti7 gi0 gi18 gi29 gi30 gi40 gi43 : Int32} {X5 S5 S6 S7 S8 S9 S10 S11 B0 B1 B2 B3 B4 B5 B6 B7 B8 B9 B10 B11 W0 W1 W2 W3 W4 W8 D0 D1 Y0 Y1 T0 T1 T2 T3 T6 T8 DR0 DR1 G10 G16 G19 G20 G21 G22 G23 G24 G25 G26 G27 G28 G33 G34 G35 G36 G38 G39 G41 G42 G44 G45 : Nat → Int32} {D2 G37 OO : Nat → Int64} (hI : LInv pn np nl wn lv pm mv tt B0 B1 B2 B3 B6 B8 B10 B11 T6 DR0 G10 G16 G19 G20 G25 G27) {H : Heap} {locs : List Loc} (hP : va_P D vwCl (LWS cI cJ x x0 x1 x2 x3 x4 x5 s1 s2 s5 s6 s7 s8 s9 s10 s11 b0 b1 b2 b3 b4 b5 b6 b7 b8 b9 b10 b11 w0 w1 w2 w3 w4 w8 d0 d1 d2 y0 y1 t0 t1 t2 t3 t6 t8 dr0 dr1 g g2 g3 g4 g5 g6 g7 g8 g9 g10 g12 g13 g15 g16 g17 g19 g20 g21 g22 g23 g24 g25 g26 g27 g28 g33 g34 g35 g36 g37 g38 g39 g41 g42 g44 g45 o pn np nl wn lv pm mv tt si4 si12 si13 bi14 wi6 ti4 ti7 gi0 gi18 gi29 gi30 gi40 gi43 X5 S5 S6 S7 S8 S9 S10 S11 B0 B1 B2 B3 B4 B5 B6 B7 B8 B9 B10 B11 W0 W1 W2 W3 W4 W8 D0 D1 Y0 Y1 T0 T1 T2 T3 T6 T8 DR0 DR1 G10 G16 G19 G20 G21 G22 G23 G24 G25 G26 G27 G28 G33 G34 G35 G36 G38 G39 G41 G42 G44 G45 D2 G37 OO) H) (hD : va_D (fun q : Nat => s.heap.size ≤ q) (LWS cI cJ x x0 x1 x2 x3 x4 x5 s1 s2 s5 s6 s7 s8 s9 s10 s11 b0 b1 b2 b3 b4 b5 b6 b7 b8 b9 b10 b11 w0 w1 w2 w3 w4 w8 d0 d1 d2 y0 y1 t0 t1 t2 t3 t6 t8 dr0 dr1 g g2 g3 g4 g5 g6 g7 g8 g9 g10 g12 g13 g15 g16 g17 g19 g20 g21 g22 g23 g24 g25 g26 g27 g28 g33 g34 g35 g36 g37 g38 g39 g41 g42 g44 g45 o pn np nl wn lv pm mv tt si4 si12 si13 bi14 wi6 ti4 ti7 gi0 gi18 gi29 gi30 gi40 gi43 X5 S5 S6 S7 S8 S9 S10 S11 B0 B1 B2 B3 B4 B5 B6 B7 B8 B9 B10 B11 W0 W1 W2 W3 W4 W8 D0 D1 Y0 Y1 T0 T1 T2 T3 T6 T8 DR0 DR1 G10 G16 G19 G20 G21 G22 G23 G24 G25 G26 G27 G28 G33 G34 G35 G36 G38 G39 G41 G42 G44 G45 D2 G37 OO)) (hS : va_S (fun q : Nat => s.heap.size ≤ q) s.heap H locs) {ls : Array Slot} (hl : lv_has ls 7 [(4, .int (nI j)), (3, .ref o), (2, .ref g), (1, .ref x), (0, .ref b)])
    (kend : ∀ (pn np nl wn lv pm mv tt : Nat) (si4 si12 si13 bi14 wi6 ti4 ti7 gi0 gi18 gi29 gi30 gi40 gi43 : Int32) (X5 S5 S6 S7 S8 S9 S10 S11 B0 B1 B2 B3 B4 B5 B6 B7 B8 B9 B10 B11 W0 W1 W2 W3 W4 W8 D0 D1 Y0 Y1 T0 T1 T2 T3 T6 T8 DR0 DR1 G10 G16 G19 G20 G21 G22 G23 G24 G25 G26 G27 G28 G33 G34 G35 G36 G38 G39 G41 G42 G44 G45 : Nat → Int32) (D2 G37 OO : Nat → Int64) (H1 : Heap) (locs1 : List Loc) (ls1 : Array Slot) (dw1 : Drawn), s.drawn.sameBut dw1 lw_cs → LInv pn np nl wn lv pm mv tt B0 B1 B2 B3 B6 B8 B10 B11 T6 DR0 G10 G16 G19 G20 G25 G27 → va_P D vwCl (LWS cI cJ x x0 x1 x2 x3 x4 x5 s1 s2 s5 s6 s7 s8 s9 s10 s11 b0 b1 b2 b3 b4 b5 b6 b7 b8 b9 b10 b11 w0 w1 w2 w3 w4 w8 d0 d1 d2 y0 y1 t0 t1 t2 t3 t6 t8 dr0 dr1 g g2 g3 g4 g5 g6 g7 g8 g9 g10 g12 g13 g15 g16 g17 g19 g20 g21 g22 g23 g24 g25 g26 g27 g28 g33 g34 g35 g36 g37 g38 g39 g41 g42 g44 g45 o pn np nl wn lv pm mv tt si4 si12 si13 bi14 wi6 ti4 ti7 gi0 gi18 gi29 gi30 gi40 gi43 X5 S5 S6 S7 S8 S9 S10 S11 B0 B1 B2 B3 B4 B5 B6 B7 B8 B9 B10 B11 W0 W1 W2 W3 W4 W8 D0 D1 Y0 Y1 T0 T1 T2 T3 T6 T8 DR0 DR1 G10 G16 G19 G20 G21 G22 G23 G24 G25 G26 G27 G28 G33 G34 G35 G36 G38 G39 G41 G42 G44 G45 D2 G37 OO) H1 → va_D (fun q : Nat => s.heap.size ≤ q) (LWS cI cJ x x0 x1 x2 x3 x4 x5 s1 s2 s5 s6 s7 s8 s9 s10 s11 b0 b1 b2 b3 b4 b5 b6 b7 b8 b9 b10 b11 w0 w1 w2 w3 w4 w8 d0 d1 d2 y0 y1 t0 t1 t2 t3 t6 t8 dr0 dr1 g g2 g3 g4 g5 g6 g7 g8 g9 g10 g12 g13 g15 g16 g17 g19 g20 g21 g22 g23 g24 g25 g26 g27 g28 g33 g34 g35 g36 g37 g38 g39 g41 g42 g44 g45 o pn np nl wn lv pm mv tt si4 si12 si13 bi14 wi6 ti4 ti7 gi0 gi18 gi29 gi30 gi40 gi43 X5 S5 S6 S7 S8 S9 S10 S11 B0 B1 B2 B3 B4 B5 B6 B7 B8 B9 B10 B11 W0 W1 W2 W3 W4 W8 D0 D1 Y0 Y1 T0 T1 T2 T3 T6 T8 DR0 DR1 G10 G16 G19 G20 G21 G22 G23 G24 G25 G26 G27 G28 G33 G34 G35 G36 G38 G39 G41 G42 G44 G45 D2 G37 OO) → va_S (fun q : Nat => s.heap.size ≤ q) s.heap H1 locs1 → lv_has ls1 7 [(4, .int (nI j)), (3, .ref o), (2, .ref g), (1, .ref x), (0, .ref b)] → W p l e room_1 (s.setDrawn dw1) m #[Value.ref b] below meth c H1 locs1 (k9 + 2) (n9 + 16) Q (F0 m 1593 ls1 [])) : W p l e room_1 (s.setDrawn dd) m #[Value.ref b] below meth c H locs k9 n9 Q (F0 m 670 ls []) := by
  obtain ⟨hx, hb, hml, hown, htsB, hE, hX, hbl, hXw, hZ, hl9⟩ := C
  have hXw0 := hXw
  have hA : ∀ q : Nat, s.heap.size ≤ q → (fun q : Nat => s.heap.size ≤ q) q := fun _ h => h
  have hbA : ¬ (fun q : Nat => s.heap.size ≤ q) b := Nat.not_le.mpr hbl
  obtain ⟨hnp, hnl, hwn, hlv, hpn, hpm, hmv, htt, hli, hor, hBK, hsu, hamt, hLE, hLO, hLW, hSH, hr8, hr16, hto⟩ := hI
  obtain ⟨li0, wo0, de0, ag0, hliv, hlib, hl1, hwov, hwob, hdev, hdeb, hagv, hagb⟩ := id hBK
  obtain ⟨a1, hsx1⟩ : ∃ y : Int32, xs (Int32.toNatClampNeg (nI (j + 1))) = y := ⟨_, rfl⟩
  obtain ⟨a2, hsx2⟩ : ∃ y : Int32, xs (Int32.toNatClampNeg (nI (j + 2))) = y := ⟨_, rfl⟩
  obtain ⟨a3, hsx3⟩ : ∃ y : Int32, xs (Int32.toNatClampNeg (nI (j + 3))) = y := ⟨_, rfl⟩
  obtain ⟨a4, hsx4⟩ : ∃ y : Int32, xs (Int32.toNatClampNeg (nI (j + 4))) = y := ⟨_, rfl⟩
  obtain ⟨a5, hsx5⟩ : ∃ y : Int32, xs (Int32.toNatClampNeg (nI (j + 5))) = y := ⟨_, rfl⟩
  have hts := dr_words htsB dd
  have hE : eK D cI cJ (s.setDrawn dd) := hE
  have hown : (s.setDrawn dd).vm.findClass RL = some m.cls := hown
  have hX : va_X b L xs (s.setDrawn dd) s.heap := hX
  have hXw : xw (fun q : Nat => s.heap.size ≤ q) (s.setDrawn dd) s.heap := xw.same (u := s) (U := s.setDrawn dd) rfl hXw0
  have hZ : fz tf (fun q : Nat => s.heap.size ≤ q) (s.setDrawn dd) s.heap := hZ
  refine lv_aload_n hx hb dL_law_670 rfl (lv_at hl 3 rfl) ?_
  refine lv_aload_n hx hb dL_law_671 rfl (lv_at hl 4 rfl) ?_
  refine lv_iload hx hb dL_law_672 (lv_at hl 0 rfl) ?_
  refine lv_iconst (v := 1) hx hb dL_law_674 (by decide) ?_
  refine lv_iadd hx hb dL_law_675 ?_
  refine k_topi (nI_add j 1) ?_
  refine va_sld hx hb hX hbl hbA hS (vp_in_nI (n := j + 1) (by omega) (by omega)) dL_law_676 ?_
  rw [hsx1]
  refine lv_aload_n hx hb dL_law_677 rfl (lv_at hl 4 rfl) ?_
  refine lv_iload hx hb dL_law_678 (lv_at hl 0 rfl) ?_
  refine lv_iconst (v := 2) hx hb dL_law_680 (by decide) ?_
  refine lv_iadd hx hb dL_law_681 ?_
  refine k_topi (nI_add j 2) ?_
  refine va_sld hx hb hX hbl hbA hS (vp_in_nI (n := j + 2) (by omega) (by omega)) dL_law_682 ?_
  rw [hsx2]
  refine k_iD hdd (va_runV_D (As := [.int a1, .int a2]) (rest := []) ⟨hx, hb, hml, hown, hts⟩ (m_X7_part l D cI cJ H.size x x0 x1 x2 x3 x4 x5 s1 s2 s5 s6 s7 s8 s9 s10 s11 b0 b1 b2 b3 b4 b5 b6 b7 b8 b9 b10 b11 w0 w1 w2 w3 w4 w8 d0 d1 d2 wn lv np nl pn si4 si12 si13 bi14 wi6 a1 a2 B0 B1 B2 B3 B4 B6 B8 B10 B11 S5 S6 S7 S8 S9 S10 S11 W0 W1 W2 W3 W4 W8 D0 D1 D2 B5 hwn hlv hli hnp hnl hpn) (cwV 2 hts hL_law_X7_part rfl rfl rfl (by decide +kernel) ⟨Nat.le_of_ble_eq_true rfl, Nat.le_of_ble_eq_true rfl⟩) (k_preV hE hP hD [0, 2, 10, 23, 30, 11, 12, 13, 14, 15, 17, 19, 21, 22, 3, 4, 5, 6, 7, 8, 9, 24, 25, 26, 27, 28, 29, 31, 32, 33, 16] (by decide +kernel) rfl 0 rfl rfl) rfl rfl hl.1 rfl (lv_room (Nat.le_of_ble_eq_true rfl)) dL_law_683 ⟨by omega, by omega⟩) hP hD hS hA [0, 2, 10, 23, 30, 11, 12, 13, 14, 15, 17, 19, 21, 22, 3, 4, 5, 6, 7, 8, 9, 24, 25, 26, 27, 28, 29, 31, 32, 33, 16] [1, 18, 20, 34, 35, 36, 37, 38, 39, 40, 41, 42, 43, 44, 45, 46, 47, 48, 49, 50, 51, 52, 53, 54, 55, 56, 57, 58, 59, 60, 61, 62, 63, 64, 65, 66, 67, 68, 69, 70, 71, 72, 73, 74, 75, 76, 77, 78, 79, 80, 81, 82, 83] rfl (wr := [(aIc cI x5 8 X5), (aIc cI b7 8 B7), (aIc cI b9 8 B9), (oX5 x2 y0 y1), (aIc cI y0 8 Y0), (aIc cI y1 8 Y1), (oX1 x3 t0 t1 t2 t3 ti4 (nI pm) t6 ti7 t8), (aIc cI t0 8 T0), (aIc cI t1 9 T1), (aIc cI t2 9 T2), (aIc cI t3 9 T3), (aIc cI t6 8 T6), (aIc cI t8 9 T8), (oX3 x4 dr0 dr1), (aIc cI dr0 32 DR0), (aIc cI dr1 32 DR1), (oX8 g gi0 (nI np) g2 g3 g4 g5 g6 g7 g8 g9 g10 (nI nl) g12 g13 bi14 g15 g16 g17 gi18 g19 g20 g21 g22 g23 g24 g25 g26 g27 g28 gi29 gi30 (nI mv) (nI tt) g33 g34 g35 g36 g37 g38 g39 gi40 g41 g42 gi43 g44 g45), (aIc cI g2 8 B0), (aIc cI g3 8 B1), (aIc cI g4 8 B2), (aIc cI g5 8 B3), (aIc cI g6 8 B4), (aIc cI g7 8 B5), (aIc cI g8 8 B6), (aIc cI g9 8 B7), (aIc cI g10 64 G10), (aIc cI g12 10 B10), (aIc cI g13 10 B11), (aIc cI g15 8 B9), (aIc cI g16 32 G16), (aIc cI g17 32 DR1), (aIc cI g19 8 G19), (aIc cI g20 8 G20), (aIc cI g21 8 G21), (aIc cI g22 8 G22), (aIc cI g23 8 G23), (aIc cI g24 8 G24), (aIc cI g25 8 G25), (aIc cI g26 8 G26), (aIc cI g27 8 G27), (aIc cI g28 8 G28), (aIc cI g33 8 G33), (aIc cI g34 8 G34), (aIc cI g35 8 G35), (aIc cI g36 8 G36), (aJc cJ g37 8 G37), (aIc cI g38 8 G38), (aIc cI g39 8 G39), (aIc cI g41 9 G41), (aIc cI g42 192 G42), (aIc cI g44 8 G44), (aIc cI g45 8 G45), (aJc cJ o 1 OO)]) rfl (by decide +kernel) (by decide +kernel) (fun r1 u H locs hw2 hP hD hS dn3 hdn3 => ?_)
  have hts := dr_words htsB dn3
  have hE : eK D cI cJ (s.setDrawn dn3) := hE
  have hown : (s.setDrawn dn3).vm.findClass RL = some m.cls := hown
  have hX : va_X b L xs (s.setDrawn dn3) s.heap := hX
  have hXw : xw (fun q : Nat => s.heap.size ≤ q) (s.setDrawn dn3) s.heap := xw.same (u := s) (U := s.setDrawn dn3) rfl hXw0
  have hZ : fz tf (fun q : Nat => s.heap.size ≤ q) (s.setDrawn dn3) s.heap := hZ
  obtain ⟨z4, z5, z6, z7, z8, z9, z10, z11, z12, z13, z14, z15, z16, z17, z18, z19, z20, z21, z22, z23, z24, z25, z26, hz27, hz28, hz29, rfl⟩ := hw2
  refine lv_pop hx hb dL_law_686 rfl ?_
  refine lv_aload_n hx hb dL_law_687 rfl (lv_at hl 2 rfl) ?_
  refine lv_aload_n hx hb dL_law_688 rfl (lv_at hl 4 rfl) ?_
  refine lv_iload hx hb dL_law_689 (lv_at hl 0 rfl) ?_
  refine lv_iconst (v := 1) hx hb dL_law_691 (by decide) ?_
  refine lv_iadd hx hb dL_law_692 ?_
  refine k_topi (nI_add j 1) ?_
  refine va_sld hx hb hX hbl hbA hS (vp_in_nI (n := j + 1) (by omega) (by omega)) dL_law_693 ?_
  rw [hsx1]
  refine lv_aload_n hx hb dL_law_694 rfl (lv_at hl 4 rfl) ?_
  refine lv_iload hx hb dL_law_695 (lv_at hl 0 rfl) ?_
  refine lv_iconst (v := 2) hx hb dL_law_697 (by decide) ?_
  refine lv_iadd hx hb dL_law_698 ?_
  refine k_topi (nI_add j 2) ?_
  refine va_sld hx hb hX hbl hbA hS (vp_in_nI (n := j + 2) (by omega) (by omega)) dL_law_699 ?_
  rw [hsx2]
  refine k_iD hdn3 (va_runV_D (As := [.int a1, .int a2]) (rest := []) ⟨hx, hb, hml, hown, hts⟩ (m_X8_part l D cI cJ H.size g g2 g3 g4 g5 g6 g7 g8 g9 g10 g12 g13 g15 g16 g17 g19 g20 g21 g22 g23 g24 g25 g26 g27 g28 g33 g34 g35 g36 g37 g38 g39 g41 g42 g44 g45 np nl mv tt gi0 bi14 gi18 gi29 gi30 gi40 gi43 a1 a2 B0 B1 B2 B3 B4 B5 B6 G10 B10 B11 G19 G20 G21 G22 G23 G24 G25 G26 G27 G28 G33 G34 G35 G36 G37 li0 wo0 de0 ag0 hnp hnl hli hsu hliv hlib hwov hwob hdev hdeb hagv hagb hamt hLE hLO hLW hSH htt hmv) (cwV 2 hts hL_law_X8_part rfl rfl rfl (by decide +kernel) ⟨Nat.le_of_ble_eq_true rfl, Nat.le_of_ble_eq_true rfl⟩) (k_preV hE hP hD [16, 17, 18, 19, 20, 21, 22, 23, 25, 26, 27, 31, 32, 33, 34, 35, 36, 37, 38, 39, 40, 41, 42, 43, 44, 45] (by decide +kernel) rfl 16 rfl rfl) rfl rfl hl.1 rfl (lv_room (Nat.le_of_ble_eq_true rfl)) dL_law_700 ⟨by omega, by omega⟩) hP hD hS hA [16, 17, 18, 19, 20, 21, 22, 23, 25, 26, 27, 31, 32, 33, 34, 35, 36, 37, 38, 39, 40, 41, 42, 43, 44, 45] [0, 1, 2, 3, 4, 5, 6, 7, 8, 9, 10, 11, 12, 13, 14, 15, 24, 28, 29, 30, 46, 47, 48, 49, 50, 51, 52, 53, 54, 55, 56, 57, 58, 59, 60, 61, 62, 63, 64, 65, 66, 67, 68, 69, 70, 71, 72, 73, 74, 75, 76, 77, 78, 79, 80, 81, 82, 83] rfl (wr := [(aIc cI x5 8 X5), (aIc cI b7 8 B7), (aIc cI b9 8 B9), (oX5 x2 y0 y1), (aIc cI y0 8 Y0), (aIc cI y1 8 Y1), (oX1 x3 t0 t1 t2 t3 ti4 (nI pm) t6 ti7 t8), (aIc cI t0 8 T0), (aIc cI t1 9 T1), (aIc cI t2 9 T2), (aIc cI t3 9 T3), (aIc cI t6 8 T6), (aIc cI t8 9 T8), (oX3 x4 dr0 dr1), (aIc cI dr0 32 DR0), (aIc cI dr1 32 DR1), (aIc cI g9 8 B7), (aIc cI g15 8 B9), (aIc cI g16 32 G16), (aIc cI g17 32 DR1), (aIc cI g38 8 G38), (aIc cI g39 8 G39), (aIc cI g41 9 G41), (aIc cI g42 192 G42), (aIc cI g44 8 G44), (aIc cI g45 8 G45), (aJc cJ o 1 OO), (oX7 x x0 x1 x2 x3 x4 x5), (oX4 x1 x0 s1 s2 (nI z26) z24 s5 s6 s7 s8 s9 s10 s11 z19 z20), (oX0 x0 b0 b1 b2 b3 b4 b5 b6 b7 b8 b9 b10 b11 (nI np) (nI nl) bi14), (oX6 s1 w0 w1 w2 w3 w4 (nI z25) z21 (nI z22) w8), (oX2 s2 d0 d1 d2), (aIc cI b0 8 B0), (aIc cI b1 8 B1), (aIc cI b2 8 B2), (aIc cI b3 8 B3), (aIc cI b4 8 B4), (aIc cI b6 8 B6), (aIc cI b8 64 B8), (aIc cI b10 10 B10), (aIc cI b11 10 B11), (aIc cI s5 8 z4), (aIc cI s6 8 z5), (aIc cI s7 8 z6), (aIc cI s8 8 z7), (aIc cI s9 8 z8), (aIc cI s10 8 z9), (aIc cI s11 8 z10), (aIc cI w0 8 z23), (aIc cI w1 8 z11), (aIc cI w2 8 z12), (aIc cI w3 8 z13), (aIc cI w4 8 z14), (aIc cI w8 8 z15), (aIc cI d0 8 z16), (aIc cI d1 8 z17), (aJc cJ d2 8 z18), (aIc cI b5 8 B5)]) rfl (by decide +kernel) (by decide +kernel) (fun r30 u H locs hw31 hP hD hS dn32 hdn32 => ?_)
  have hts := dr_words htsB dn32
  have hE : eK D cI cJ (s.setDrawn dn32) := hE
  have hown : (s.setDrawn dn32).vm.findClass RL = some m.cls := hown
  have hX : va_X b L xs (s.setDrawn dn32) s.heap := hX
  have hXw : xw (fun q : Nat => s.heap.size ≤ q) (s.setDrawn dn32) s.heap := xw.same (u := s) (U := s.setDrawn dn32) rfl hXw0
  have hZ : fz tf (fun q : Nat => s.heap.size ≤ q) (s.setDrawn dn32) s.heap := hZ
  obtain ⟨z33, z34, z35, z36, z37, z38, z39, z40, z41, z42, z43, z44, z45, z46, z47, z48, z49, z50, z51, z52, z53, hz54, hz55, hz56, hz57, hz58, hz59, rfl⟩ := hw31
  refine lv_pop hx hb dL_law_703 rfl ?_
  refine lv_goto (tgt := 1593) hx hb dL_law_704 (by decide) ?_
  refine W.widen (k := k9 + 2) (n := n9 + 16) (by omega) (by omega) ?_
  exact kend z26 np nl z25 z22 pm z51 z52 z24 z19 z20 bi14 z21 ti4 ti7 z53 z50 z48 z49 gi40 gi43 X5 z4 z5 z6 z7 z8 z9 z10 B0 B1 B2 B3 B4 B5 B6 B7 B8 B9 B10 B11 z23 z11 z12 z13 z14 z15 z16 z17 Y0 Y1 T0 T1 T2 T3 T6 T8 DR0 DR1 G10 G16 z33 z34 z35 z36 z37 z38 z39 z40 z41 z42 z43 z44 z45 z46 G38 G39 G41 G42 G44 G45 z18 z47 OO _ _ _ dn32 hdn32 ⟨hnp, hnl, hz28, hz27, hz29, hpm, hz59, hz58, hli, hor, hBK, hsu, hamt, hz54, hz55, hz56, hz57, hr8, hr16, hto⟩ (k_sub hP [27, 0, 28, 41, 42, 43, 44, 45, 46, 47, 29, 32, 33, 34, 35, 36, 57, 37, 1, 38, 2, 39, 40, 30, 48, 49, 50, 51, 52, 53, 31, 54, 55, 56, 3, 4, 5, 6, 7, 8, 9, 10, 11, 12, 13, 14, 15, 58, 59, 60, 61, 62, 63, 64, 65, 16, 66, 67, 68, 17, 18, 19, 69, 70, 71, 72, 73, 74, 75, 76, 77, 78, 79, 80, 81, 82, 83, 20, 21, 22, 23, 24, 25, 26] rfl) (hD.sub [27, 0, 28, 41, 42, 43, 44, 45, 46, 47, 29, 32, 33, 34, 35, 36, 57, 37, 1, 38, 2, 39, 40, 30, 48, 49, 50, 51, 52, 53, 31, 54, 55, 56, 3, 4, 5, 6, 7, 8, 9, 10, 11, 12, 13, 14, 15, 58, 59, 60, 61, 62, 63, 64, 65, 16, 66, 67, 68, 17, 18, 19, 69, 70, 71, 72, 73, 74, 75, 76, 77, 78, 79, 80, 81, 82, 83, 20, 21, 22, 23, 24, 25, 26] (by decide +kernel) rfl) hS (lv_sub hl [0, 1, 2, 3, 4] rfl)
set_option maxHeartbeats 4000000 in
set_option maxRecDepth 100000 in
/-- strain -/
theorem arm_13 {p : Program} {l : Launch} {e : Env} {s : State} {m : MethodId} {below : List Frame} {meth : Method} {c : Code} {b L tf : Nat} {xs : Nat → Int32} {D : va_G} {cI cJ : ClassId} {Q : State → Prop} (C : LC p l s m c b L tf xs D cI cJ) {j k9 n9 : Nat} (hj : j + 6 ≤ L) (hL : L ≤ 3072) (hk9 : k9 + 2 ≤ room_1.cells) (hn9 : n9 + 16 ≤ room_1.slots) {dd : Drawn} (hdd : s.drawn.sameBut dd lw_cs) {x x0 x1 x2 x3 x4 x5 s1 s2 s5 s6 s7 s8 s9 s10 s11 b0 b1 b2 b3 b4 b5 b6 b7 b8 b9 b10 b11 w0 w1 w2 w3 w4 w8 d0 d1 d2 y0 y1 t0 t1 t2 t3 t6 t8 dr0 dr1 g g2 g3 g4 g5 g6 g7 g8 g9 g10 g12 g13 g15 g16 g17 g19 g20 g21 g22 g23 g24 g25 g26 g27 g28 g33 g34 g35 g36 g37 g38 g39 g41 g42 g44 g45 o : Nat} {pn np nl wn lv pm mv tt : Nat} {si4 si12 si13 bi14 wi6 ti4 ti7 gi0 gi18 gi29 gi30 gi40 gi43 : Int32} {X5 S5 S6 S7 S8 S9 S10 S11 B0 B1 B2 B3 B4 B5 B6 B7 B8 B9 B10 B11 W0 W1 W2 W3 W4 W8 D0 D1 Y0 Y1 T0 T1 T2 T3 T6 T8 DR0 DR1 G10 G16 G19 G20 G21 G22 G23 G24 G25 G26 G27 G28 G33 G34 G35 G36 G38 G39 G41 G42 G44 G45 : Nat → Int32} {D2 G37 OO : Nat → Int64} (hI : LInv pn np nl wn lv pm mv tt B0 B1 B2 B3 B6 B8 B10 B11 T6 DR0 G10 G16 G19 G20 G25 G27) {H : Heap} {locs : List Loc} (hP : va_P D vwCl (LWS cI cJ x x0 x1 x2 x3 x4 x5 s1 s2 s5 s6 s7 s8 s9 s10 s11 b0 b1 b2 b3 b4 b5 b6 b7 b8 b9 b10 b11 w0 w1 w2 w3 w4 w8 d0 d1 d2 y0 y1 t0 t1 t2 t3 t6 t8 dr0 dr1 g g2 g3 g4 g5 g6 g7 g8 g9 g10 g12 g13 g15 g16 g17 g19 g20 g21 g22 g23 g24 g25 g26 g27 g28 g33 g34 g35 g36 g37 g38 g39 g41 g42 g44 g45 o pn np nl wn lv pm mv tt si4 si12 si13 bi14 wi6 ti4 ti7 gi0 gi18 gi29 gi30 gi40 gi43 X5 S5 S6 S7 S8 S9 S10 S11 B0 B1 B2 B3 B4 B5 B6 B7 B8 B9 B10 B11 W0 W1 W2 W3 W4 W8 D0 D1 Y0 Y1 T0 T1 T2 T3 T6 T8 DR0 DR1 G10 G16 G19 G20 G21 G22 G23 G24 G25 G26 G27 G28 G33 G34 G35 G36 G38 G39 G41 G42 G44 G45 D2 G37 OO) H) (hD : va_D (fun q : Nat => s.heap.size ≤ q) (LWS cI cJ x x0 x1 x2 x3 x4 x5 s1 s2 s5 s6 s7 s8 s9 s10 s11 b0 b1 b2 b3 b4 b5 b6 b7 b8 b9 b10 b11 w0 w1 w2 w3 w4 w8 d0 d1 d2 y0 y1 t0 t1 t2 t3 t6 t8 dr0 dr1 g g2 g3 g4 g5 g6 g7 g8 g9 g10 g12 g13 g15 g16 g17 g19 g20 g21 g22 g23 g24 g25 g26 g27 g28 g33 g34 g35 g36 g37 g38 g39 g41 g42 g44 g45 o pn np nl wn lv pm mv tt si4 si12 si13 bi14 wi6 ti4 ti7 gi0 gi18 gi29 gi30 gi40 gi43 X5 S5 S6 S7 S8 S9 S10 S11 B0 B1 B2 B3 B4 B5 B6 B7 B8 B9 B10 B11 W0 W1 W2 W3 W4 W8 D0 D1 Y0 Y1 T0 T1 T2 T3 T6 T8 DR0 DR1 G10 G16 G19 G20 G21 G22 G23 G24 G25 G26 G27 G28 G33 G34 G35 G36 G38 G39 G41 G42 G44 G45 D2 G37 OO)) (hS : va_S (fun q : Nat => s.heap.size ≤ q) s.heap H locs) {ls : Array Slot} (hl : lv_has ls 7 [(4, .int (nI j)), (3, .ref o), (2, .ref g), (1, .ref x), (0, .ref b)])
    (kend : ∀ (pn np nl wn lv pm mv tt : Nat) (si4 si12 si13 bi14 wi6 ti4 ti7 gi0 gi18 gi29 gi30 gi40 gi43 : Int32) (X5 S5 S6 S7 S8 S9 S10 S11 B0 B1 B2 B3 B4 B5 B6 B7 B8 B9 B10 B11 W0 W1 W2 W3 W4 W8 D0 D1 Y0 Y1 T0 T1 T2 T3 T6 T8 DR0 DR1 G10 G16 G19 G20 G21 G22 G23 G24 G25 G26 G27 G28 G33 G34 G35 G36 G38 G39 G41 G42 G44 G45 : Nat → Int32) (D2 G37 OO : Nat → Int64) (H1 : Heap) (locs1 : List Loc) (ls1 : Array Slot) (dw1 : Drawn), s.drawn.sameBut dw1 lw_cs → LInv pn np nl wn lv pm mv tt B0 B1 B2 B3 B6 B8 B10 B11 T6 DR0 G10 G16 G19 G20 G25 G27 → va_P D vwCl (LWS cI cJ x x0 x1 x2 x3 x4 x5 s1 s2 s5 s6 s7 s8 s9 s10 s11 b0 b1 b2 b3 b4 b5 b6 b7 b8 b9 b10 b11 w0 w1 w2 w3 w4 w8 d0 d1 d2 y0 y1 t0 t1 t2 t3 t6 t8 dr0 dr1 g g2 g3 g4 g5 g6 g7 g8 g9 g10 g12 g13 g15 g16 g17 g19 g20 g21 g22 g23 g24 g25 g26 g27 g28 g33 g34 g35 g36 g37 g38 g39 g41 g42 g44 g45 o pn np nl wn lv pm mv tt si4 si12 si13 bi14 wi6 ti4 ti7 gi0 gi18 gi29 gi30 gi40 gi43 X5 S5 S6 S7 S8 S9 S10 S11 B0 B1 B2 B3 B4 B5 B6 B7 B8 B9 B10 B11 W0 W1 W2 W3 W4 W8 D0 D1 Y0 Y1 T0 T1 T2 T3 T6 T8 DR0 DR1 G10 G16 G19 G20 G21 G22 G23 G24 G25 G26 G27 G28 G33 G34 G35 G36 G38 G39 G41 G42 G44 G45 D2 G37 OO) H1 → va_D (fun q : Nat => s.heap.size ≤ q) (LWS cI cJ x x0 x1 x2 x3 x4 x5 s1 s2 s5 s6 s7 s8 s9 s10 s11 b0 b1 b2 b3 b4 b5 b6 b7 b8 b9 b10 b11 w0 w1 w2 w3 w4 w8 d0 d1 d2 y0 y1 t0 t1 t2 t3 t6 t8 dr0 dr1 g g2 g3 g4 g5 g6 g7 g8 g9 g10 g12 g13 g15 g16 g17 g19 g20 g21 g22 g23 g24 g25 g26 g27 g28 g33 g34 g35 g36 g37 g38 g39 g41 g42 g44 g45 o pn np nl wn lv pm mv tt si4 si12 si13 bi14 wi6 ti4 ti7 gi0 gi18 gi29 gi30 gi40 gi43 X5 S5 S6 S7 S8 S9 S10 S11 B0 B1 B2 B3 B4 B5 B6 B7 B8 B9 B10 B11 W0 W1 W2 W3 W4 W8 D0 D1 Y0 Y1 T0 T1 T2 T3 T6 T8 DR0 DR1 G10 G16 G19 G20 G21 G22 G23 G24 G25 G26 G27 G28 G33 G34 G35 G36 G38 G39 G41 G42 G44 G45 D2 G37 OO) → va_S (fun q : Nat => s.heap.size ≤ q) s.heap H1 locs1 → lv_has ls1 7 [(4, .int (nI j)), (3, .ref o), (2, .ref g), (1, .ref x), (0, .ref b)] → W p l e room_1 (s.setDrawn dw1) m #[Value.ref b] below meth c H1 locs1 (k9 + 2) (n9 + 16) Q (F0 m 1593 ls1 [])) : W p l e room_1 (s.setDrawn dd) m #[Value.ref b] below meth c H locs k9 n9 Q (F0 m 707 ls []) := by
  obtain ⟨hx, hb, hml, hown, htsB, hE, hX, hbl, hXw, hZ, hl9⟩ := C
  have hXw0 := hXw
  have hA : ∀ q : Nat, s.heap.size ≤ q → (fun q : Nat => s.heap.size ≤ q) q := fun _ h => h
  have hbA : ¬ (fun q : Nat => s.heap.size ≤ q) b := Nat.not_le.mpr hbl
  obtain ⟨hnp, hnl, hwn, hlv, hpn, hpm, hmv, htt, hli, hor, hBK, hsu, hamt, hLE, hLO, hLW, hSH, hr8, hr16, hto⟩ := hI
  obtain ⟨li0, wo0, de0, ag0, hliv, hlib, hl1, hwov, hwob, hdev, hdeb, hagv, hagb⟩ := id hBK
  obtain ⟨a1, hsx1⟩ : ∃ y : Int32, xs (Int32.toNatClampNeg (nI (j + 1))) = y := ⟨_, rfl⟩
  obtain ⟨a2, hsx2⟩ : ∃ y : Int32, xs (Int32.toNatClampNeg (nI (j + 2))) = y := ⟨_, rfl⟩
  obtain ⟨a3, hsx3⟩ : ∃ y : Int32, xs (Int32.toNatClampNeg (nI (j + 3))) = y := ⟨_, rfl⟩
  obtain ⟨a4, hsx4⟩ : ∃ y : Int32, xs (Int32.toNatClampNeg (nI (j + 4))) = y := ⟨_, rfl⟩
  obtain ⟨a5, hsx5⟩ : ∃ y : Int32, xs (Int32.toNatClampNeg (nI (j + 5))) = y := ⟨_, rfl⟩
  have hts := dr_words htsB dd
  have hE : eK D cI cJ (s.setDrawn dd) := hE
  have hown : (s.setDrawn dd).vm.findClass RL = some m.cls := hown
  have hX : va_X b L xs (s.setDrawn dd) s.heap := hX
  have hXw : xw (fun q : Nat => s.heap.size ≤ q) (s.setDrawn dd) s.heap := xw.same (u := s) (U := s.setDrawn dd) rfl hXw0
  have hZ : fz tf (fun q : Nat => s.heap.size ≤ q) (s.setDrawn dd) s.heap := hZ
  refine lv_aload_n hx hb dL_law_707 rfl (lv_at hl 3 rfl) ?_
  refine lv_aload_n hx hb dL_law_708 rfl (lv_at hl 4 rfl) ?_
  refine lv_iload hx hb dL_law_709 (lv_at hl 0 rfl) ?_
  refine lv_iconst (v := 1) hx hb dL_law_711 (by decide) ?_
  refine lv_iadd hx hb dL_law_712 ?_
  refine k_topi (nI_add j 1) ?_
  refine va_sld hx hb hX hbl hbA hS (vp_in_nI (n := j + 1) (by omega) (by omega)) dL_law_713 ?_
  rw [hsx1]
  refine lv_aload_n hx hb dL_law_714 rfl (lv_at hl 4 rfl) ?_
  refine lv_iload hx hb dL_law_715 (lv_at hl 0 rfl) ?_
  refine lv_iconst (v := 2) hx hb dL_law_717 (by decide) ?_
  refine lv_iadd hx hb dL_law_718 ?_
  refine k_topi (nI_add j 2) ?_
  refine va_sld hx hb hX hbl hbA hS (vp_in_nI (n := j + 2) (by omega) (by omega)) dL_law_719 ?_
  rw [hsx2]
  refine k_lD hdd (va_runV_D (As := [.int a1, .int a2]) (rest := []) ⟨hx, hb, hml, hown, hts⟩ (m_X7_strain l D cI cJ H.size x x0 x1 x2 x3 x4 x5 s1 s2 s5 s6 s7 s8 s9 s10 s11 b0 b1 b2 b3 b4 b5 b6 b7 b8 b9 b10 b11 w0 w1 w2 w3 w4 w8 d0 d1 d2 wn lv np nl pn si4 si12 si13 bi14 wi6 a1 a2 B0 B1 B2 B3 B4 B6 B8 B10 B11 S5 S6 S7 S8 S9 S10 S11 W0 W1 W2 W3 W4 W8 D0 D1 D2 B5 hwn hlv hli hnp hnl hpn) (cwV 2 hts hL_law_X7_strain rfl rfl rfl (by decide +kernel) ⟨Nat.le_of_ble_eq_true rfl, Nat.le_of_ble_eq_true rfl⟩) (k_preV hE hP hD [0, 2, 10, 23, 30, 11, 12, 13, 14, 15, 17, 19, 21, 22, 3, 4, 5, 6, 7, 8, 9, 24, 25, 26, 27, 28, 29, 31, 32, 33, 16] (by decide +kernel) rfl 0 rfl rfl) rfl rfl hl.1 rfl (lv_room (Nat.le_of_ble_eq_true rfl)) dL_law_720 ⟨by omega, by omega⟩) hP hD hS hA [0, 2, 10, 23, 30, 11, 12, 13, 14, 15, 17, 19, 21, 22, 3, 4, 5, 6, 7, 8, 9, 24, 25, 26, 27, 28, 29, 31, 32, 33, 16] [1, 18, 20, 34, 35, 36, 37, 38, 39, 40, 41, 42, 43, 44, 45, 46, 47, 48, 49, 50, 51, 52, 53, 54, 55, 56, 57, 58, 59, 60, 61, 62, 63, 64, 65, 66, 67, 68, 69, 70, 71, 72, 73, 74, 75, 76, 77, 78, 79, 80, 81, 82, 83] rfl (wr := [(aIc cI x5 8 X5), (aIc cI b7 8 B7), (aIc cI b9 8 B9), (oX5 x2 y0 y1), (aIc cI y0 8 Y0), (aIc cI y1 8 Y1), (oX1 x3 t0 t1 t2 t3 ti4 (nI pm) t6 ti7 t8), (aIc cI t0 8 T0), (aIc cI t1 9 T1), (aIc cI t2 9 T2), (aIc cI t3 9 T3), (aIc cI t6 8 T6), (aIc cI t8 9 T8), (oX3 x4 dr0 dr1), (aIc cI dr0 32 DR0), (aIc cI dr1 32 DR1), (oX8 g gi0 (nI np) g2 g3 g4 g5 g6 g7 g8 g9 g10 (nI nl) g12 g13 bi14 g15 g16 g17 gi18 g19 g20 g21 g22 g23 g24 g25 g26 g27 g28 gi29 gi30 (nI mv) (nI tt) g33 g34 g35 g36 g37 g38 g39 gi40 g41 g42 gi43 g44 g45), (aIc cI g2 8 B0), (aIc cI g3 8 B1), (aIc cI g4 8 B2), (aIc cI g5 8 B3), (aIc cI g6 8 B4), (aIc cI g7 8 B5), (aIc cI g8 8 B6), (aIc cI g9 8 B7), (aIc cI g10 64 G10), (aIc cI g12 10 B10), (aIc cI g13 10 B11), (aIc cI g15 8 B9), (aIc cI g16 32 G16), (aIc cI g17 32 DR1), (aIc cI g19 8 G19), (aIc cI g20 8 G20), (aIc cI g21 8 G21), (aIc cI g22 8 G22), (aIc cI g23 8 G23), (aIc cI g24 8 G24), (aIc cI g25 8 G25), (aIc cI g26 8 G26), (aIc cI g27 8 G27), (aIc cI g28 8 G28), (aIc cI g33 8 G33), (aIc cI g34 8 G34), (aIc cI g35 8 G35), (aIc cI g36 8 G36), (aJc cJ g37 8 G37), (aIc cI g38 8 G38), (aIc cI g39 8 G39), (aIc cI g41 9 G41), (aIc cI g42 192 G42), (aIc cI g44 8 G44), (aIc cI g45 8 G45), (aJc cJ o 1 OO)]) rfl (by decide +kernel) (by decide +kernel) (fun r1 u H locs hw2 hP hD hS dn3 hdn3 => ?_)
  have hts := dr_words htsB dn3
  have hE : eK D cI cJ (s.setDrawn dn3) := hE
  have hown : (s.setDrawn dn3).vm.findClass RL = some m.cls := hown
  have hX : va_X b L xs (s.setDrawn dn3) s.heap := hX
  have hXw : xw (fun q : Nat => s.heap.size ≤ q) (s.setDrawn dn3) s.heap := xw.same (u := s) (U := s.setDrawn dn3) rfl hXw0
  have hZ : fz tf (fun q : Nat => s.heap.size ≤ q) (s.setDrawn dn3) s.heap := hZ
  obtain ⟨z4, z5, z6, z7, z8, z9, z10, z11, z12, z13, z14, z15, z16, z17, z18, z19, z20, z21, z22, z23, z24, z25, z26, hz27, hz28, hz29, rfl⟩ := hw2
  refine lv_pop2_2 hx hb dL_law_723 rfl ?_
  refine lv_aload_n hx hb dL_law_724 rfl (lv_at hl 2 rfl) ?_
  refine lv_aload_n hx hb dL_law_725 rfl (lv_at hl 4 rfl) ?_
  refine lv_iload hx hb dL_law_726 (lv_at hl 0 rfl) ?_
  refine lv_iconst (v := 1) hx hb dL_law_728 (by decide) ?_
  refine lv_iadd hx hb dL_law_729 ?_
  refine k_topi (nI_add j 1) ?_
  refine va_sld hx hb hX hbl hbA hS (vp_in_nI (n := j + 1) (by omega) (by omega)) dL_law_730 ?_
  rw [hsx1]
  refine lv_aload_n hx hb dL_law_731 rfl (lv_at hl 4 rfl) ?_
  refine lv_iload hx hb dL_law_732 (lv_at hl 0 rfl) ?_
  refine lv_iconst (v := 2) hx hb dL_law_734 (by decide) ?_
  refine lv_iadd hx hb dL_law_735 ?_
  refine k_topi (nI_add j 2) ?_
  refine va_sld hx hb hX hbl hbA hS (vp_in_nI (n := j + 2) (by omega) (by omega)) dL_law_736 ?_
  rw [hsx2]
  refine k_lD hdn3 (va_runV_D (As := [.int a1, .int a2]) (rest := []) ⟨hx, hb, hml, hown, hts⟩ (m_X8_strain l D cI cJ H.size g g2 g3 g4 g5 g6 g7 g8 g9 g10 g12 g13 g15 g16 g17 g19 g20 g21 g22 g23 g24 g25 g26 g27 g28 g33 g34 g35 g36 g37 g38 g39 g41 g42 g44 g45 np nl mv tt gi0 bi14 gi18 gi29 gi30 gi40 gi43 a1 a2 B0 B1 B2 B3 B4 B5 B6 G10 B10 B11 G19 G20 G21 G22 G23 G24 G25 G26 G27 G28 G33 G34 G35 G36 G37 li0 wo0 de0 ag0 hnp hnl hli hsu hliv hlib hwov hwob hdev hdeb hagv hagb hamt hLE hLO hLW hSH htt hmv) (cwV 2 hts hL_law_X8_strain rfl rfl rfl (by decide +kernel) ⟨Nat.le_of_ble_eq_true rfl, Nat.le_of_ble_eq_true rfl⟩) (k_preV hE hP hD [16, 17, 18, 19, 20, 21, 22, 23, 25, 26, 27, 31, 32, 33, 34, 35, 36, 37, 38, 39, 40, 41, 42, 43, 44, 45] (by decide +kernel) rfl 16 rfl rfl) rfl rfl hl.1 rfl (lv_room (Nat.le_of_ble_eq_true rfl)) dL_law_737 ⟨by omega, by omega⟩) hP hD hS hA [16, 17, 18, 19, 20, 21, 22, 23, 25, 26, 27, 31, 32, 33, 34, 35, 36, 37, 38, 39, 40, 41, 42, 43, 44, 45] [0, 1, 2, 3, 4, 5, 6, 7, 8, 9, 10, 11, 12, 13, 14, 15, 24, 28, 29, 30, 46, 47, 48, 49, 50, 51, 52, 53, 54, 55, 56, 57, 58, 59, 60, 61, 62, 63, 64, 65, 66, 67, 68, 69, 70, 71, 72, 73, 74, 75, 76, 77, 78, 79, 80, 81, 82, 83] rfl (wr := [(aIc cI x5 8 X5), (aIc cI b7 8 B7), (aIc cI b9 8 B9), (oX5 x2 y0 y1), (aIc cI y0 8 Y0), (aIc cI y1 8 Y1), (oX1 x3 t0 t1 t2 t3 ti4 (nI pm) t6 ti7 t8), (aIc cI t0 8 T0), (aIc cI t1 9 T1), (aIc cI t2 9 T2), (aIc cI t3 9 T3), (aIc cI t6 8 T6), (aIc cI t8 9 T8), (oX3 x4 dr0 dr1), (aIc cI dr0 32 DR0), (aIc cI dr1 32 DR1), (aIc cI g9 8 B7), (aIc cI g15 8 B9), (aIc cI g16 32 G16), (aIc cI g17 32 DR1), (aIc cI g38 8 G38), (aIc cI g39 8 G39), (aIc cI g41 9 G41), (aIc cI g42 192 G42), (aIc cI g44 8 G44), (aIc cI g45 8 G45), (aJc cJ o 1 OO), (oX7 x x0 x1 x2 x3 x4 x5), (oX4 x1 x0 s1 s2 (nI z26) z24 s5 s6 s7 s8 s9 s10 s11 z19 z20), (oX0 x0 b0 b1 b2 b3 b4 b5 b6 b7 b8 b9 b10 b11 (nI np) (nI nl) bi14), (oX6 s1 w0 w1 w2 w3 w4 (nI z25) z21 (nI z22) w8), (oX2 s2 d0 d1 d2), (aIc cI b0 8 B0), (aIc cI b1 8 B1), (aIc cI b2 8 B2), (aIc cI b3 8 B3), (aIc cI b4 8 B4), (aIc cI b6 8 B6), (aIc cI b8 64 B8), (aIc cI b10 10 B10), (aIc cI b11 10 B11), (aIc cI s5 8 z4), (aIc cI s6 8 z5), (aIc cI s7 8 z6), (aIc cI s8 8 z7), (aIc cI s9 8 z8), (aIc cI s10 8 z9), (aIc cI s11 8 z10), (aIc cI w0 8 z23), (aIc cI w1 8 z11), (aIc cI w2 8 z12), (aIc cI w3 8 z13), (aIc cI w4 8 z14), (aIc cI w8 8 z15), (aIc cI d0 8 z16), (aIc cI d1 8 z17), (aJc cJ d2 8 z18), (aIc cI b5 8 B5)]) rfl (by decide +kernel) (by decide +kernel) (fun r30 u H locs hw31 hP hD hS dn32 hdn32 => ?_)
  have hts := dr_words htsB dn32
  have hE : eK D cI cJ (s.setDrawn dn32) := hE
  have hown : (s.setDrawn dn32).vm.findClass RL = some m.cls := hown
  have hX : va_X b L xs (s.setDrawn dn32) s.heap := hX
  have hXw : xw (fun q : Nat => s.heap.size ≤ q) (s.setDrawn dn32) s.heap := xw.same (u := s) (U := s.setDrawn dn32) rfl hXw0
  have hZ : fz tf (fun q : Nat => s.heap.size ≤ q) (s.setDrawn dn32) s.heap := hZ
  obtain ⟨z33, z34, z35, z36, z37, z38, z39, z40, z41, z42, z43, z44, z45, z46, z47, z48, z49, z50, z51, z52, z53, hz54, hz55, hz56, hz57, hz58, hz59, rfl⟩ := hw31
  refine lv_pop2_2 hx hb dL_law_740 rfl ?_
  refine lv_goto (tgt := 1593) hx hb dL_law_741 (by decide) ?_
  refine W.widen (k := k9 + 2) (n := n9 + 16) (by omega) (by omega) ?_
  exact kend z26 np nl z25 z22 pm z51 z52 z24 z19 z20 bi14 z21 ti4 ti7 z53 z50 z48 z49 gi40 gi43 X5 z4 z5 z6 z7 z8 z9 z10 B0 B1 B2 B3 B4 B5 B6 B7 B8 B9 B10 B11 z23 z11 z12 z13 z14 z15 z16 z17 Y0 Y1 T0 T1 T2 T3 T6 T8 DR0 DR1 G10 G16 z33 z34 z35 z36 z37 z38 z39 z40 z41 z42 z43 z44 z45 z46 G38 G39 G41 G42 G44 G45 z18 z47 OO _ _ _ dn32 hdn32 ⟨hnp, hnl, hz28, hz27, hz29, hpm, hz59, hz58, hli, hor, hBK, hsu, hamt, hz54, hz55, hz56, hz57, hr8, hr16, hto⟩ (k_sub hP [27, 0, 28, 41, 42, 43, 44, 45, 46, 47, 29, 32, 33, 34, 35, 36, 57, 37, 1, 38, 2, 39, 40, 30, 48, 49, 50, 51, 52, 53, 31, 54, 55, 56, 3, 4, 5, 6, 7, 8, 9, 10, 11, 12, 13, 14, 15, 58, 59, 60, 61, 62, 63, 64, 65, 16, 66, 67, 68, 17, 18, 19, 69, 70, 71, 72, 73, 74, 75, 76, 77, 78, 79, 80, 81, 82, 83, 20, 21, 22, 23, 24, 25, 26] rfl) (hD.sub [27, 0, 28, 41, 42, 43, 44, 45, 46, 47, 29, 32, 33, 34, 35, 36, 57, 37, 1, 38, 2, 39, 40, 30, 48, 49, 50, 51, 52, 53, 31, 54, 55, 56, 3, 4, 5, 6, 7, 8, 9, 10, 11, 12, 13, 14, 15, 58, 59, 60, 61, 62, 63, 64, 65, 16, 66, 67, 68, 17, 18, 19, 69, 70, 71, 72, 73, 74, 75, 76, 77, 78, 79, 80, 81, 82, 83, 20, 21, 22, 23, 24, 25, 26] (by decide +kernel) rfl) hS (lv_sub hl [0, 1, 2, 3, 4] rfl)
set_option maxHeartbeats 4000000 in
set_option maxRecDepth 100000 in
/-- step -/
theorem arm_14 {p : Program} {l : Launch} {e : Env} {s : State} {m : MethodId} {below : List Frame} {meth : Method} {c : Code} {b L tf : Nat} {xs : Nat → Int32} {D : va_G} {cI cJ : ClassId} {Q : State → Prop} (C : LC p l s m c b L tf xs D cI cJ) {j k9 n9 : Nat} (hj : j + 6 ≤ L) (hL : L ≤ 3072) (hk9 : k9 + 2 ≤ room_1.cells) (hn9 : n9 + 16 ≤ room_1.slots) {dd : Drawn} (hdd : s.drawn.sameBut dd lw_cs) {x x0 x1 x2 x3 x4 x5 s1 s2 s5 s6 s7 s8 s9 s10 s11 b0 b1 b2 b3 b4 b5 b6 b7 b8 b9 b10 b11 w0 w1 w2 w3 w4 w8 d0 d1 d2 y0 y1 t0 t1 t2 t3 t6 t8 dr0 dr1 g g2 g3 g4 g5 g6 g7 g8 g9 g10 g12 g13 g15 g16 g17 g19 g20 g21 g22 g23 g24 g25 g26 g27 g28 g33 g34 g35 g36 g37 g38 g39 g41 g42 g44 g45 o : Nat} {pn np nl wn lv pm mv tt : Nat} {si4 si12 si13 bi14 wi6 ti4 ti7 gi0 gi18 gi29 gi30 gi40 gi43 : Int32} {X5 S5 S6 S7 S8 S9 S10 S11 B0 B1 B2 B3 B4 B5 B6 B7 B8 B9 B10 B11 W0 W1 W2 W3 W4 W8 D0 D1 Y0 Y1 T0 T1 T2 T3 T6 T8 DR0 DR1 G10 G16 G19 G20 G21 G22 G23 G24 G25 G26 G27 G28 G33 G34 G35 G36 G38 G39 G41 G42 G44 G45 : Nat → Int32} {D2 G37 OO : Nat → Int64} (hI : LInv pn np nl wn lv pm mv tt B0 B1 B2 B3 B6 B8 B10 B11 T6 DR0 G10 G16 G19 G20 G25 G27) {H : Heap} {locs : List Loc} (hP : va_P D vwCl (LWS cI cJ x x0 x1 x2 x3 x4 x5 s1 s2 s5 s6 s7 s8 s9 s10 s11 b0 b1 b2 b3 b4 b5 b6 b7 b8 b9 b10 b11 w0 w1 w2 w3 w4 w8 d0 d1 d2 y0 y1 t0 t1 t2 t3 t6 t8 dr0 dr1 g g2 g3 g4 g5 g6 g7 g8 g9 g10 g12 g13 g15 g16 g17 g19 g20 g21 g22 g23 g24 g25 g26 g27 g28 g33 g34 g35 g36 g37 g38 g39 g41 g42 g44 g45 o pn np nl wn lv pm mv tt si4 si12 si13 bi14 wi6 ti4 ti7 gi0 gi18 gi29 gi30 gi40 gi43 X5 S5 S6 S7 S8 S9 S10 S11 B0 B1 B2 B3 B4 B5 B6 B7 B8 B9 B10 B11 W0 W1 W2 W3 W4 W8 D0 D1 Y0 Y1 T0 T1 T2 T3 T6 T8 DR0 DR1 G10 G16 G19 G20 G21 G22 G23 G24 G25 G26 G27 G28 G33 G34 G35 G36 G38 G39 G41 G42 G44 G45 D2 G37 OO) H) (hD : va_D (fun q : Nat => s.heap.size ≤ q) (LWS cI cJ x x0 x1 x2 x3 x4 x5 s1 s2 s5 s6 s7 s8 s9 s10 s11 b0 b1 b2 b3 b4 b5 b6 b7 b8 b9 b10 b11 w0 w1 w2 w3 w4 w8 d0 d1 d2 y0 y1 t0 t1 t2 t3 t6 t8 dr0 dr1 g g2 g3 g4 g5 g6 g7 g8 g9 g10 g12 g13 g15 g16 g17 g19 g20 g21 g22 g23 g24 g25 g26 g27 g28 g33 g34 g35 g36 g37 g38 g39 g41 g42 g44 g45 o pn np nl wn lv pm mv tt si4 si12 si13 bi14 wi6 ti4 ti7 gi0 gi18 gi29 gi30 gi40 gi43 X5 S5 S6 S7 S8 S9 S10 S11 B0 B1 B2 B3 B4 B5 B6 B7 B8 B9 B10 B11 W0 W1 W2 W3 W4 W8 D0 D1 Y0 Y1 T0 T1 T2 T3 T6 T8 DR0 DR1 G10 G16 G19 G20 G21 G22 G23 G24 G25 G26 G27 G28 G33 G34 G35 G36 G38 G39 G41 G42 G44 G45 D2 G37 OO)) (hS : va_S (fun q : Nat => s.heap.size ≤ q) s.heap H locs) {ls : Array Slot} (hl : lv_has ls 7 [(4, .int (nI j)), (3, .ref o), (2, .ref g), (1, .ref x), (0, .ref b)])
    (kend : ∀ (pn np nl wn lv pm mv tt : Nat) (si4 si12 si13 bi14 wi6 ti4 ti7 gi0 gi18 gi29 gi30 gi40 gi43 : Int32) (X5 S5 S6 S7 S8 S9 S10 S11 B0 B1 B2 B3 B4 B5 B6 B7 B8 B9 B10 B11 W0 W1 W2 W3 W4 W8 D0 D1 Y0 Y1 T0 T1 T2 T3 T6 T8 DR0 DR1 G10 G16 G19 G20 G21 G22 G23 G24 G25 G26 G27 G28 G33 G34 G35 G36 G38 G39 G41 G42 G44 G45 : Nat → Int32) (D2 G37 OO : Nat → Int64) (H1 : Heap) (locs1 : List Loc) (ls1 : Array Slot) (dw1 : Drawn), s.drawn.sameBut dw1 lw_cs → LInv pn np nl wn lv pm mv tt B0 B1 B2 B3 B6 B8 B10 B11 T6 DR0 G10 G16 G19 G20 G25 G27 → va_P D vwCl (LWS cI cJ x x0 x1 x2 x3 x4 x5 s1 s2 s5 s6 s7 s8 s9 s10 s11 b0 b1 b2 b3 b4 b5 b6 b7 b8 b9 b10 b11 w0 w1 w2 w3 w4 w8 d0 d1 d2 y0 y1 t0 t1 t2 t3 t6 t8 dr0 dr1 g g2 g3 g4 g5 g6 g7 g8 g9 g10 g12 g13 g15 g16 g17 g19 g20 g21 g22 g23 g24 g25 g26 g27 g28 g33 g34 g35 g36 g37 g38 g39 g41 g42 g44 g45 o pn np nl wn lv pm mv tt si4 si12 si13 bi14 wi6 ti4 ti7 gi0 gi18 gi29 gi30 gi40 gi43 X5 S5 S6 S7 S8 S9 S10 S11 B0 B1 B2 B3 B4 B5 B6 B7 B8 B9 B10 B11 W0 W1 W2 W3 W4 W8 D0 D1 Y0 Y1 T0 T1 T2 T3 T6 T8 DR0 DR1 G10 G16 G19 G20 G21 G22 G23 G24 G25 G26 G27 G28 G33 G34 G35 G36 G38 G39 G41 G42 G44 G45 D2 G37 OO) H1 → va_D (fun q : Nat => s.heap.size ≤ q) (LWS cI cJ x x0 x1 x2 x3 x4 x5 s1 s2 s5 s6 s7 s8 s9 s10 s11 b0 b1 b2 b3 b4 b5 b6 b7 b8 b9 b10 b11 w0 w1 w2 w3 w4 w8 d0 d1 d2 y0 y1 t0 t1 t2 t3 t6 t8 dr0 dr1 g g2 g3 g4 g5 g6 g7 g8 g9 g10 g12 g13 g15 g16 g17 g19 g20 g21 g22 g23 g24 g25 g26 g27 g28 g33 g34 g35 g36 g37 g38 g39 g41 g42 g44 g45 o pn np nl wn lv pm mv tt si4 si12 si13 bi14 wi6 ti4 ti7 gi0 gi18 gi29 gi30 gi40 gi43 X5 S5 S6 S7 S8 S9 S10 S11 B0 B1 B2 B3 B4 B5 B6 B7 B8 B9 B10 B11 W0 W1 W2 W3 W4 W8 D0 D1 Y0 Y1 T0 T1 T2 T3 T6 T8 DR0 DR1 G10 G16 G19 G20 G21 G22 G23 G24 G25 G26 G27 G28 G33 G34 G35 G36 G38 G39 G41 G42 G44 G45 D2 G37 OO) → va_S (fun q : Nat => s.heap.size ≤ q) s.heap H1 locs1 → lv_has ls1 7 [(4, .int (nI j)), (3, .ref o), (2, .ref g), (1, .ref x), (0, .ref b)] → W p l e room_1 (s.setDrawn dw1) m #[Value.ref b] below meth c H1 locs1 (k9 + 2) (n9 + 16) Q (F0 m 1593 ls1 [])) : W p l e room_1 (s.setDrawn dd) m #[Value.ref b] below meth c H locs k9 n9 Q (F0 m 744 ls []) := by
  obtain ⟨hx, hb, hml, hown, htsB, hE, hX, hbl, hXw, hZ, hl9⟩ := C
  have hXw0 := hXw
  have hA : ∀ q : Nat, s.heap.size ≤ q → (fun q : Nat => s.heap.size ≤ q) q := fun _ h => h
  have hbA : ¬ (fun q : Nat => s.heap.size ≤ q) b := Nat.not_le.mpr hbl
  obtain ⟨hnp, hnl, hwn, hlv, hpn, hpm, hmv, htt, hli, hor, hBK, hsu, hamt, hLE, hLO, hLW, hSH, hr8, hr16, hto⟩ := hI
  obtain ⟨li0, wo0, de0, ag0, hliv, hlib, hl1, hwov, hwob, hdev, hdeb, hagv, hagb⟩ := id hBK
  obtain ⟨a1, hsx1⟩ : ∃ y : Int32, xs (Int32.toNatClampNeg (nI (j + 1))) = y := ⟨_, rfl⟩
  obtain ⟨a2, hsx2⟩ : ∃ y : Int32, xs (Int32.toNatClampNeg (nI (j + 2))) = y := ⟨_, rfl⟩
  obtain ⟨a3, hsx3⟩ : ∃ y : Int32, xs (Int32.toNatClampNeg (nI (j + 3))) = y := ⟨_, rfl⟩
  obtain ⟨a4, hsx4⟩ : ∃ y : Int32, xs (Int32.toNatClampNeg (nI (j + 4))) = y := ⟨_, rfl⟩
  obtain ⟨a5, hsx5⟩ : ∃ y : Int32, xs (Int32.toNatClampNeg (nI (j + 5))) = y := ⟨_, rfl⟩
  have hts := dr_words htsB dd
  have hE : eK D cI cJ (s.setDrawn dd) := hE
  have hown : (s.setDrawn dd).vm.findClass RL = some m.cls := hown
  have hX : va_X b L xs (s.setDrawn dd) s.heap := hX
  have hXw : xw (fun q : Nat => s.heap.size ≤ q) (s.setDrawn dd) s.heap := xw.same (u := s) (U := s.setDrawn dd) rfl hXw0
  have hZ : fz tf (fun q : Nat => s.heap.size ≤ q) (s.setDrawn dd) s.heap := hZ
  refine lv_aload_n hx hb dL_law_744 rfl (lv_at hl 3 rfl) ?_
  refine lv_aload_n hx hb dL_law_745 rfl (lv_at hl 4 rfl) ?_
  refine lv_iload hx hb dL_law_746 (lv_at hl 0 rfl) ?_
  refine lv_iconst (v := 1) hx hb dL_law_748 (by decide) ?_
  refine lv_iadd hx hb dL_law_749 ?_
  refine k_topi (nI_add j 1) ?_
  refine va_sld hx hb hX hbl hbA hS (vp_in_nI (n := j + 1) (by omega) (by omega)) dL_law_750 ?_
  rw [hsx1]
  refine lv_aload_n hx hb dL_law_751 rfl (lv_at hl 4 rfl) ?_
  refine lv_iload hx hb dL_law_752 (lv_at hl 0 rfl) ?_
  refine lv_iconst (v := 2) hx hb dL_law_754 (by decide) ?_
  refine lv_iadd hx hb dL_law_755 ?_
  refine k_topi (nI_add j 2) ?_
  refine va_sld hx hb hX hbl hbA hS (vp_in_nI (n := j + 2) (by omega) (by omega)) dL_law_756 ?_
  rw [hsx2]
  refine k_i (va_runV (As := [.int a1, .int a2]) (rest := []) ⟨hx, hb, hml, hown, hts⟩ (m_X7_step l D cI cJ H.size x x0 x1 x2 x3 x4 x5 s1 s2 s5 s6 s7 s8 s9 s10 s11 b0 b1 b2 b3 b4 b5 b6 b7 b8 b9 b10 b11 w0 w1 w2 w3 w4 w8 d0 d1 d2 wn lv np nl pn si4 si12 si13 bi14 wi6 a1 a2 B0 B1 B2 B3 B4 B6 B8 B10 B11 S5 S6 S7 S8 S9 S10 S11 W0 W1 W2 W3 W4 W8 D0 D1 D2 B5 hwn hlv hli hnp hnl hpn) (cwV 2 hts hL_law_X7_step rfl rfl rfl (by decide +kernel) ⟨Nat.le_of_ble_eq_true rfl, Nat.le_of_ble_eq_true rfl⟩) (k_preV hE hP hD [0, 2, 10, 23, 30, 11, 12, 13, 14, 15, 17, 19, 21, 22, 3, 4, 5, 6, 7, 8, 9, 24, 25, 26, 27, 28, 29, 31, 32, 33, 16] (by decide +kernel) rfl 0 rfl rfl) rfl rfl hl.1 rfl (lv_room (Nat.le_of_ble_eq_true rfl)) dL_law_757 ⟨by omega, by omega⟩) hP hD hS hA [0, 2, 10, 23, 30, 11, 12, 13, 14, 15, 17, 19, 21, 22, 3, 4, 5, 6, 7, 8, 9, 24, 25, 26, 27, 28, 29, 31, 32, 33, 16] [1, 18, 20, 34, 35, 36, 37, 38, 39, 40, 41, 42, 43, 44, 45, 46, 47, 48, 49, 50, 51, 52, 53, 54, 55, 56, 57, 58, 59, 60, 61, 62, 63, 64, 65, 66, 67, 68, 69, 70, 71, 72, 73, 74, 75, 76, 77, 78, 79, 80, 81, 82, 83] rfl (wr := [(aIc cI x5 8 X5), (aIc cI b7 8 B7), (aIc cI b9 8 B9), (oX5 x2 y0 y1), (aIc cI y0 8 Y0), (aIc cI y1 8 Y1), (oX1 x3 t0 t1 t2 t3 ti4 (nI pm) t6 ti7 t8), (aIc cI t0 8 T0), (aIc cI t1 9 T1), (aIc cI t2 9 T2), (aIc cI t3 9 T3), (aIc cI t6 8 T6), (aIc cI t8 9 T8), (oX3 x4 dr0 dr1), (aIc cI dr0 32 DR0), (aIc cI dr1 32 DR1), (oX8 g gi0 (nI np) g2 g3 g4 g5 g6 g7 g8 g9 g10 (nI nl) g12 g13 bi14 g15 g16 g17 gi18 g19 g20 g21 g22 g23 g24 g25 g26 g27 g28 gi29 gi30 (nI mv) (nI tt) g33 g34 g35 g36 g37 g38 g39 gi40 g41 g42 gi43 g44 g45), (aIc cI g2 8 B0), (aIc cI g3 8 B1), (aIc cI g4 8 B2), (aIc cI g5 8 B3), (aIc cI g6 8 B4), (aIc cI g7 8 B5), (aIc cI g8 8 B6), (aIc cI g9 8 B7), (aIc cI g10 64 G10), (aIc cI g12 10 B10), (aIc cI g13 10 B11), (aIc cI g15 8 B9), (aIc cI g16 32 G16), (aIc cI g17 32 DR1), (aIc cI g19 8 G19), (aIc cI g20 8 G20), (aIc cI g21 8 G21), (aIc cI g22 8 G22), (aIc cI g23 8 G23), (aIc cI g24 8 G24), (aIc cI g25 8 G25), (aIc cI g26 8 G26), (aIc cI g27 8 G27), (aIc cI g28 8 G28), (aIc cI g33 8 G33), (aIc cI g34 8 G34), (aIc cI g35 8 G35), (aIc cI g36 8 G36), (aJc cJ g37 8 G37), (aIc cI g38 8 G38), (aIc cI g39 8 G39), (aIc cI g41 9 G41), (aIc cI g42 192 G42), (aIc cI g44 8 G44), (aIc cI g45 8 G45), (aJc cJ o 1 OO)]) rfl (by decide +kernel) (by decide +kernel) (fun r1 u H locs hw2 hP hD hS => ?_)
  obtain ⟨z3, z4, z5, z6, z7, z8, z9, z10, z11, z12, z13, z14, z15, z16, z17, z18, z19, z20, z21, z22, z23, z24, z25, hz26, hz27, hz28, rfl⟩ := hw2
  refine lv_pop hx hb dL_law_760 rfl ?_
  refine lv_aload_n hx hb dL_law_761 rfl (lv_at hl 2 rfl) ?_
  refine lv_aload_n hx hb dL_law_762 rfl (lv_at hl 4 rfl) ?_
  refine lv_iload hx hb dL_law_763 (lv_at hl 0 rfl) ?_
  refine lv_iconst (v := 1) hx hb dL_law_765 (by decide) ?_
  refine lv_iadd hx hb dL_law_766 ?_
  refine k_topi (nI_add j 1) ?_
  refine va_sld hx hb hX hbl hbA hS (vp_in_nI (n := j + 1) (by omega) (by omega)) dL_law_767 ?_
  rw [hsx1]
  refine lv_aload_n hx hb dL_law_768 rfl (lv_at hl 4 rfl) ?_
  refine lv_iload hx hb dL_law_769 (lv_at hl 0 rfl) ?_
  refine lv_iconst (v := 2) hx hb dL_law_771 (by decide) ?_
  refine lv_iadd hx hb dL_law_772 ?_
  refine k_topi (nI_add j 2) ?_
  refine va_sld hx hb hX hbl hbA hS (vp_in_nI (n := j + 2) (by omega) (by omega)) dL_law_773 ?_
  rw [hsx2]
  refine k_i (va_runV (As := [.int a1, .int a2]) (rest := []) ⟨hx, hb, hml, hown, hts⟩ (m_X8_step l D cI cJ H.size g g2 g3 g4 g5 g6 g7 g8 g9 g10 g12 g13 g15 g16 g17 g19 g20 g21 g22 g23 g24 g25 g26 g27 g28 g33 g34 g35 g36 g37 g38 g39 g41 g42 g44 g45 np nl mv tt gi0 bi14 gi18 gi29 gi30 gi40 gi43 a1 a2 B0 B1 B2 B3 B4 B5 B6 G10 B10 B11 G19 G20 G21 G22 G23 G24 G25 G26 G27 G28 G33 G34 G35 G36 G37 li0 wo0 de0 ag0 hnp hnl hli hsu hliv hlib hwov hwob hdev hdeb hagv hagb hamt hLE hLO hLW hSH htt hmv) (cwV 2 hts hL_law_X8_step rfl rfl rfl (by decide +kernel) ⟨Nat.le_of_ble_eq_true rfl, Nat.le_of_ble_eq_true rfl⟩) (k_preV hE hP hD [16, 17, 18, 19, 20, 21, 22, 23, 25, 26, 27, 31, 32, 33, 34, 35, 36, 37, 38, 39, 40, 41, 42, 43, 44, 45] (by decide +kernel) rfl 16 rfl rfl) rfl rfl hl.1 rfl (lv_room (Nat.le_of_ble_eq_true rfl)) dL_law_774 ⟨by omega, by omega⟩) hP hD hS hA [16, 17, 18, 19, 20, 21, 22, 23, 25, 26, 27, 31, 32, 33, 34, 35, 36, 37, 38, 39, 40, 41, 42, 43, 44, 45] [0, 1, 2, 3, 4, 5, 6, 7, 8, 9, 10, 11, 12, 13, 14, 15, 24, 28, 29, 30, 46, 47, 48, 49, 50, 51, 52, 53, 54, 55, 56, 57, 58, 59, 60, 61, 62, 63, 64, 65, 66, 67, 68, 69, 70, 71, 72, 73, 74, 75, 76, 77, 78, 79, 80, 81, 82, 83] rfl (wr := [(aIc cI x5 8 X5), (aIc cI b7 8 B7), (aIc cI b9 8 B9), (oX5 x2 y0 y1), (aIc cI y0 8 Y0), (aIc cI y1 8 Y1), (oX1 x3 t0 t1 t2 t3 ti4 (nI pm) t6 ti7 t8), (aIc cI t0 8 T0), (aIc cI t1 9 T1), (aIc cI t2 9 T2), (aIc cI t3 9 T3), (aIc cI t6 8 T6), (aIc cI t8 9 T8), (oX3 x4 dr0 dr1), (aIc cI dr0 32 DR0), (aIc cI dr1 32 DR1), (aIc cI g9 8 B7), (aIc cI g15 8 B9), (aIc cI g16 32 G16), (aIc cI g17 32 DR1), (aIc cI g38 8 G38), (aIc cI g39 8 G39), (aIc cI g41 9 G41), (aIc cI g42 192 G42), (aIc cI g44 8 G44), (aIc cI g45 8 G45), (aJc cJ o 1 OO), (oX7 x x0 x1 x2 x3 x4 x5), (oX4 x1 x0 s1 s2 (nI z25) z23 s5 s6 s7 s8 s9 s10 s11 z18 z19), (oX0 x0 b0 b1 b2 b3 b4 b5 b6 b7 b8 b9 b10 b11 (nI np) (nI nl) bi14), (oX6 s1 w0 w1 w2 w3 w4 (nI z24) z20 (nI z21) w8), (oX2 s2 d0 d1 d2), (aIc cI b0 8 B0), (aIc cI b1 8 B1), (aIc cI b2 8 B2), (aIc cI b3 8 B3), (aIc cI b4 8 B4), (aIc cI b6 8 B6), (aIc cI b8 64 B8), (aIc cI b10 10 B10), (aIc cI b11 10 B11), (aIc cI s5 8 z3), (aIc cI s6 8 z4), (aIc cI s7 8 z5), (aIc cI s8 8 z6), (aIc cI s9 8 z7), (aIc cI s10 8 z8), (aIc cI s11 8 z9), (aIc cI w0 8 z22), (aIc cI w1 8 z10), (aIc cI w2 8 z11), (aIc cI w3 8 z12), (aIc cI w4 8 z13), (aIc cI w8 8 z14), (aIc cI d0 8 z15), (aIc cI d1 8 z16), (aJc cJ d2 8 z17), (aIc cI b5 8 B5)]) rfl (by decide +kernel) (by decide +kernel) (fun r29 u H locs hw30 hP hD hS => ?_)
  obtain ⟨z31, z32, z33, z34, z35, z36, z37, z38, z39, z40, z41, z42, z43, z44, z45, z46, z47, z48, z49, z50, z51, hz52, hz53, hz54, hz55, hz56, hz57, rfl⟩ := hw30
  refine lv_pop hx hb dL_law_777 rfl ?_
  refine lv_goto (tgt := 1593) hx hb dL_law_778 (by decide) ?_
  refine W.widen (k := k9 + 2) (n := n9 + 16) (by omega) (by omega) ?_
  exact kend z25 np nl z24 z21 pm z49 z50 z23 z18 z19 bi14 z20 ti4 ti7 z51 z48 z46 z47 gi40 gi43 X5 z3 z4 z5 z6 z7 z8 z9 B0 B1 B2 B3 B4 B5 B6 B7 B8 B9 B10 B11 z22 z10 z11 z12 z13 z14 z15 z16 Y0 Y1 T0 T1 T2 T3 T6 T8 DR0 DR1 G10 G16 z31 z32 z33 z34 z35 z36 z37 z38 z39 z40 z41 z42 z43 z44 G38 G39 G41 G42 G44 G45 z17 z45 OO _ _ _ dd hdd ⟨hnp, hnl, hz27, hz26, hz28, hpm, hz57, hz56, hli, hor, hBK, hsu, hamt, hz52, hz53, hz54, hz55, hr8, hr16, hto⟩ (k_sub hP [27, 0, 28, 41, 42, 43, 44, 45, 46, 47, 29, 32, 33, 34, 35, 36, 57, 37, 1, 38, 2, 39, 40, 30, 48, 49, 50, 51, 52, 53, 31, 54, 55, 56, 3, 4, 5, 6, 7, 8, 9, 10, 11, 12, 13, 14, 15, 58, 59, 60, 61, 62, 63, 64, 65, 16, 66, 67, 68, 17, 18, 19, 69, 70, 71, 72, 73, 74, 75, 76, 77, 78, 79, 80, 81, 82, 83, 20, 21, 22, 23, 24, 25, 26] rfl) (hD.sub [27, 0, 28, 41, 42, 43, 44, 45, 46, 47, 29, 32, 33, 34, 35, 36, 57, 37, 1, 38, 2, 39, 40, 30, 48, 49, 50, 51, 52, 53, 31, 54, 55, 56, 3, 4, 5, 6, 7, 8, 9, 10, 11, 12, 13, 14, 15, 58, 59, 60, 61, 62, 63, 64, 65, 16, 66, 67, 68, 17, 18, 19, 69, 70, 71, 72, 73, 74, 75, 76, 77, 78, 79, 80, 81, 82, 83, 20, 21, 22, 23, 24, 25, 26] (by decide +kernel) rfl) hS (lv_sub hl [0, 1, 2, 3, 4] rfl)
set_option maxHeartbeats 4000000 in
set_option maxRecDepth 100000 in
/-- level -/
theorem arm_15 {p : Program} {l : Launch} {e : Env} {s : State} {m : MethodId} {below : List Frame} {meth : Method} {c : Code} {b L tf : Nat} {xs : Nat → Int32} {D : va_G} {cI cJ : ClassId} {Q : State → Prop} (C : LC p l s m c b L tf xs D cI cJ) {j k9 n9 : Nat} (hj : j + 6 ≤ L) (hL : L ≤ 3072) (hk9 : k9 + 2 ≤ room_1.cells) (hn9 : n9 + 16 ≤ room_1.slots) {dd : Drawn} (hdd : s.drawn.sameBut dd lw_cs) {x x0 x1 x2 x3 x4 x5 s1 s2 s5 s6 s7 s8 s9 s10 s11 b0 b1 b2 b3 b4 b5 b6 b7 b8 b9 b10 b11 w0 w1 w2 w3 w4 w8 d0 d1 d2 y0 y1 t0 t1 t2 t3 t6 t8 dr0 dr1 g g2 g3 g4 g5 g6 g7 g8 g9 g10 g12 g13 g15 g16 g17 g19 g20 g21 g22 g23 g24 g25 g26 g27 g28 g33 g34 g35 g36 g37 g38 g39 g41 g42 g44 g45 o : Nat} {pn np nl wn lv pm mv tt : Nat} {si4 si12 si13 bi14 wi6 ti4 ti7 gi0 gi18 gi29 gi30 gi40 gi43 : Int32} {X5 S5 S6 S7 S8 S9 S10 S11 B0 B1 B2 B3 B4 B5 B6 B7 B8 B9 B10 B11 W0 W1 W2 W3 W4 W8 D0 D1 Y0 Y1 T0 T1 T2 T3 T6 T8 DR0 DR1 G10 G16 G19 G20 G21 G22 G23 G24 G25 G26 G27 G28 G33 G34 G35 G36 G38 G39 G41 G42 G44 G45 : Nat → Int32} {D2 G37 OO : Nat → Int64} (hI : LInv pn np nl wn lv pm mv tt B0 B1 B2 B3 B6 B8 B10 B11 T6 DR0 G10 G16 G19 G20 G25 G27) {H : Heap} {locs : List Loc} (hP : va_P D vwCl (LWS cI cJ x x0 x1 x2 x3 x4 x5 s1 s2 s5 s6 s7 s8 s9 s10 s11 b0 b1 b2 b3 b4 b5 b6 b7 b8 b9 b10 b11 w0 w1 w2 w3 w4 w8 d0 d1 d2 y0 y1 t0 t1 t2 t3 t6 t8 dr0 dr1 g g2 g3 g4 g5 g6 g7 g8 g9 g10 g12 g13 g15 g16 g17 g19 g20 g21 g22 g23 g24 g25 g26 g27 g28 g33 g34 g35 g36 g37 g38 g39 g41 g42 g44 g45 o pn np nl wn lv pm mv tt si4 si12 si13 bi14 wi6 ti4 ti7 gi0 gi18 gi29 gi30 gi40 gi43 X5 S5 S6 S7 S8 S9 S10 S11 B0 B1 B2 B3 B4 B5 B6 B7 B8 B9 B10 B11 W0 W1 W2 W3 W4 W8 D0 D1 Y0 Y1 T0 T1 T2 T3 T6 T8 DR0 DR1 G10 G16 G19 G20 G21 G22 G23 G24 G25 G26 G27 G28 G33 G34 G35 G36 G38 G39 G41 G42 G44 G45 D2 G37 OO) H) (hD : va_D (fun q : Nat => s.heap.size ≤ q) (LWS cI cJ x x0 x1 x2 x3 x4 x5 s1 s2 s5 s6 s7 s8 s9 s10 s11 b0 b1 b2 b3 b4 b5 b6 b7 b8 b9 b10 b11 w0 w1 w2 w3 w4 w8 d0 d1 d2 y0 y1 t0 t1 t2 t3 t6 t8 dr0 dr1 g g2 g3 g4 g5 g6 g7 g8 g9 g10 g12 g13 g15 g16 g17 g19 g20 g21 g22 g23 g24 g25 g26 g27 g28 g33 g34 g35 g36 g37 g38 g39 g41 g42 g44 g45 o pn np nl wn lv pm mv tt si4 si12 si13 bi14 wi6 ti4 ti7 gi0 gi18 gi29 gi30 gi40 gi43 X5 S5 S6 S7 S8 S9 S10 S11 B0 B1 B2 B3 B4 B5 B6 B7 B8 B9 B10 B11 W0 W1 W2 W3 W4 W8 D0 D1 Y0 Y1 T0 T1 T2 T3 T6 T8 DR0 DR1 G10 G16 G19 G20 G21 G22 G23 G24 G25 G26 G27 G28 G33 G34 G35 G36 G38 G39 G41 G42 G44 G45 D2 G37 OO)) (hS : va_S (fun q : Nat => s.heap.size ≤ q) s.heap H locs) {ls : Array Slot} (hl : lv_has ls 7 [(4, .int (nI j)), (3, .ref o), (2, .ref g), (1, .ref x), (0, .ref b)])
    (kend : ∀ (pn np nl wn lv pm mv tt : Nat) (si4 si12 si13 bi14 wi6 ti4 ti7 gi0 gi18 gi29 gi30 gi40 gi43 : Int32) (X5 S5 S6 S7 S8 S9 S10 S11 B0 B1 B2 B3 B4 B5 B6 B7 B8 B9 B10 B11 W0 W1 W2 W3 W4 W8 D0 D1 Y0 Y1 T0 T1 T2 T3 T6 T8 DR0 DR1 G10 G16 G19 G20 G21 G22 G23 G24 G25 G26 G27 G28 G33 G34 G35 G36 G38 G39 G41 G42 G44 G45 : Nat → Int32) (D2 G37 OO : Nat → Int64) (H1 : Heap) (locs1 : List Loc) (ls1 : Array Slot) (dw1 : Drawn), s.drawn.sameBut dw1 lw_cs → LInv pn np nl wn lv pm mv tt B0 B1 B2 B3 B6 B8 B10 B11 T6 DR0 G10 G16 G19 G20 G25 G27 → va_P D vwCl (LWS cI cJ x x0 x1 x2 x3 x4 x5 s1 s2 s5 s6 s7 s8 s9 s10 s11 b0 b1 b2 b3 b4 b5 b6 b7 b8 b9 b10 b11 w0 w1 w2 w3 w4 w8 d0 d1 d2 y0 y1 t0 t1 t2 t3 t6 t8 dr0 dr1 g g2 g3 g4 g5 g6 g7 g8 g9 g10 g12 g13 g15 g16 g17 g19 g20 g21 g22 g23 g24 g25 g26 g27 g28 g33 g34 g35 g36 g37 g38 g39 g41 g42 g44 g45 o pn np nl wn lv pm mv tt si4 si12 si13 bi14 wi6 ti4 ti7 gi0 gi18 gi29 gi30 gi40 gi43 X5 S5 S6 S7 S8 S9 S10 S11 B0 B1 B2 B3 B4 B5 B6 B7 B8 B9 B10 B11 W0 W1 W2 W3 W4 W8 D0 D1 Y0 Y1 T0 T1 T2 T3 T6 T8 DR0 DR1 G10 G16 G19 G20 G21 G22 G23 G24 G25 G26 G27 G28 G33 G34 G35 G36 G38 G39 G41 G42 G44 G45 D2 G37 OO) H1 → va_D (fun q : Nat => s.heap.size ≤ q) (LWS cI cJ x x0 x1 x2 x3 x4 x5 s1 s2 s5 s6 s7 s8 s9 s10 s11 b0 b1 b2 b3 b4 b5 b6 b7 b8 b9 b10 b11 w0 w1 w2 w3 w4 w8 d0 d1 d2 y0 y1 t0 t1 t2 t3 t6 t8 dr0 dr1 g g2 g3 g4 g5 g6 g7 g8 g9 g10 g12 g13 g15 g16 g17 g19 g20 g21 g22 g23 g24 g25 g26 g27 g28 g33 g34 g35 g36 g37 g38 g39 g41 g42 g44 g45 o pn np nl wn lv pm mv tt si4 si12 si13 bi14 wi6 ti4 ti7 gi0 gi18 gi29 gi30 gi40 gi43 X5 S5 S6 S7 S8 S9 S10 S11 B0 B1 B2 B3 B4 B5 B6 B7 B8 B9 B10 B11 W0 W1 W2 W3 W4 W8 D0 D1 Y0 Y1 T0 T1 T2 T3 T6 T8 DR0 DR1 G10 G16 G19 G20 G21 G22 G23 G24 G25 G26 G27 G28 G33 G34 G35 G36 G38 G39 G41 G42 G44 G45 D2 G37 OO) → va_S (fun q : Nat => s.heap.size ≤ q) s.heap H1 locs1 → lv_has ls1 7 [(4, .int (nI j)), (3, .ref o), (2, .ref g), (1, .ref x), (0, .ref b)] → W p l e room_1 (s.setDrawn dw1) m #[Value.ref b] below meth c H1 locs1 (k9 + 2) (n9 + 16) Q (F0 m 1593 ls1 [])) : W p l e room_1 (s.setDrawn dd) m #[Value.ref b] below meth c H locs k9 n9 Q (F0 m 781 ls []) := by
  obtain ⟨hx, hb, hml, hown, htsB, hE, hX, hbl, hXw, hZ, hl9⟩ := C
  have hXw0 := hXw
  have hA : ∀ q : Nat, s.heap.size ≤ q → (fun q : Nat => s.heap.size ≤ q) q := fun _ h => h
  have hbA : ¬ (fun q : Nat => s.heap.size ≤ q) b := Nat.not_le.mpr hbl
  obtain ⟨hnp, hnl, hwn, hlv, hpn, hpm, hmv, htt, hli, hor, hBK, hsu, hamt, hLE, hLO, hLW, hSH, hr8, hr16, hto⟩ := hI
  obtain ⟨li0, wo0, de0, ag0, hliv, hlib, hl1, hwov, hwob, hdev, hdeb, hagv, hagb⟩ := id hBK
  obtain ⟨a1, hsx1⟩ : ∃ y : Int32, xs (Int32.toNatClampNeg (nI (j + 1))) = y := ⟨_, rfl⟩
  obtain ⟨a2, hsx2⟩ : ∃ y : Int32, xs (Int32.toNatClampNeg (nI (j + 2))) = y := ⟨_, rfl⟩
  obtain ⟨a3, hsx3⟩ : ∃ y : Int32, xs (Int32.toNatClampNeg (nI (j + 3))) = y := ⟨_, rfl⟩
  obtain ⟨a4, hsx4⟩ : ∃ y : Int32, xs (Int32.toNatClampNeg (nI (j + 4))) = y := ⟨_, rfl⟩
  obtain ⟨a5, hsx5⟩ : ∃ y : Int32, xs (Int32.toNatClampNeg (nI (j + 5))) = y := ⟨_, rfl⟩
  have hts := dr_words htsB dd
  have hE : eK D cI cJ (s.setDrawn dd) := hE
  have hown : (s.setDrawn dd).vm.findClass RL = some m.cls := hown
  have hX : va_X b L xs (s.setDrawn dd) s.heap := hX
  have hXw : xw (fun q : Nat => s.heap.size ≤ q) (s.setDrawn dd) s.heap := xw.same (u := s) (U := s.setDrawn dd) rfl hXw0
  have hZ : fz tf (fun q : Nat => s.heap.size ≤ q) (s.setDrawn dd) s.heap := hZ
  refine lv_aload_n hx hb dL_law_781 rfl (lv_at hl 3 rfl) ?_
  refine lv_aload_n hx hb dL_law_782 rfl (lv_at hl 4 rfl) ?_
  refine lv_iload hx hb dL_law_783 (lv_at hl 0 rfl) ?_
  refine lv_iconst (v := 1) hx hb dL_law_785 (by decide) ?_
  refine lv_iadd hx hb dL_law_786 ?_
  refine k_topi (nI_add j 1) ?_
  refine va_sld hx hb hX hbl hbA hS (vp_in_nI (n := j + 1) (by omega) (by omega)) dL_law_787 ?_
  rw [hsx1]
  refine lv_aload_n hx hb dL_law_788 rfl (lv_at hl 4 rfl) ?_
  refine lv_iload hx hb dL_law_789 (lv_at hl 0 rfl) ?_
  refine lv_iconst (v := 2) hx hb dL_law_791 (by decide) ?_
  refine lv_iadd hx hb dL_law_792 ?_
  refine k_topi (nI_add j 2) ?_
  refine va_sld hx hb hX hbl hbA hS (vp_in_nI (n := j + 2) (by omega) (by omega)) dL_law_793 ?_
  rw [hsx2]
  refine k_i (va_runV (As := [.int a1, .int a2]) (rest := []) ⟨hx, hb, hml, hown, hts⟩ (m_X7_level l D cI cJ H.size x x0 x1 x2 x3 x4 x5 s1 s2 s5 s6 s7 s8 s9 s10 s11 b0 b1 b2 b3 b4 b5 b6 b7 b8 b9 b10 b11 w0 w1 w2 w3 w4 w8 d0 d1 d2 wn lv np nl pn si4 si12 si13 bi14 wi6 a1 a2 B0 B1 B2 B3 B4 B6 B8 B10 B11 S5 S6 S7 S8 S9 S10 S11 W0 W1 W2 W3 W4 W8 D0 D1 D2 B5 hwn hlv hli hnp hnl hpn) (cwV 2 hts hL_law_X7_level rfl rfl rfl (by decide +kernel) ⟨Nat.le_of_ble_eq_true rfl, Nat.le_of_ble_eq_true rfl⟩) (k_preV hE hP hD [0, 2, 10, 23, 30, 11, 12, 13, 14, 15, 17, 19, 21, 22, 3, 4, 5, 6, 7, 8, 9, 24, 25, 26, 27, 28, 29, 31, 32, 33, 16] (by decide +kernel) rfl 0 rfl rfl) rfl rfl hl.1 rfl (lv_room (Nat.le_of_ble_eq_true rfl)) dL_law_794 ⟨by omega, by omega⟩) hP hD hS hA [0, 2, 10, 23, 30, 11, 12, 13, 14, 15, 17, 19, 21, 22, 3, 4, 5, 6, 7, 8, 9, 24, 25, 26, 27, 28, 29, 31, 32, 33, 16] [1, 18, 20, 34, 35, 36, 37, 38, 39, 40, 41, 42, 43, 44, 45, 46, 47, 48, 49, 50, 51, 52, 53, 54, 55, 56, 57, 58, 59, 60, 61, 62, 63, 64, 65, 66, 67, 68, 69, 70, 71, 72, 73, 74, 75, 76, 77, 78, 79, 80, 81, 82, 83] rfl (wr := [(aIc cI x5 8 X5), (aIc cI b7 8 B7), (aIc cI b9 8 B9), (oX5 x2 y0 y1), (aIc cI y0 8 Y0), (aIc cI y1 8 Y1), (oX1 x3 t0 t1 t2 t3 ti4 (nI pm) t6 ti7 t8), (aIc cI t0 8 T0), (aIc cI t1 9 T1), (aIc cI t2 9 T2), (aIc cI t3 9 T3), (aIc cI t6 8 T6), (aIc cI t8 9 T8), (oX3 x4 dr0 dr1), (aIc cI dr0 32 DR0), (aIc cI dr1 32 DR1), (oX8 g gi0 (nI np) g2 g3 g4 g5 g6 g7 g8 g9 g10 (nI nl) g12 g13 bi14 g15 g16 g17 gi18 g19 g20 g21 g22 g23 g24 g25 g26 g27 g28 gi29 gi30 (nI mv) (nI tt) g33 g34 g35 g36 g37 g38 g39 gi40 g41 g42 gi43 g44 g45), (aIc cI g2 8 B0), (aIc cI g3 8 B1), (aIc cI g4 8 B2), (aIc cI g5 8 B3), (aIc cI g6 8 B4), (aIc cI g7 8 B5), (aIc cI g8 8 B6), (aIc cI g9 8 B7), (aIc cI g10 64 G10), (aIc cI g12 10 B10), (aIc cI g13 10 B11), (aIc cI g15 8 B9), (aIc cI g16 32 G16), (aIc cI g17 32 DR1), (aIc cI g19 8 G19), (aIc cI g20 8 G20), (aIc cI g21 8 G21), (aIc cI g22 8 G22), (aIc cI g23 8 G23), (aIc cI g24 8 G24), (aIc cI g25 8 G25), (aIc cI g26 8 G26), (aIc cI g27 8 G27), (aIc cI g28 8 G28), (aIc cI g33 8 G33), (aIc cI g34 8 G34), (aIc cI g35 8 G35), (aIc cI g36 8 G36), (aJc cJ g37 8 G37), (aIc cI g38 8 G38), (aIc cI g39 8 G39), (aIc cI g41 9 G41), (aIc cI g42 192 G42), (aIc cI g44 8 G44), (aIc cI g45 8 G45), (aJc cJ o 1 OO)]) rfl (by decide +kernel) (by decide +kernel) (fun r1 u H locs hw2 hP hD hS => ?_)
  obtain ⟨z3, z4, z5, z6, z7, z8, z9, z10, z11, z12, z13, z14, z15, z16, z17, z18, z19, z20, z21, z22, z23, z24, z25, hz26, hz27, hz28, rfl⟩ := hw2
  refine lv_pop hx hb dL_law_797 rfl ?_
  refine lv_aload_n hx hb dL_law_798 rfl (lv_at hl 2 rfl) ?_
  refine lv_aload_n hx hb dL_law_799 rfl (lv_at hl 4 rfl) ?_
  refine lv_iload hx hb dL_law_800 (lv_at hl 0 rfl) ?_
  refine lv_iconst (v := 1) hx hb dL_law_802 (by decide) ?_
  refine lv_iadd hx hb dL_law_803 ?_
  refine k_topi (nI_add j 1) ?_
  refine va_sld hx hb hX hbl hbA hS (vp_in_nI (n := j + 1) (by omega) (by omega)) dL_law_804 ?_
  rw [hsx1]
  refine lv_aload_n hx hb dL_law_805 rfl (lv_at hl 4 rfl) ?_
  refine lv_iload hx hb dL_law_806 (lv_at hl 0 rfl) ?_
  refine lv_iconst (v := 2) hx hb dL_law_808 (by decide) ?_
  refine lv_iadd hx hb dL_law_809 ?_
  refine k_topi (nI_add j 2) ?_
  refine va_sld hx hb hX hbl hbA hS (vp_in_nI (n := j + 2) (by omega) (by omega)) dL_law_810 ?_
  rw [hsx2]
  refine k_i (va_runV (As := [.int a1, .int a2]) (rest := []) ⟨hx, hb, hml, hown, hts⟩ (m_X8_level l D cI cJ H.size g g2 g3 g4 g5 g6 g7 g8 g9 g10 g12 g13 g15 g16 g17 g19 g20 g21 g22 g23 g24 g25 g26 g27 g28 g33 g34 g35 g36 g37 g38 g39 g41 g42 g44 g45 np nl mv tt gi0 bi14 gi18 gi29 gi30 gi40 gi43 a1 a2 B0 B1 B2 B3 B4 B5 B6 G10 B10 B11 G19 G20 G21 G22 G23 G24 G25 G26 G27 G28 G33 G34 G35 G36 G37 li0 wo0 de0 ag0 hnp hnl hli hsu hliv hlib hwov hwob hdev hdeb hagv hagb hamt hLE hLO hLW hSH htt hmv) (cwV 2 hts hL_law_X8_level rfl rfl rfl (by decide +kernel) ⟨Nat.le_of_ble_eq_true rfl, Nat.le_of_ble_eq_true rfl⟩) (k_preV hE hP hD [16, 17, 18, 19, 20, 21, 22, 23, 25, 26, 27, 31, 32, 33, 34, 35, 36, 37, 38, 39, 40, 41, 42, 43, 44, 45] (by decide +kernel) rfl 16 rfl rfl) rfl rfl hl.1 rfl (lv_room (Nat.le_of_ble_eq_true rfl)) dL_law_811 ⟨by omega, by omega⟩) hP hD hS hA [16, 17, 18, 19, 20, 21, 22, 23, 25, 26, 27, 31, 32, 33, 34, 35, 36, 37, 38, 39, 40, 41, 42, 43, 44, 45] [0, 1, 2, 3, 4, 5, 6, 7, 8, 9, 10, 11, 12, 13, 14, 15, 24, 28, 29, 30, 46, 47, 48, 49, 50, 51, 52, 53, 54, 55, 56, 57, 58, 59, 60, 61, 62, 63, 64, 65, 66, 67, 68, 69, 70, 71, 72, 73, 74, 75, 76, 77, 78, 79, 80, 81, 82, 83] rfl (wr := [(aIc cI x5 8 X5), (aIc cI b7 8 B7), (aIc cI b9 8 B9), (oX5 x2 y0 y1), (aIc cI y0 8 Y0), (aIc cI y1 8 Y1), (oX1 x3 t0 t1 t2 t3 ti4 (nI pm) t6 ti7 t8), (aIc cI t0 8 T0), (aIc cI t1 9 T1), (aIc cI t2 9 T2), (aIc cI t3 9 T3), (aIc cI t6 8 T6), (aIc cI t8 9 T8), (oX3 x4 dr0 dr1), (aIc cI dr0 32 DR0), (aIc cI dr1 32 DR1), (aIc cI g9 8 B7), (aIc cI g15 8 B9), (aIc cI g16 32 G16), (aIc cI g17 32 DR1), (aIc cI g38 8 G38), (aIc cI g39 8 G39), (aIc cI g41 9 G41), (aIc cI g42 192 G42), (aIc cI g44 8 G44), (aIc cI g45 8 G45), (aJc cJ o 1 OO), (oX7 x x0 x1 x2 x3 x4 x5), (oX4 x1 x0 s1 s2 (nI z25) z23 s5 s6 s7 s8 s9 s10 s11 z18 z19), (oX0 x0 b0 b1 b2 b3 b4 b5 b6 b7 b8 b9 b10 b11 (nI np) (nI nl) bi14), (oX6 s1 w0 w1 w2 w3 w4 (nI z24) z20 (nI z21) w8), (oX2 s2 d0 d1 d2), (aIc cI b0 8 B0), (aIc cI b1 8 B1), (aIc cI b2 8 B2), (aIc cI b3 8 B3), (aIc cI b4 8 B4), (aIc cI b6 8 B6), (aIc cI b8 64 B8), (aIc cI b10 10 B10), (aIc cI b11 10 B11), (aIc cI s5 8 z3), (aIc cI s6 8 z4), (aIc cI s7 8 z5), (aIc cI s8 8 z6), (aIc cI s9 8 z7), (aIc cI s10 8 z8), (aIc cI s11 8 z9), (aIc cI w0 8 z22), (aIc cI w1 8 z10), (aIc cI w2 8 z11), (aIc cI w3 8 z12), (aIc cI w4 8 z13), (aIc cI w8 8 z14), (aIc cI d0 8 z15), (aIc cI d1 8 z16), (aJc cJ d2 8 z17), (aIc cI b5 8 B5)]) rfl (by decide +kernel) (by decide +kernel) (fun r29 u H locs hw30 hP hD hS => ?_)
  obtain ⟨z31, z32, z33, z34, z35, z36, z37, z38, z39, z40, z41, z42, z43, z44, z45, z46, z47, z48, z49, z50, z51, hz52, hz53, hz54, hz55, hz56, hz57, rfl⟩ := hw30
  refine lv_pop hx hb dL_law_814 rfl ?_
  refine lv_goto (tgt := 1593) hx hb dL_law_815 (by decide) ?_
  refine W.widen (k := k9 + 2) (n := n9 + 16) (by omega) (by omega) ?_
  exact kend z25 np nl z24 z21 pm z49 z50 z23 z18 z19 bi14 z20 ti4 ti7 z51 z48 z46 z47 gi40 gi43 X5 z3 z4 z5 z6 z7 z8 z9 B0 B1 B2 B3 B4 B5 B6 B7 B8 B9 B10 B11 z22 z10 z11 z12 z13 z14 z15 z16 Y0 Y1 T0 T1 T2 T3 T6 T8 DR0 DR1 G10 G16 z31 z32 z33 z34 z35 z36 z37 z38 z39 z40 z41 z42 z43 z44 G38 G39 G41 G42 G44 G45 z17 z45 OO _ _ _ dd hdd ⟨hnp, hnl, hz27, hz26, hz28, hpm, hz57, hz56, hli, hor, hBK, hsu, hamt, hz52, hz53, hz54, hz55, hr8, hr16, hto⟩ (k_sub hP [27, 0, 28, 41, 42, 43, 44, 45, 46, 47, 29, 32, 33, 34, 35, 36, 57, 37, 1, 38, 2, 39, 40, 30, 48, 49, 50, 51, 52, 53, 31, 54, 55, 56, 3, 4, 5, 6, 7, 8, 9, 10, 11, 12, 13, 14, 15, 58, 59, 60, 61, 62, 63, 64, 65, 16, 66, 67, 68, 17, 18, 19, 69, 70, 71, 72, 73, 74, 75, 76, 77, 78, 79, 80, 81, 82, 83, 20, 21, 22, 23, 24, 25, 26] rfl) (hD.sub [27, 0, 28, 41, 42, 43, 44, 45, 46, 47, 29, 32, 33, 34, 35, 36, 57, 37, 1, 38, 2, 39, 40, 30, 48, 49, 50, 51, 52, 53, 31, 54, 55, 56, 3, 4, 5, 6, 7, 8, 9, 10, 11, 12, 13, 14, 15, 58, 59, 60, 61, 62, 63, 64, 65, 16, 66, 67, 68, 17, 18, 19, 69, 70, 71, 72, 73, 74, 75, 76, 77, 78, 79, 80, 81, 82, 83, 20, 21, 22, 23, 24, 25, 26] (by decide +kernel) rfl) hS (lv_sub hl [0, 1, 2, 3, 4] rfl)
set_option maxHeartbeats 4000000 in
set_option maxRecDepth 100000 in
/-- ring -/
theorem arm_16 {p : Program} {l : Launch} {e : Env} {s : State} {m : MethodId} {below : List Frame} {meth : Method} {c : Code} {b L tf : Nat} {xs : Nat → Int32} {D : va_G} {cI cJ : ClassId} {Q : State → Prop} (C : LC p l s m c b L tf xs D cI cJ) {j k9 n9 : Nat} (hj : j + 6 ≤ L) (hL : L ≤ 3072) (hk9 : k9 + 2 ≤ room_1.cells) (hn9 : n9 + 16 ≤ room_1.slots) {dd : Drawn} (hdd : s.drawn.sameBut dd lw_cs) {x x0 x1 x2 x3 x4 x5 s1 s2 s5 s6 s7 s8 s9 s10 s11 b0 b1 b2 b3 b4 b5 b6 b7 b8 b9 b10 b11 w0 w1 w2 w3 w4 w8 d0 d1 d2 y0 y1 t0 t1 t2 t3 t6 t8 dr0 dr1 g g2 g3 g4 g5 g6 g7 g8 g9 g10 g12 g13 g15 g16 g17 g19 g20 g21 g22 g23 g24 g25 g26 g27 g28 g33 g34 g35 g36 g37 g38 g39 g41 g42 g44 g45 o : Nat} {pn np nl wn lv pm mv tt : Nat} {si4 si12 si13 bi14 wi6 ti4 ti7 gi0 gi18 gi29 gi30 gi40 gi43 : Int32} {X5 S5 S6 S7 S8 S9 S10 S11 B0 B1 B2 B3 B4 B5 B6 B7 B8 B9 B10 B11 W0 W1 W2 W3 W4 W8 D0 D1 Y0 Y1 T0 T1 T2 T3 T6 T8 DR0 DR1 G10 G16 G19 G20 G21 G22 G23 G24 G25 G26 G27 G28 G33 G34 G35 G36 G38 G39 G41 G42 G44 G45 : Nat → Int32} {D2 G37 OO : Nat → Int64} (hI : LInv pn np nl wn lv pm mv tt B0 B1 B2 B3 B6 B8 B10 B11 T6 DR0 G10 G16 G19 G20 G25 G27) {H : Heap} {locs : List Loc} (hP : va_P D vwCl (LWS cI cJ x x0 x1 x2 x3 x4 x5 s1 s2 s5 s6 s7 s8 s9 s10 s11 b0 b1 b2 b3 b4 b5 b6 b7 b8 b9 b10 b11 w0 w1 w2 w3 w4 w8 d0 d1 d2 y0 y1 t0 t1 t2 t3 t6 t8 dr0 dr1 g g2 g3 g4 g5 g6 g7 g8 g9 g10 g12 g13 g15 g16 g17 g19 g20 g21 g22 g23 g24 g25 g26 g27 g28 g33 g34 g35 g36 g37 g38 g39 g41 g42 g44 g45 o pn np nl wn lv pm mv tt si4 si12 si13 bi14 wi6 ti4 ti7 gi0 gi18 gi29 gi30 gi40 gi43 X5 S5 S6 S7 S8 S9 S10 S11 B0 B1 B2 B3 B4 B5 B6 B7 B8 B9 B10 B11 W0 W1 W2 W3 W4 W8 D0 D1 Y0 Y1 T0 T1 T2 T3 T6 T8 DR0 DR1 G10 G16 G19 G20 G21 G22 G23 G24 G25 G26 G27 G28 G33 G34 G35 G36 G38 G39 G41 G42 G44 G45 D2 G37 OO) H) (hD : va_D (fun q : Nat => s.heap.size ≤ q) (LWS cI cJ x x0 x1 x2 x3 x4 x5 s1 s2 s5 s6 s7 s8 s9 s10 s11 b0 b1 b2 b3 b4 b5 b6 b7 b8 b9 b10 b11 w0 w1 w2 w3 w4 w8 d0 d1 d2 y0 y1 t0 t1 t2 t3 t6 t8 dr0 dr1 g g2 g3 g4 g5 g6 g7 g8 g9 g10 g12 g13 g15 g16 g17 g19 g20 g21 g22 g23 g24 g25 g26 g27 g28 g33 g34 g35 g36 g37 g38 g39 g41 g42 g44 g45 o pn np nl wn lv pm mv tt si4 si12 si13 bi14 wi6 ti4 ti7 gi0 gi18 gi29 gi30 gi40 gi43 X5 S5 S6 S7 S8 S9 S10 S11 B0 B1 B2 B3 B4 B5 B6 B7 B8 B9 B10 B11 W0 W1 W2 W3 W4 W8 D0 D1 Y0 Y1 T0 T1 T2 T3 T6 T8 DR0 DR1 G10 G16 G19 G20 G21 G22 G23 G24 G25 G26 G27 G28 G33 G34 G35 G36 G38 G39 G41 G42 G44 G45 D2 G37 OO)) (hS : va_S (fun q : Nat => s.heap.size ≤ q) s.heap H locs) {ls : Array Slot} (hl : lv_has ls 7 [(4, .int (nI j)), (3, .ref o), (2, .ref g), (1, .ref x), (0, .ref b)])
    (kend : ∀ (pn np nl wn lv pm mv tt : Nat) (si4 si12 si13 bi14 wi6 ti4 ti7 gi0 gi18 gi29 gi30 gi40 gi43 : Int32) (X5 S5 S6 S7 S8 S9 S10 S11 B0 B1 B2 B3 B4 B5 B6 B7 B8 B9 B10 B11 W0 W1 W2 W3 W4 W8 D0 D1 Y0 Y1 T0 T1 T2 T3 T6 T8 DR0 DR1 G10 G16 G19 G20 G21 G22 G23 G24 G25 G26 G27 G28 G33 G34 G35 G36 G38 G39 G41 G42 G44 G45 : Nat → Int32) (D2 G37 OO : Nat → Int64) (H1 : Heap) (locs1 : List Loc) (ls1 : Array Slot) (dw1 : Drawn), s.drawn.sameBut dw1 lw_cs → LInv pn np nl wn lv pm mv tt B0 B1 B2 B3 B6 B8 B10 B11 T6 DR0 G10 G16 G19 G20 G25 G27 → va_P D vwCl (LWS cI cJ x x0 x1 x2 x3 x4 x5 s1 s2 s5 s6 s7 s8 s9 s10 s11 b0 b1 b2 b3 b4 b5 b6 b7 b8 b9 b10 b11 w0 w1 w2 w3 w4 w8 d0 d1 d2 y0 y1 t0 t1 t2 t3 t6 t8 dr0 dr1 g g2 g3 g4 g5 g6 g7 g8 g9 g10 g12 g13 g15 g16 g17 g19 g20 g21 g22 g23 g24 g25 g26 g27 g28 g33 g34 g35 g36 g37 g38 g39 g41 g42 g44 g45 o pn np nl wn lv pm mv tt si4 si12 si13 bi14 wi6 ti4 ti7 gi0 gi18 gi29 gi30 gi40 gi43 X5 S5 S6 S7 S8 S9 S10 S11 B0 B1 B2 B3 B4 B5 B6 B7 B8 B9 B10 B11 W0 W1 W2 W3 W4 W8 D0 D1 Y0 Y1 T0 T1 T2 T3 T6 T8 DR0 DR1 G10 G16 G19 G20 G21 G22 G23 G24 G25 G26 G27 G28 G33 G34 G35 G36 G38 G39 G41 G42 G44 G45 D2 G37 OO) H1 → va_D (fun q : Nat => s.heap.size ≤ q) (LWS cI cJ x x0 x1 x2 x3 x4 x5 s1 s2 s5 s6 s7 s8 s9 s10 s11 b0 b1 b2 b3 b4 b5 b6 b7 b8 b9 b10 b11 w0 w1 w2 w3 w4 w8 d0 d1 d2 y0 y1 t0 t1 t2 t3 t6 t8 dr0 dr1 g g2 g3 g4 g5 g6 g7 g8 g9 g10 g12 g13 g15 g16 g17 g19 g20 g21 g22 g23 g24 g25 g26 g27 g28 g33 g34 g35 g36 g37 g38 g39 g41 g42 g44 g45 o pn np nl wn lv pm mv tt si4 si12 si13 bi14 wi6 ti4 ti7 gi0 gi18 gi29 gi30 gi40 gi43 X5 S5 S6 S7 S8 S9 S10 S11 B0 B1 B2 B3 B4 B5 B6 B7 B8 B9 B10 B11 W0 W1 W2 W3 W4 W8 D0 D1 Y0 Y1 T0 T1 T2 T3 T6 T8 DR0 DR1 G10 G16 G19 G20 G21 G22 G23 G24 G25 G26 G27 G28 G33 G34 G35 G36 G38 G39 G41 G42 G44 G45 D2 G37 OO) → va_S (fun q : Nat => s.heap.size ≤ q) s.heap H1 locs1 → lv_has ls1 7 [(4, .int (nI j)), (3, .ref o), (2, .ref g), (1, .ref x), (0, .ref b)] → W p l e room_1 (s.setDrawn dw1) m #[Value.ref b] below meth c H1 locs1 (k9 + 2) (n9 + 16) Q (F0 m 1593 ls1 [])) : W p l e room_1 (s.setDrawn dd) m #[Value.ref b] below meth c H locs k9 n9 Q (F0 m 818 ls []) := by
  obtain ⟨hx, hb, hml, hown, htsB, hE, hX, hbl, hXw, hZ, hl9⟩ := C
  have hXw0 := hXw
  have hA : ∀ q : Nat, s.heap.size ≤ q → (fun q : Nat => s.heap.size ≤ q) q := fun _ h => h
  have hbA : ¬ (fun q : Nat => s.heap.size ≤ q) b := Nat.not_le.mpr hbl
  obtain ⟨hnp, hnl, hwn, hlv, hpn, hpm, hmv, htt, hli, hor, hBK, hsu, hamt, hLE, hLO, hLW, hSH, hr8, hr16, hto⟩ := hI
  obtain ⟨li0, wo0, de0, ag0, hliv, hlib, hl1, hwov, hwob, hdev, hdeb, hagv, hagb⟩ := id hBK
  obtain ⟨tt0, rfl⟩ := every_nI si12
  obtain ⟨at0, rfl⟩ := every_nI si13
  obtain ⟨su0, hsux⟩ := pickn hsu
  have hsux : ∀ k, k < 64 → G10 k = nI (su0 k) ∧ su0 k ≤ 1000001 := hsux
  have hsbx : SUB B8 su0 := sub_of hsux hr8
  obtain ⟨lim0, hlimx⟩ := pickn hli
  have hlimx : ∀ k, k < 10 → B10 k = nI (lim0 k) ∧ lim0 k < 8 := hlimx
  obtain ⟨lam0, hlamx⟩ := pickn hamt
  have hlamx : ∀ k, k < 10 → B11 k = nI (lam0 k) ∧ lam0 k ≤ 1000000 := fun k hk => ⟨(hlamx k hk).1, Nat.le_of_lt_succ (hlamx k hk).2⟩
  obtain ⟨a1, hsx1⟩ : ∃ y : Int32, xs (Int32.toNatClampNeg (nI (j + 1))) = y := ⟨_, rfl⟩
  obtain ⟨a2, hsx2⟩ : ∃ y : Int32, xs (Int32.toNatClampNeg (nI (j + 2))) = y := ⟨_, rfl⟩
  obtain ⟨a3, hsx3⟩ : ∃ y : Int32, xs (Int32.toNatClampNeg (nI (j + 3))) = y := ⟨_, rfl⟩
  obtain ⟨a4, hsx4⟩ : ∃ y : Int32, xs (Int32.toNatClampNeg (nI (j + 4))) = y := ⟨_, rfl⟩
  obtain ⟨a5, hsx5⟩ : ∃ y : Int32, xs (Int32.toNatClampNeg (nI (j + 5))) = y := ⟨_, rfl⟩
  have hts := dr_words htsB dd
  have hE : eK D cI cJ (s.setDrawn dd) := hE
  have hown : (s.setDrawn dd).vm.findClass RL = some m.cls := hown
  have hX : va_X b L xs (s.setDrawn dd) s.heap := hX
  have hXw : xw (fun q : Nat => s.heap.size ≤ q) (s.setDrawn dd) s.heap := xw.same (u := s) (U := s.setDrawn dd) rfl hXw0
  have hZ : fz tf (fun q : Nat => s.heap.size ≤ q) (s.setDrawn dd) s.heap := hZ
  refine lv_aload_n hx hb dL_law_818 rfl (lv_at hl 3 rfl) ?_
  refine lv_aload_n hx hb dL_law_819 rfl (lv_at hl 4 rfl) ?_
  refine lv_iload hx hb dL_law_820 (lv_at hl 0 rfl) ?_
  refine lv_iconst (v := 1) hx hb dL_law_822 (by decide) ?_
  refine lv_iadd hx hb dL_law_823 ?_
  refine k_topi (nI_add j 1) ?_
  refine va_sld hx hb hX hbl hbA hS (vp_in_nI (n := j + 1) (by omega) (by omega)) dL_law_824 ?_
  rw [hsx1]
  refine lv_aload_n hx hb dL_law_825 rfl (lv_at hl 4 rfl) ?_
  refine lv_iload hx hb dL_law_826 (lv_at hl 0 rfl) ?_
  refine lv_iconst (v := 2) hx hb dL_law_828 (by decide) ?_
  refine lv_iadd hx hb dL_law_829 ?_
  refine k_topi (nI_add j 2) ?_
  refine va_sld hx hb hX hbl hbA hS (vp_in_nI (n := j + 2) (by omega) (by omega)) dL_law_830 ?_
  rw [hsx2]
  refine k_i (va_runV (As := [.int a1, .int a2]) (rest := []) ⟨hx, hb, hml, hown, hts⟩ (e_X7_ring l D cI cJ H.size x x0 x1 x2 x3 x4 x5 s1 s2 s5 s6 s7 s8 s9 s10 s11 b0 b1 b2 b3 b4 b5 b6 b7 b8 b9 b10 b11 w0 w1 w2 w3 w4 w8 d0 d1 d2 wn lv np nl pn tt0 at0 si4 bi14 wi6 a1 a2 B0 B1 B2 B3 B4 B6 B8 B10 B11 S5 S6 S7 S8 S9 S10 S11 W0 W1 W2 W3 W4 W8 D0 D1 D2 B5 li0 wo0 de0 su0 ag0 lim0 lam0 hnp hnl hwn hlv hliv hlib hwov hwob hdev hdeb hsbx hlimx hlamx hagv hagb hto hpn) (cwV 2 hts hL_law_X7_ring rfl rfl rfl (by decide +kernel) ⟨Nat.le_of_ble_eq_true rfl, Nat.le_of_ble_eq_true rfl⟩) (k_preV hE hP hD [0, 2, 10, 23, 30, 11, 12, 13, 14, 15, 17, 19, 21, 22, 3, 4, 5, 6, 7, 8, 9, 24, 25, 26, 27, 28, 29, 31, 32, 33, 16] (by decide +kernel) rfl 0 rfl rfl) rfl rfl hl.1 rfl (lv_room (Nat.le_of_ble_eq_true rfl)) dL_law_831 ⟨by omega, by omega⟩) hP hD hS hA [0, 2, 10, 23, 30, 11, 12, 13, 14, 15, 17, 19, 21, 22, 3, 4, 5, 6, 7, 8, 9, 24, 25, 26, 27, 28, 29, 31, 32, 33, 16] [1, 18, 20, 34, 35, 36, 37, 38, 39, 40, 41, 42, 43, 44, 45, 46, 47, 48, 49, 50, 51, 52, 53, 54, 55, 56, 57, 58, 59, 60, 61, 62, 63, 64, 65, 66, 67, 68, 69, 70, 71, 72, 73, 74, 75, 76, 77, 78, 79, 80, 81, 82, 83] rfl (wr := [(aIc cI x5 8 X5), (aIc cI b7 8 B7), (aIc cI b9 8 B9), (oX5 x2 y0 y1), (aIc cI y0 8 Y0), (aIc cI y1 8 Y1), (oX1 x3 t0 t1 t2 t3 ti4 (nI pm) t6 ti7 t8), (aIc cI t0 8 T0), (aIc cI t1 9 T1), (aIc cI t2 9 T2), (aIc cI t3 9 T3), (aIc cI t6 8 T6), (aIc cI t8 9 T8), (oX3 x4 dr0 dr1), (aIc cI dr0 32 DR0), (aIc cI dr1 32 DR1), (oX8 g gi0 (nI np) g2 g3 g4 g5 g6 g7 g8 g9 g10 (nI nl) g12 g13 bi14 g15 g16 g17 gi18 g19 g20 g21 g22 g23 g24 g25 g26 g27 g28 gi29 gi30 (nI mv) (nI tt) g33 g34 g35 g36 g37 g38 g39 gi40 g41 g42 gi43 g44 g45), (aIc cI g2 8 B0), (aIc cI g3 8 B1), (aIc cI g4 8 B2), (aIc cI g5 8 B3), (aIc cI g6 8 B4), (aIc cI g7 8 B5), (aIc cI g8 8 B6), (aIc cI g9 8 B7), (aIc cI g10 64 G10), (aIc cI g12 10 B10), (aIc cI g13 10 B11), (aIc cI g15 8 B9), (aIc cI g16 32 G16), (aIc cI g17 32 DR1), (aIc cI g19 8 G19), (aIc cI g20 8 G20), (aIc cI g21 8 G21), (aIc cI g22 8 G22), (aIc cI g23 8 G23), (aIc cI g24 8 G24), (aIc cI g25 8 G25), (aIc cI g26 8 G26), (aIc cI g27 8 G27), (aIc cI g28 8 G28), (aIc cI g33 8 G33), (aIc cI g34 8 G34), (aIc cI g35 8 G35), (aIc cI g36 8 G36), (aJc cJ g37 8 G37), (aIc cI g38 8 G38), (aIc cI g39 8 G39), (aIc cI g41 9 G41), (aIc cI g42 192 G42), (aIc cI g44 8 G44), (aIc cI g45 8 G45), (aJc cJ o 1 OO)]) rfl (by decide +kernel) (by decide +kernel) (fun r1 u H locs hw2 hP hD hS => ?_)
  obtain ⟨z3, z4, z5, z6, z7, z8, z9, z10, z11, z12, z13, z14, z15, z16, z17, z18, z19, z20, z21, z22, z23, z24, z25, hz26, hz27, hz28, rfl, rfl⟩ := hw2
  refine lv_aload_n hx hb dL_law_834 rfl (lv_at hl 2 rfl) ?_
  refine lv_aload_n hx hb dL_law_835 rfl (lv_at hl 4 rfl) ?_
  refine lv_iload hx hb dL_law_836 (lv_at hl 0 rfl) ?_
  refine lv_iconst (v := 1) hx hb dL_law_838 (by decide) ?_
  refine lv_iadd hx hb dL_law_839 ?_
  refine k_topi (nI_add j 1) ?_
  refine va_sld hx hb hX hbl hbA hS (vp_in_nI (n := j + 1) (by omega) (by omega)) dL_law_840 ?_
  rw [hsx1]
  refine lv_aload_n hx hb dL_law_841 rfl (lv_at hl 4 rfl) ?_
  refine lv_iload hx hb dL_law_842 (lv_at hl 0 rfl) ?_
  refine lv_iconst (v := 2) hx hb dL_law_844 (by decide) ?_
  refine lv_iadd hx hb dL_law_845 ?_
  refine k_topi (nI_add j 2) ?_
  refine va_sld hx hb hX hbl hbA hS (vp_in_nI (n := j + 2) (by omega) (by omega)) dL_law_846 ?_
  rw [hsx2]
  refine k_i (va_runV (As := [.int a1, .int a2]) (rest := [.int (OFL nl a1 (RAT (RIN (clo (YI B5 B6 (INL li0 wo0 de0 su0 B4 B5 B6 bi14 (nI (2 ^ np - 1)) ag0 lim0 lam0 (Int32.toNatClampNeg a1))) 8)) a2 8))]) ⟨hx, hb, hml, hown, hts⟩ (e_X8_ring l D cI cJ H.size g g2 g3 g4 g5 g6 g7 g8 g9 g10 g12 g13 g15 g16 g17 g19 g20 g21 g22 g23 g24 g25 g26 g27 g28 g33 g34 g35 g36 g37 g38 g39 g41 g42 g44 g45 np nl mv tt gi0 bi14 gi18 gi29 gi30 gi40 gi43 a1 a2 B0 B1 B2 B3 B4 B5 B6 G10 B10 B11 G19 G20 G21 G22 G23 G24 G25 G26 G27 G28 G33 G34 G35 G36 G37 li0 wo0 de0 ag0 su0 lim0 lam0 hnp hnl hLE hLO hLW hSH htt hmv hlimx hsux hliv hlib hwov hwob hdev hdeb hlamx hto hagv hagb) (cwV 2 hts hL_law_X8_ring rfl rfl rfl (by decide +kernel) ⟨Nat.le_of_ble_eq_true rfl, Nat.le_of_ble_eq_true rfl⟩) (k_preV hE hP hD [16, 17, 18, 19, 20, 21, 22, 23, 25, 26, 27, 31, 32, 33, 34, 35, 36, 37, 38, 39, 40, 41, 42, 43, 44, 45] (by decide +kernel) rfl 16 rfl rfl) rfl rfl hl.1 rfl (lv_room (Nat.le_of_ble_eq_true rfl)) dL_law_847 ⟨by omega, by omega⟩) hP hD hS hA [16, 17, 18, 19, 20, 21, 22, 23, 25, 26, 27, 31, 32, 33, 34, 35, 36, 37, 38, 39, 40, 41, 42, 43, 44, 45] [0, 1, 2, 3, 4, 5, 6, 7, 8, 9, 10, 11, 12, 13, 14, 15, 24, 28, 29, 30, 46, 47, 48, 49, 50, 51, 52, 53, 54, 55, 56, 57, 58, 59, 60, 61, 62, 63, 64, 65, 66, 67, 68, 69, 70, 71, 72, 73, 74, 75, 76, 77, 78, 79, 80, 81, 82, 83] rfl (wr := [(aIc cI x5 8 X5), (aIc cI b7 8 B7), (aIc cI b9 8 B9), (oX5 x2 y0 y1), (aIc cI y0 8 Y0), (aIc cI y1 8 Y1), (oX1 x3 t0 t1 t2 t3 ti4 (nI pm) t6 ti7 t8), (aIc cI t0 8 T0), (aIc cI t1 9 T1), (aIc cI t2 9 T2), (aIc cI t3 9 T3), (aIc cI t6 8 T6), (aIc cI t8 9 T8), (oX3 x4 dr0 dr1), (aIc cI dr0 32 DR0), (aIc cI dr1 32 DR1), (aIc cI g9 8 B7), (aIc cI g15 8 B9), (aIc cI g16 32 G16), (aIc cI g17 32 DR1), (aIc cI g38 8 G38), (aIc cI g39 8 G39), (aIc cI g41 9 G41), (aIc cI g42 192 G42), (aIc cI g44 8 G44), (aIc cI g45 8 G45), (aJc cJ o 1 OO), (oX7 x x0 x1 x2 x3 x4 x5), (oX4 x1 x0 s1 s2 (nI z25) z24 s5 s6 s7 s8 s9 s10 s11 (nI z18) (nI z19)), (oX0 x0 b0 b1 b2 b3 b4 b5 b6 b7 b8 b9 b10 b11 (nI np) (nI nl) bi14), (oX6 s1 w0 w1 w2 w3 w4 (nI z22) z20 (nI z21) w8), (oX2 s2 d0 d1 d2), (aIc cI b0 8 B0), (aIc cI b1 8 B1), (aIc cI b2 8 B2), (aIc cI b3 8 B3), (aIc cI b4 8 B4), (aIc cI b6 8 B6), (aIc cI b8 64 B8), (aIc cI b10 10 B10), (aIc cI b11 10 B11), (aIc cI s5 8 z3), (aIc cI s6 8 z4), (aIc cI s7 8 z5), (aIc cI s8 8 z6), (aIc cI s9 8 z7), (aIc cI s10 8 z8), (aIc cI s11 8 z9), (aIc cI w0 8 z23), (aIc cI w1 8 z10), (aIc cI w2 8 z11), (aIc cI w3 8 z12), (aIc cI w4 8 z13), (aIc cI w8 8 z14), (aIc cI d0 8 z15), (aIc cI d1 8 z16), (aJc cJ d2 8 z17), (aIc cI b5 8 B5)]) rfl (by decide +kernel) (by decide +kernel) (fun r29 u H locs hw30 hP hD hS => ?_)
  obtain ⟨z31, z32, z33, z34, z35, z36, z37, z38, z39, z40, z41, z42, z43, z44, z45, z46, z47, z48, z49, z50, z51, hz52, hz53, hz54, hz55, hz56, hz57, rfl, rfl⟩ := hw30
  refine lv_icmp_eq (tgt := 1593) hx hb dL_law_850 (by decide) (fun _ => ?_) (fun c58 => absurd rfl c58)
  refine W.widen (k := k9 + 2) (n := n9 + 16) (by omega) (by omega) ?_
  exact kend z25 np nl z22 z21 pm z49 z50 z24 (nI z18) (nI z19) bi14 z20 ti4 ti7 z51 z48 z46 z47 gi40 gi43 X5 z3 z4 z5 z6 z7 z8 z9 B0 B1 B2 B3 B4 B5 B6 B7 B8 B9 B10 B11 z23 z10 z11 z12 z13 z14 z15 z16 Y0 Y1 T0 T1 T2 T3 T6 T8 DR0 DR1 G10 G16 z31 z32 z33 z34 z35 z36 z37 z38 z39 z40 z41 z42 z43 z44 G38 G39 G41 G42 G44 G45 z17 z45 OO _ _ _ dd hdd ⟨hnp, hnl, hz27, hz26, hz28, hpm, hz57, hz56, hli, hor, hBK, hsu, hamt, hz52, hz53, hz54, hz55, hr8, hr16, hto⟩ (k_sub hP [27, 0, 28, 41, 42, 43, 44, 45, 46, 47, 29, 32, 33, 34, 35, 36, 57, 37, 1, 38, 2, 39, 40, 30, 48, 49, 50, 51, 52, 53, 31, 54, 55, 56, 3, 4, 5, 6, 7, 8, 9, 10, 11, 12, 13, 14, 15, 58, 59, 60, 61, 62, 63, 64, 65, 16, 66, 67, 68, 17, 18, 19, 69, 70, 71, 72, 73, 74, 75, 76, 77, 78, 79, 80, 81, 82, 83, 20, 21, 22, 23, 24, 25, 26] rfl) (hD.sub [27, 0, 28, 41, 42, 43, 44, 45, 46, 47, 29, 32, 33, 34, 35, 36, 57, 37, 1, 38, 2, 39, 40, 30, 48, 49, 50, 51, 52, 53, 31, 54, 55, 56, 3, 4, 5, 6, 7, 8, 9, 10, 11, 12, 13, 14, 15, 58, 59, 60, 61, 62, 63, 64, 65, 16, 66, 67, 68, 17, 18, 19, 69, 70, 71, 72, 73, 74, 75, 76, 77, 78, 79, 80, 81, 82, 83, 20, 21, 22, 23, 24, 25, 26] (by decide +kernel) rfl) hS (lv_sub hl [0, 1, 2, 3, 4] rfl)
set_option maxHeartbeats 4000000 in
set_option maxRecDepth 100000 in
/-- way -/
theorem arm_17 {p : Program} {l : Launch} {e : Env} {s : State} {m : MethodId} {below : List Frame} {meth : Method} {c : Code} {b L tf : Nat} {xs : Nat → Int32} {D : va_G} {cI cJ : ClassId} {Q : State → Prop} (C : LC p l s m c b L tf xs D cI cJ) {j k9 n9 : Nat} (hj : j + 6 ≤ L) (hL : L ≤ 3072) (hk9 : k9 + 2 ≤ room_1.cells) (hn9 : n9 + 16 ≤ room_1.slots) {dd : Drawn} (hdd : s.drawn.sameBut dd lw_cs) {x x0 x1 x2 x3 x4 x5 s1 s2 s5 s6 s7 s8 s9 s10 s11 b0 b1 b2 b3 b4 b5 b6 b7 b8 b9 b10 b11 w0 w1 w2 w3 w4 w8 d0 d1 d2 y0 y1 t0 t1 t2 t3 t6 t8 dr0 dr1 g g2 g3 g4 g5 g6 g7 g8 g9 g10 g12 g13 g15 g16 g17 g19 g20 g21 g22 g23 g24 g25 g26 g27 g28 g33 g34 g35 g36 g37 g38 g39 g41 g42 g44 g45 o : Nat} {pn np nl wn lv pm mv tt : Nat} {si4 si12 si13 bi14 wi6 ti4 ti7 gi0 gi18 gi29 gi30 gi40 gi43 : Int32} {X5 S5 S6 S7 S8 S9 S10 S11 B0 B1 B2 B3 B4 B5 B6 B7 B8 B9 B10 B11 W0 W1 W2 W3 W4 W8 D0 D1 Y0 Y1 T0 T1 T2 T3 T6 T8 DR0 DR1 G10 G16 G19 G20 G21 G22 G23 G24 G25 G26 G27 G28 G33 G34 G35 G36 G38 G39 G41 G42 G44 G45 : Nat → Int32} {D2 G37 OO : Nat → Int64} (hI : LInv pn np nl wn lv pm mv tt B0 B1 B2 B3 B6 B8 B10 B11 T6 DR0 G10 G16 G19 G20 G25 G27) {H : Heap} {locs : List Loc} (hP : va_P D vwCl (LWS cI cJ x x0 x1 x2 x3 x4 x5 s1 s2 s5 s6 s7 s8 s9 s10 s11 b0 b1 b2 b3 b4 b5 b6 b7 b8 b9 b10 b11 w0 w1 w2 w3 w4 w8 d0 d1 d2 y0 y1 t0 t1 t2 t3 t6 t8 dr0 dr1 g g2 g3 g4 g5 g6 g7 g8 g9 g10 g12 g13 g15 g16 g17 g19 g20 g21 g22 g23 g24 g25 g26 g27 g28 g33 g34 g35 g36 g37 g38 g39 g41 g42 g44 g45 o pn np nl wn lv pm mv tt si4 si12 si13 bi14 wi6 ti4 ti7 gi0 gi18 gi29 gi30 gi40 gi43 X5 S5 S6 S7 S8 S9 S10 S11 B0 B1 B2 B3 B4 B5 B6 B7 B8 B9 B10 B11 W0 W1 W2 W3 W4 W8 D0 D1 Y0 Y1 T0 T1 T2 T3 T6 T8 DR0 DR1 G10 G16 G19 G20 G21 G22 G23 G24 G25 G26 G27 G28 G33 G34 G35 G36 G38 G39 G41 G42 G44 G45 D2 G37 OO) H) (hD : va_D (fun q : Nat => s.heap.size ≤ q) (LWS cI cJ x x0 x1 x2 x3 x4 x5 s1 s2 s5 s6 s7 s8 s9 s10 s11 b0 b1 b2 b3 b4 b5 b6 b7 b8 b9 b10 b11 w0 w1 w2 w3 w4 w8 d0 d1 d2 y0 y1 t0 t1 t2 t3 t6 t8 dr0 dr1 g g2 g3 g4 g5 g6 g7 g8 g9 g10 g12 g13 g15 g16 g17 g19 g20 g21 g22 g23 g24 g25 g26 g27 g28 g33 g34 g35 g36 g37 g38 g39 g41 g42 g44 g45 o pn np nl wn lv pm mv tt si4 si12 si13 bi14 wi6 ti4 ti7 gi0 gi18 gi29 gi30 gi40 gi43 X5 S5 S6 S7 S8 S9 S10 S11 B0 B1 B2 B3 B4 B5 B6 B7 B8 B9 B10 B11 W0 W1 W2 W3 W4 W8 D0 D1 Y0 Y1 T0 T1 T2 T3 T6 T8 DR0 DR1 G10 G16 G19 G20 G21 G22 G23 G24 G25 G26 G27 G28 G33 G34 G35 G36 G38 G39 G41 G42 G44 G45 D2 G37 OO)) (hS : va_S (fun q : Nat => s.heap.size ≤ q) s.heap H locs) {ls : Array Slot} (hl : lv_has ls 7 [(4, .int (nI j)), (3, .ref o), (2, .ref g), (1, .ref x), (0, .ref b)])
    (kend : ∀ (pn np nl wn lv pm mv tt : Nat) (si4 si12 si13 bi14 wi6 ti4 ti7 gi0 gi18 gi29 gi30 gi40 gi43 : Int32) (X5 S5 S6 S7 S8 S9 S10 S11 B0 B1 B2 B3 B4 B5 B6 B7 B8 B9 B10 B11 W0 W1 W2 W3 W4 W8 D0 D1 Y0 Y1 T0 T1 T2 T3 T6 T8 DR0 DR1 G10 G16 G19 G20 G21 G22 G23 G24 G25 G26 G27 G28 G33 G34 G35 G36 G38 G39 G41 G42 G44 G45 : Nat → Int32) (D2 G37 OO : Nat → Int64) (H1 : Heap) (locs1 : List Loc) (ls1 : Array Slot) (dw1 : Drawn), s.drawn.sameBut dw1 lw_cs → LInv pn np nl wn lv pm mv tt B0 B1 B2 B3 B6 B8 B10 B11 T6 DR0 G10 G16 G19 G20 G25 G27 → va_P D vwCl (LWS cI cJ x x0 x1 x2 x3 x4 x5 s1 s2 s5 s6 s7 s8 s9 s10 s11 b0 b1 b2 b3 b4 b5 b6 b7 b8 b9 b10 b11 w0 w1 w2 w3 w4 w8 d0 d1 d2 y0 y1 t0 t1 t2 t3 t6 t8 dr0 dr1 g g2 g3 g4 g5 g6 g7 g8 g9 g10 g12 g13 g15 g16 g17 g19 g20 g21 g22 g23 g24 g25 g26 g27 g28 g33 g34 g35 g36 g37 g38 g39 g41 g42 g44 g45 o pn np nl wn lv pm mv tt si4 si12 si13 bi14 wi6 ti4 ti7 gi0 gi18 gi29 gi30 gi40 gi43 X5 S5 S6 S7 S8 S9 S10 S11 B0 B1 B2 B3 B4 B5 B6 B7 B8 B9 B10 B11 W0 W1 W2 W3 W4 W8 D0 D1 Y0 Y1 T0 T1 T2 T3 T6 T8 DR0 DR1 G10 G16 G19 G20 G21 G22 G23 G24 G25 G26 G27 G28 G33 G34 G35 G36 G38 G39 G41 G42 G44 G45 D2 G37 OO) H1 → va_D (fun q : Nat => s.heap.size ≤ q) (LWS cI cJ x x0 x1 x2 x3 x4 x5 s1 s2 s5 s6 s7 s8 s9 s10 s11 b0 b1 b2 b3 b4 b5 b6 b7 b8 b9 b10 b11 w0 w1 w2 w3 w4 w8 d0 d1 d2 y0 y1 t0 t1 t2 t3 t6 t8 dr0 dr1 g g2 g3 g4 g5 g6 g7 g8 g9 g10 g12 g13 g15 g16 g17 g19 g20 g21 g22 g23 g24 g25 g26 g27 g28 g33 g34 g35 g36 g37 g38 g39 g41 g42 g44 g45 o pn np nl wn lv pm mv tt si4 si12 si13 bi14 wi6 ti4 ti7 gi0 gi18 gi29 gi30 gi40 gi43 X5 S5 S6 S7 S8 S9 S10 S11 B0 B1 B2 B3 B4 B5 B6 B7 B8 B9 B10 B11 W0 W1 W2 W3 W4 W8 D0 D1 Y0 Y1 T0 T1 T2 T3 T6 T8 DR0 DR1 G10 G16 G19 G20 G21 G22 G23 G24 G25 G26 G27 G28 G33 G34 G35 G36 G38 G39 G41 G42 G44 G45 D2 G37 OO) → va_S (fun q : Nat => s.heap.size ≤ q) s.heap H1 locs1 → lv_has ls1 7 [(4, .int (nI j)), (3, .ref o), (2, .ref g), (1, .ref x), (0, .ref b)] → W p l e room_1 (s.setDrawn dw1) m #[Value.ref b] below meth c H1 locs1 (k9 + 2) (n9 + 16) Q (F0 m 1593 ls1 [])) : W p l e room_1 (s.setDrawn dd) m #[Value.ref b] below meth c H locs k9 n9 Q (F0 m 855 ls []) := by
  obtain ⟨hx, hb, hml, hown, htsB, hE, hX, hbl, hXw, hZ, hl9⟩ := C
  have hXw0 := hXw
  have hA : ∀ q : Nat, s.heap.size ≤ q → (fun q : Nat => s.heap.size ≤ q) q := fun _ h => h
  have hbA : ¬ (fun q : Nat => s.heap.size ≤ q) b := Nat.not_le.mpr hbl
  obtain ⟨hnp, hnl, hwn, hlv, hpn, hpm, hmv, htt, hli, hor, hBK, hsu, hamt, hLE, hLO, hLW, hSH, hr8, hr16, hto⟩ := hI
  obtain ⟨li0, wo0, de0, ag0, hliv, hlib, hl1, hwov, hwob, hdev, hdeb, hagv, hagb⟩ := id hBK
  obtain ⟨a1, hsx1⟩ : ∃ y : Int32, xs (Int32.toNatClampNeg (nI (j + 1))) = y := ⟨_, rfl⟩
  obtain ⟨a2, hsx2⟩ : ∃ y : Int32, xs (Int32.toNatClampNeg (nI (j + 2))) = y := ⟨_, rfl⟩
  obtain ⟨a3, hsx3⟩ : ∃ y : Int32, xs (Int32.toNatClampNeg (nI (j + 3))) = y := ⟨_, rfl⟩
  obtain ⟨a4, hsx4⟩ : ∃ y : Int32, xs (Int32.toNatClampNeg (nI (j + 4))) = y := ⟨_, rfl⟩
  obtain ⟨a5, hsx5⟩ : ∃ y : Int32, xs (Int32.toNatClampNeg (nI (j + 5))) = y := ⟨_, rfl⟩
  have hts := dr_words htsB dd
  have hE : eK D cI cJ (s.setDrawn dd) := hE
  have hown : (s.setDrawn dd).vm.findClass RL = some m.cls := hown
  have hX : va_X b L xs (s.setDrawn dd) s.heap := hX
  have hXw : xw (fun q : Nat => s.heap.size ≤ q) (s.setDrawn dd) s.heap := xw.same (u := s) (U := s.setDrawn dd) rfl hXw0
  have hZ : fz tf (fun q : Nat => s.heap.size ≤ q) (s.setDrawn dd) s.heap := hZ
  refine lv_aload_n hx hb dL_law_855 rfl (lv_at hl 3 rfl) ?_
  refine lv_aload_n hx hb dL_law_856 rfl (lv_at hl 4 rfl) ?_
  refine lv_iload hx hb dL_law_857 (lv_at hl 0 rfl) ?_
  refine lv_iconst (v := 1) hx hb dL_law_859 (by decide) ?_
  refine lv_iadd hx hb dL_law_860 ?_
  refine k_topi (nI_add j 1) ?_
  refine va_sld hx hb hX hbl hbA hS (vp_in_nI (n := j + 1) (by omega) (by omega)) dL_law_861 ?_
  rw [hsx1]
  refine lv_aload_n hx hb dL_law_862 rfl (lv_at hl 4 rfl) ?_
  refine lv_iload hx hb dL_law_863 (lv_at hl 0 rfl) ?_
  refine lv_iconst (v := 2) hx hb dL_law_865 (by decide) ?_
  refine lv_iadd hx hb dL_law_866 ?_
  refine k_topi (nI_add j 2) ?_
  refine va_sld hx hb hX hbl hbA hS (vp_in_nI (n := j + 2) (by omega) (by omega)) dL_law_867 ?_
  rw [hsx2]
  refine lv_aload_n hx hb dL_law_868 rfl (lv_at hl 4 rfl) ?_
  refine lv_iload hx hb dL_law_869 (lv_at hl 0 rfl) ?_
  refine lv_iconst (v := 3) hx hb dL_law_871 (by decide) ?_
  refine lv_iadd hx hb dL_law_872 ?_
  refine k_topi (nI_add j 3) ?_
  refine va_sld hx hb hX hbl hbA hS (vp_in_nI (n := j + 3) (by omega) (by omega)) dL_law_873 ?_
  rw [hsx3]
  refine lv_aload_n hx hb dL_law_874 rfl (lv_at hl 4 rfl) ?_
  refine lv_iload hx hb dL_law_875 (lv_at hl 0 rfl) ?_
  refine lv_iconst (v := 4) hx hb dL_law_877 (by decide) ?_
  refine lv_iadd hx hb dL_law_878 ?_
  refine k_topi (nI_add j 4) ?_
  refine va_sld hx hb hX hbl hbA hS (vp_in_nI (n := j + 4) (by omega) (by omega)) dL_law_879 ?_
  rw [hsx4]
  refine k_i (va_runV (As := [.int a1, .int a2, .int a3, .int a4]) (rest := []) ⟨hx, hb, hml, hown, hts⟩ (m_X7_way l D cI cJ H.size x x0 x1 x2 x3 x4 x5 s1 s2 s5 s6 s7 s8 s9 s10 s11 b0 b1 b2 b3 b4 b5 b6 b7 b8 b9 b10 b11 w0 w1 w2 w3 w4 w8 d0 d1 d2 y0 y1 wn lv np nl pn si4 si12 si13 bi14 wi6 a1 a2 a3 a4 B0 B1 B2 B3 B4 B6 B8 B10 B11 S5 S6 S7 S8 S9 S10 S11 W0 W1 W2 W3 W4 W8 D0 D1 D2 B5 Y0 Y1 hwn hlv hli hnp hnl hpn) (cwV 4 hts hL_law_X7_way rfl rfl rfl (by decide +kernel) ⟨Nat.le_of_ble_eq_true rfl, Nat.le_of_ble_eq_true rfl⟩) (k_preV hE hP hD [0, 2, 10, 23, 30, 11, 12, 13, 14, 15, 17, 19, 21, 22, 3, 4, 5, 6, 7, 8, 9, 24, 25, 26, 27, 28, 29, 31, 32, 33, 16, 34, 35, 36] (by decide +kernel) rfl 0 rfl rfl) rfl rfl hl.1 rfl (lv_room (Nat.le_of_ble_eq_true rfl)) dL_law_880 ⟨by omega, by omega⟩) hP hD hS hA [0, 2, 10, 23, 30, 11, 12, 13, 14, 15, 17, 19, 21, 22, 3, 4, 5, 6, 7, 8, 9, 24, 25, 26, 27, 28, 29, 31, 32, 33, 16, 34, 35, 36] [1, 18, 20, 37, 38, 39, 40, 41, 42, 43, 44, 45, 46, 47, 48, 49, 50, 51, 52, 53, 54, 55, 56, 57, 58, 59, 60, 61, 62, 63, 64, 65, 66, 67, 68, 69, 70, 71, 72, 73, 74, 75, 76, 77, 78, 79, 80, 81, 82, 83] rfl (wr := [(aIc cI x5 8 X5), (aIc cI b7 8 B7), (aIc cI b9 8 B9), (oX1 x3 t0 t1 t2 t3 ti4 (nI pm) t6 ti7 t8), (aIc cI t0 8 T0), (aIc cI t1 9 T1), (aIc cI t2 9 T2), (aIc cI t3 9 T3), (aIc cI t6 8 T6), (aIc cI t8 9 T8), (oX3 x4 dr0 dr1), (aIc cI dr0 32 DR0), (aIc cI dr1 32 DR1), (oX8 g gi0 (nI np) g2 g3 g4 g5 g6 g7 g8 g9 g10 (nI nl) g12 g13 bi14 g15 g16 g17 gi18 g19 g20 g21 g22 g23 g24 g25 g26 g27 g28 gi29 gi30 (nI mv) (nI tt) g33 g34 g35 g36 g37 g38 g39 gi40 g41 g42 gi43 g44 g45), (aIc cI g2 8 B0), (aIc cI g3 8 B1), (aIc cI g4 8 B2), (aIc cI g5 8 B3), (aIc cI g6 8 B4), (aIc cI g7 8 B5), (aIc cI g8 8 B6), (aIc cI g9 8 B7), (aIc cI g10 64 G10), (aIc cI g12 10 B10), (aIc cI g13 10 B11), (aIc cI g15 8 B9), (aIc cI g16 32 G16), (aIc cI g17 32 DR1), (aIc cI g19 8 G19), (aIc cI g20 8 G20), (aIc cI g21 8 G21), (aIc cI g22 8 G22), (aIc cI g23 8 G23), (aIc cI g24 8 G24), (aIc cI g25 8 G25), (aIc cI g26 8 G26), (aIc cI g27 8 G27), (aIc cI g28 8 G28), (aIc cI g33 8 G33), (aIc cI g34 8 G34), (aIc cI g35 8 G35), (aIc cI g36 8 G36), (aJc cJ g37 8 G37), (aIc cI g38 8 G38), (aIc cI g39 8 G39), (aIc cI g41 9 G41), (aIc cI g42 192 G42), (aIc cI g44 8 G44), (aIc cI g45 8 G45), (aJc cJ o 1 OO)]) rfl (by decide +kernel) (by decide +kernel) (fun r1 u H locs hw2 hP hD hS => ?_)
  obtain ⟨z3, z4, z5, z6, z7, z8, z9, z10, z11, z12, z13, z14, z15, z16, z17, z18, z19, z20, z21, z22, z23, z24, z25, z26, z27, hz28, hz29, hz30, rfl⟩ := hw2
  refine lv_pop hx hb dL_law_883 rfl ?_
  refine lv_aload_n hx hb dL_law_884 rfl (lv_at hl 2 rfl) ?_
  refine lv_aload_n hx hb dL_law_885 rfl (lv_at hl 4 rfl) ?_
  refine lv_iload hx hb dL_law_886 (lv_at hl 0 rfl) ?_
  refine lv_iconst (v := 1) hx hb dL_law_888 (by decide) ?_
  refine lv_iadd hx hb dL_law_889 ?_
  refine k_topi (nI_add j 1) ?_
  refine va_sld hx hb hX hbl hbA hS (vp_in_nI (n := j + 1) (by omega) (by omega)) dL_law_890 ?_
  rw [hsx1]
  refine lv_aload_n hx hb dL_law_891 rfl (lv_at hl 4 rfl) ?_
  refine lv_iload hx hb dL_law_892 (lv_at hl 0 rfl) ?_
  refine lv_iconst (v := 2) hx hb dL_law_894 (by decide) ?_
  refine lv_iadd hx hb dL_law_895 ?_
  refine k_topi (nI_add j 2) ?_
  refine va_sld hx hb hX hbl hbA hS (vp_in_nI (n := j + 2) (by omega) (by omega)) dL_law_896 ?_
  rw [hsx2]
  refine lv_aload_n hx hb dL_law_897 rfl (lv_at hl 4 rfl) ?_
  refine lv_iload hx hb dL_law_898 (lv_at hl 0 rfl) ?_
  refine lv_iconst (v := 3) hx hb dL_law_900 (by decide) ?_
  refine lv_iadd hx hb dL_law_901 ?_
  refine k_topi (nI_add j 3) ?_
  refine va_sld hx hb hX hbl hbA hS (vp_in_nI (n := j + 3) (by omega) (by omega)) dL_law_902 ?_
  rw [hsx3]
  refine lv_aload_n hx hb dL_law_903 rfl (lv_at hl 4 rfl) ?_
  refine lv_iload hx hb dL_law_904 (lv_at hl 0 rfl) ?_
  refine lv_iconst (v := 4) hx hb dL_law_906 (by decide) ?_
  refine lv_iadd hx hb dL_law_907 ?_
  refine k_topi (nI_add j 4) ?_
  refine va_sld hx hb hX hbl hbA hS (vp_in_nI (n := j + 4) (by omega) (by omega)) dL_law_908 ?_
  rw [hsx4]
  refine k_i (va_runV (As := [.int a1, .int a2, .int a3, .int a4]) (rest := []) ⟨hx, hb, hml, hown, hts⟩ (m_X8_way l D cI cJ H.size g g2 g3 g4 g5 g6 g7 g8 g9 g10 g12 g13 g15 g16 g17 g19 g20 g21 g22 g23 g24 g25 g26 g27 g28 g33 g34 g35 g36 g37 g38 g39 g41 g42 g44 g45 np nl mv tt gi0 bi14 gi18 gi29 gi30 gi40 gi43 a1 a2 a3 a4 B0 B1 B2 B3 B4 B5 B6 G10 B10 B11 G19 G20 G21 G22 G23 G24 G25 G26 G27 G28 G33 G34 G35 G36 G37 G38 li0 wo0 de0 ag0 hnp hnl hli hsu hliv hlib hwov hwob hdev hdeb hagv hagb hamt hLE hLO hLW hSH htt hmv) (cwV 4 hts hL_law_X8_way rfl rfl rfl (by decide +kernel) ⟨Nat.le_of_ble_eq_true rfl, Nat.le_of_ble_eq_true rfl⟩) (k_preV hE hP hD [13, 14, 15, 16, 17, 18, 19, 20, 22, 23, 24, 28, 29, 30, 31, 32, 33, 34, 35, 36, 37, 38, 39, 40, 41, 42, 43] (by decide +kernel) rfl 13 rfl rfl) rfl rfl hl.1 rfl (lv_room (Nat.le_of_ble_eq_true rfl)) dL_law_909 ⟨by omega, by omega⟩) hP hD hS hA [13, 14, 15, 16, 17, 18, 19, 20, 22, 23, 24, 28, 29, 30, 31, 32, 33, 34, 35, 36, 37, 38, 39, 40, 41, 42, 43] [0, 1, 2, 3, 4, 5, 6, 7, 8, 9, 10, 11, 12, 21, 25, 26, 27, 44, 45, 46, 47, 48, 49, 50, 51, 52, 53, 54, 55, 56, 57, 58, 59, 60, 61, 62, 63, 64, 65, 66, 67, 68, 69, 70, 71, 72, 73, 74, 75, 76, 77, 78, 79, 80, 81, 82, 83] rfl (wr := [(aIc cI x5 8 X5), (aIc cI b7 8 B7), (aIc cI b9 8 B9), (oX1 x3 t0 t1 t2 t3 ti4 (nI pm) t6 ti7 t8), (aIc cI t0 8 T0), (aIc cI t1 9 T1), (aIc cI t2 9 T2), (aIc cI t3 9 T3), (aIc cI t6 8 T6), (aIc cI t8 9 T8), (oX3 x4 dr0 dr1), (aIc cI dr0 32 DR0), (aIc cI dr1 32 DR1), (aIc cI g9 8 B7), (aIc cI g15 8 B9), (aIc cI g16 32 G16), (aIc cI g17 32 DR1), (aIc cI g39 8 G39), (aIc cI g41 9 G41), (aIc cI g42 192 G42), (aIc cI g44 8 G44), (aIc cI g45 8 G45), (aJc cJ o 1 OO), (oX7 x x0 x1 x2 x3 x4 x5), (oX4 x1 x0 s1 s2 (nI z25) z23 s5 s6 s7 s8 s9 s10 s11 z18 z19), (oX0 x0 b0 b1 b2 b3 b4 b5 b6 b7 b8 b9 b10 b11 (nI np) (nI nl) bi14), (oX6 s1 w0 w1 w2 w3 w4 (nI z24) z20 (nI z21) w8), (oX2 s2 d0 d1 d2), (aIc cI b0 8 B0), (aIc cI b1 8 B1), (aIc cI b2 8 B2), (aIc cI b3 8 B3), (aIc cI b4 8 B4), (aIc cI b6 8 B6), (aIc cI b8 64 B8), (aIc cI b10 10 B10), (aIc cI b11 10 B11), (aIc cI s5 8 z3), (aIc cI s6 8 z4), (aIc cI s7 8 z5), (aIc cI s8 8 z6), (aIc cI s9 8 z7), (aIc cI s10 8 z8), (aIc cI s11 8 z9), (aIc cI w0 8 z22), (aIc cI w1 8 z10), (aIc cI w2 8 z11), (aIc cI w3 8 z12), (aIc cI w4 8 z13), (aIc cI w8 8 z14), (aIc cI d0 8 z15), (aIc cI d1 8 z16), (aJc cJ d2 8 z17), (aIc cI b5 8 B5), (oX5 x2 y0 y1), (aIc cI y0 8 z26), (aIc cI y1 8 z27)]) rfl (by decide +kernel) (by decide +kernel) (fun r31 u H locs hw32 hP hD hS => ?_)
  obtain ⟨z33, z34, z35, z36, z37, z38, z39, z40, z41, z42, z43, z44, z45, z46, z47, z48, z49, z50, z51, z52, z53, z54, hz55, hz56, hz57, hz58, hz59, hz60, rfl⟩ := hw32
  refine lv_pop hx hb dL_law_912 rfl ?_
  refine lv_goto (tgt := 1593) hx hb dL_law_913 (by decide) ?_
  refine W.widen (k := k9 + 2) (n := n9 + 16) (by omega) (by omega) ?_
  exact kend z25 np nl z24 z21 pm z51 z52 z23 z18 z19 bi14 z20 ti4 ti7 z53 z50 z48 z49 gi40 gi43 X5 z3 z4 z5 z6 z7 z8 z9 B0 B1 B2 B3 B4 B5 B6 B7 B8 B9 B10 B11 z22 z10 z11 z12 z13 z14 z15 z16 z26 z27 T0 T1 T2 T3 T6 T8 DR0 DR1 G10 G16 z33 z34 z35 z36 z37 z38 z39 z40 z41 z42 z43 z44 z45 z46 z54 G39 G41 G42 G44 G45 z17 z47 OO _ _ _ dd hdd ⟨hnp, hnl, hz29, hz28, hz30, hpm, hz60, hz59, hli, hor, hBK, hsu, hamt, hz55, hz56, hz57, hz58, hr8, hr16, hto⟩ (k_sub hP [23, 0, 24, 37, 38, 39, 40, 41, 42, 43, 25, 28, 29, 30, 31, 32, 53, 33, 1, 34, 2, 35, 36, 26, 44, 45, 46, 47, 48, 49, 27, 50, 51, 52, 54, 55, 56, 3, 4, 5, 6, 7, 8, 9, 10, 11, 12, 57, 58, 59, 60, 61, 62, 63, 64, 13, 65, 66, 67, 14, 15, 16, 68, 69, 70, 71, 72, 73, 74, 75, 76, 77, 78, 79, 80, 81, 82, 83, 17, 18, 19, 20, 21, 22] rfl) (hD.sub [23, 0, 24, 37, 38, 39, 40, 41, 42, 43, 25, 28, 29, 30, 31, 32, 53, 33, 1, 34, 2, 35, 36, 26, 44, 45, 46, 47, 48, 49, 27, 50, 51, 52, 54, 55, 56, 3, 4, 5, 6, 7, 8, 9, 10, 11, 12, 57, 58, 59, 60, 61, 62, 63, 64, 13, 65, 66, 67, 14, 15, 16, 68, 69, 70, 71, 72, 73, 74, 75, 76, 77, 78, 79, 80, 81, 82, 83, 17, 18, 19, 20, 21, 22] (by decide +kernel) rfl) hS (lv_sub hl [0, 1, 2, 3, 4] rfl)
set_option maxHeartbeats 4000000 in
set_option maxRecDepth 100000 in
/-- claimed -/
theorem arm_18 {p : Program} {l : Launch} {e : Env} {s : State} {m : MethodId} {below : List Frame} {meth : Method} {c : Code} {b L tf : Nat} {xs : Nat → Int32} {D : va_G} {cI cJ : ClassId} {Q : State → Prop} (C : LC p l s m c b L tf xs D cI cJ) {j k9 n9 : Nat} (hj : j + 6 ≤ L) (hL : L ≤ 3072) (hk9 : k9 + 2 ≤ room_1.cells) (hn9 : n9 + 16 ≤ room_1.slots) {dd : Drawn} (hdd : s.drawn.sameBut dd lw_cs) {x x0 x1 x2 x3 x4 x5 s1 s2 s5 s6 s7 s8 s9 s10 s11 b0 b1 b2 b3 b4 b5 b6 b7 b8 b9 b10 b11 w0 w1 w2 w3 w4 w8 d0 d1 d2 y0 y1 t0 t1 t2 t3 t6 t8 dr0 dr1 g g2 g3 g4 g5 g6 g7 g8 g9 g10 g12 g13 g15 g16 g17 g19 g20 g21 g22 g23 g24 g25 g26 g27 g28 g33 g34 g35 g36 g37 g38 g39 g41 g42 g44 g45 o : Nat} {pn np nl wn lv pm mv tt : Nat} {si4 si12 si13 bi14 wi6 ti4 ti7 gi0 gi18 gi29 gi30 gi40 gi43 : Int32} {X5 S5 S6 S7 S8 S9 S10 S11 B0 B1 B2 B3 B4 B5 B6 B7 B8 B9 B10 B11 W0 W1 W2 W3 W4 W8 D0 D1 Y0 Y1 T0 T1 T2 T3 T6 T8 DR0 DR1 G10 G16 G19 G20 G21 G22 G23 G24 G25 G26 G27 G28 G33 G34 G35 G36 G38 G39 G41 G42 G44 G45 : Nat → Int32} {D2 G37 OO : Nat → Int64} (hI : LInv pn np nl wn lv pm mv tt B0 B1 B2 B3 B6 B8 B10 B11 T6 DR0 G10 G16 G19 G20 G25 G27) {H : Heap} {locs : List Loc} (hP : va_P D vwCl (LWS cI cJ x x0 x1 x2 x3 x4 x5 s1 s2 s5 s6 s7 s8 s9 s10 s11 b0 b1 b2 b3 b4 b5 b6 b7 b8 b9 b10 b11 w0 w1 w2 w3 w4 w8 d0 d1 d2 y0 y1 t0 t1 t2 t3 t6 t8 dr0 dr1 g g2 g3 g4 g5 g6 g7 g8 g9 g10 g12 g13 g15 g16 g17 g19 g20 g21 g22 g23 g24 g25 g26 g27 g28 g33 g34 g35 g36 g37 g38 g39 g41 g42 g44 g45 o pn np nl wn lv pm mv tt si4 si12 si13 bi14 wi6 ti4 ti7 gi0 gi18 gi29 gi30 gi40 gi43 X5 S5 S6 S7 S8 S9 S10 S11 B0 B1 B2 B3 B4 B5 B6 B7 B8 B9 B10 B11 W0 W1 W2 W3 W4 W8 D0 D1 Y0 Y1 T0 T1 T2 T3 T6 T8 DR0 DR1 G10 G16 G19 G20 G21 G22 G23 G24 G25 G26 G27 G28 G33 G34 G35 G36 G38 G39 G41 G42 G44 G45 D2 G37 OO) H) (hD : va_D (fun q : Nat => s.heap.size ≤ q) (LWS cI cJ x x0 x1 x2 x3 x4 x5 s1 s2 s5 s6 s7 s8 s9 s10 s11 b0 b1 b2 b3 b4 b5 b6 b7 b8 b9 b10 b11 w0 w1 w2 w3 w4 w8 d0 d1 d2 y0 y1 t0 t1 t2 t3 t6 t8 dr0 dr1 g g2 g3 g4 g5 g6 g7 g8 g9 g10 g12 g13 g15 g16 g17 g19 g20 g21 g22 g23 g24 g25 g26 g27 g28 g33 g34 g35 g36 g37 g38 g39 g41 g42 g44 g45 o pn np nl wn lv pm mv tt si4 si12 si13 bi14 wi6 ti4 ti7 gi0 gi18 gi29 gi30 gi40 gi43 X5 S5 S6 S7 S8 S9 S10 S11 B0 B1 B2 B3 B4 B5 B6 B7 B8 B9 B10 B11 W0 W1 W2 W3 W4 W8 D0 D1 Y0 Y1 T0 T1 T2 T3 T6 T8 DR0 DR1 G10 G16 G19 G20 G21 G22 G23 G24 G25 G26 G27 G28 G33 G34 G35 G36 G38 G39 G41 G42 G44 G45 D2 G37 OO)) (hS : va_S (fun q : Nat => s.heap.size ≤ q) s.heap H locs) {ls : Array Slot} (hl : lv_has ls 7 [(4, .int (nI j)), (3, .ref o), (2, .ref g), (1, .ref x), (0, .ref b)])
    (kend : ∀ (pn np nl wn lv pm mv tt : Nat) (si4 si12 si13 bi14 wi6 ti4 ti7 gi0 gi18 gi29 gi30 gi40 gi43 : Int32) (X5 S5 S6 S7 S8 S9 S10 S11 B0 B1 B2 B3 B4 B5 B6 B7 B8 B9 B10 B11 W0 W1 W2 W3 W4 W8 D0 D1 Y0 Y1 T0 T1 T2 T3 T6 T8 DR0 DR1 G10 G16 G19 G20 G21 G22 G23 G24 G25 G26 G27 G28 G33 G34 G35 G36 G38 G39 G41 G42 G44 G45 : Nat → Int32) (D2 G37 OO : Nat → Int64) (H1 : Heap) (locs1 : List Loc) (ls1 : Array Slot) (dw1 : Drawn), s.drawn.sameBut dw1 lw_cs → LInv pn np nl wn lv pm mv tt B0 B1 B2 B3 B6 B8 B10 B11 T6 DR0 G10 G16 G19 G20 G25 G27 → va_P D vwCl (LWS cI cJ x x0 x1 x2 x3 x4 x5 s1 s2 s5 s6 s7 s8 s9 s10 s11 b0 b1 b2 b3 b4 b5 b6 b7 b8 b9 b10 b11 w0 w1 w2 w3 w4 w8 d0 d1 d2 y0 y1 t0 t1 t2 t3 t6 t8 dr0 dr1 g g2 g3 g4 g5 g6 g7 g8 g9 g10 g12 g13 g15 g16 g17 g19 g20 g21 g22 g23 g24 g25 g26 g27 g28 g33 g34 g35 g36 g37 g38 g39 g41 g42 g44 g45 o pn np nl wn lv pm mv tt si4 si12 si13 bi14 wi6 ti4 ti7 gi0 gi18 gi29 gi30 gi40 gi43 X5 S5 S6 S7 S8 S9 S10 S11 B0 B1 B2 B3 B4 B5 B6 B7 B8 B9 B10 B11 W0 W1 W2 W3 W4 W8 D0 D1 Y0 Y1 T0 T1 T2 T3 T6 T8 DR0 DR1 G10 G16 G19 G20 G21 G22 G23 G24 G25 G26 G27 G28 G33 G34 G35 G36 G38 G39 G41 G42 G44 G45 D2 G37 OO) H1 → va_D (fun q : Nat => s.heap.size ≤ q) (LWS cI cJ x x0 x1 x2 x3 x4 x5 s1 s2 s5 s6 s7 s8 s9 s10 s11 b0 b1 b2 b3 b4 b5 b6 b7 b8 b9 b10 b11 w0 w1 w2 w3 w4 w8 d0 d1 d2 y0 y1 t0 t1 t2 t3 t6 t8 dr0 dr1 g g2 g3 g4 g5 g6 g7 g8 g9 g10 g12 g13 g15 g16 g17 g19 g20 g21 g22 g23 g24 g25 g26 g27 g28 g33 g34 g35 g36 g37 g38 g39 g41 g42 g44 g45 o pn np nl wn lv pm mv tt si4 si12 si13 bi14 wi6 ti4 ti7 gi0 gi18 gi29 gi30 gi40 gi43 X5 S5 S6 S7 S8 S9 S10 S11 B0 B1 B2 B3 B4 B5 B6 B7 B8 B9 B10 B11 W0 W1 W2 W3 W4 W8 D0 D1 Y0 Y1 T0 T1 T2 T3 T6 T8 DR0 DR1 G10 G16 G19 G20 G21 G22 G23 G24 G25 G26 G27 G28 G33 G34 G35 G36 G38 G39 G41 G42 G44 G45 D2 G37 OO) → va_S (fun q : Nat => s.heap.size ≤ q) s.heap H1 locs1 → lv_has ls1 7 [(4, .int (nI j)), (3, .ref o), (2, .ref g), (1, .ref x), (0, .ref b)] → W p l e room_1 (s.setDrawn dw1) m #[Value.ref b] below meth c H1 locs1 (k9 + 2) (n9 + 16) Q (F0 m 1593 ls1 [])) : W p l e room_1 (s.setDrawn dd) m #[Value.ref b] below meth c H locs k9 n9 Q (F0 m 916 ls []) := by
  obtain ⟨hx, hb, hml, hown, htsB, hE, hX, hbl, hXw, hZ, hl9⟩ := C
  have hXw0 := hXw
  have hA : ∀ q : Nat, s.heap.size ≤ q → (fun q : Nat => s.heap.size ≤ q) q := fun _ h => h
  have hbA : ¬ (fun q : Nat => s.heap.size ≤ q) b := Nat.not_le.mpr hbl
  obtain ⟨hnp, hnl, hwn, hlv, hpn, hpm, hmv, htt, hli, hor, hBK, hsu, hamt, hLE, hLO, hLW, hSH, hr8, hr16, hto⟩ := hI
  obtain ⟨li0, wo0, de0, ag0, hliv, hlib, hl1, hwov, hwob, hdev, hdeb, hagv, hagb⟩ := id hBK
  obtain ⟨a1, hsx1⟩ : ∃ y : Int32, xs (Int32.toNatClampNeg (nI (j + 1))) = y := ⟨_, rfl⟩
  obtain ⟨a2, hsx2⟩ : ∃ y : Int32, xs (Int32.toNatClampNeg (nI (j + 2))) = y := ⟨_, rfl⟩
  obtain ⟨a3, hsx3⟩ : ∃ y : Int32, xs (Int32.toNatClampNeg (nI (j + 3))) = y := ⟨_, rfl⟩
  obtain ⟨a4, hsx4⟩ : ∃ y : Int32, xs (Int32.toNatClampNeg (nI (j + 4))) = y := ⟨_, rfl⟩
  obtain ⟨a5, hsx5⟩ : ∃ y : Int32, xs (Int32.toNatClampNeg (nI (j + 5))) = y := ⟨_, rfl⟩
  have hts := dr_words htsB dd
  have hE : eK D cI cJ (s.setDrawn dd) := hE
  have hown : (s.setDrawn dd).vm.findClass RL = some m.cls := hown
  have hX : va_X b L xs (s.setDrawn dd) s.heap := hX
  have hXw : xw (fun q : Nat => s.heap.size ≤ q) (s.setDrawn dd) s.heap := xw.same (u := s) (U := s.setDrawn dd) rfl hXw0
  have hZ : fz tf (fun q : Nat => s.heap.size ≤ q) (s.setDrawn dd) s.heap := hZ
  refine lv_aload_n hx hb dL_law_916 rfl (lv_at hl 3 rfl) ?_
  refine lv_aload_n hx hb dL_law_917 rfl (lv_at hl 4 rfl) ?_
  refine lv_iload hx hb dL_law_918 (lv_at hl 0 rfl) ?_
  refine lv_iconst (v := 1) hx hb dL_law_920 (by decide) ?_
  refine lv_iadd hx hb dL_law_921 ?_
  refine k_topi (nI_add j 1) ?_
  refine va_sld hx hb hX hbl hbA hS (vp_in_nI (n := j + 1) (by omega) (by omega)) dL_law_922 ?_
  rw [hsx1]
  refine lv_aload_n hx hb dL_law_923 rfl (lv_at hl 4 rfl) ?_
  refine lv_iload hx hb dL_law_924 (lv_at hl 0 rfl) ?_
  refine lv_iconst (v := 2) hx hb dL_law_926 (by decide) ?_
  refine lv_iadd hx hb dL_law_927 ?_
  refine k_topi (nI_add j 2) ?_
  refine va_sld hx hb hX hbl hbA hS (vp_in_nI (n := j + 2) (by omega) (by omega)) dL_law_928 ?_
  rw [hsx2]
  refine lv_i2l hx hb dL_law_929 rfl ?_
  refine lv_bipush (v := 32) hx hb dL_law_930 (by decide) ?_
  refine lv_lshl hx hb dL_law_932 rfl ?_
  refine lv_topl (fun v1 ev1 => ?_)
  refine lv_aload_n hx hb dL_law_933 rfl (lv_at hl 4 rfl) ?_
  refine lv_iload hx hb dL_law_934 (lv_at hl 0 rfl) ?_
  refine lv_iconst (v := 3) hx hb dL_law_936 (by decide) ?_
  refine lv_iadd hx hb dL_law_937 ?_
  refine k_topi (nI_add j 3) ?_
  refine va_sld hx hb hX hbl hbA hS (vp_in_nI (n := j + 3) (by omega) (by omega)) dL_law_938 ?_
  rw [hsx3]
  refine lv_i2l hx hb dL_law_939 rfl ?_
  refine lv_ldc2 (v := 4294967295) hx hb hown (hts _ (tb_l wd_7)) dL_law_940 ?_
  refine lv_land hx hb dL_law_943 ?_
  refine lv_topl (fun v2 ev2 => ?_)
  refine lv_lor hx hb dL_law_944 ?_
  refine lv_topl (fun v3 ev3 => ?_)
  refine lv_aload_n hx hb dL_law_945 rfl (lv_at hl 4 rfl) ?_
  refine lv_iload hx hb dL_law_946 (lv_at hl 0 rfl) ?_
  refine lv_iconst (v := 4) hx hb dL_law_948 (by decide) ?_
  refine lv_iadd hx hb dL_law_949 ?_
  refine k_topi (nI_add j 4) ?_
  refine va_sld hx hb hX hbl hbA hS (vp_in_nI (n := j + 4) (by omega) (by omega)) dL_law_950 ?_
  rw [hsx4]
  refine k_i (va_runV (As := [.int a1, .long v3, .int a4]) (rest := []) ⟨hx, hb, hml, hown, hts⟩ (m_X7_claimed l D cI cJ H.size x x0 x1 x2 x3 x4 x5 s1 s2 s5 s6 s7 s8 s9 s10 s11 b0 b1 b2 b3 b4 b5 b6 b7 b8 b9 b10 b11 w0 w1 w2 w3 w4 w8 d0 d1 d2 t0 t1 t2 t3 t6 t8 wn lv np nl pn pm si4 si12 si13 bi14 wi6 ti4 ti7 a1 a4 v3 B0 B1 B2 B3 B4 B6 B8 B10 B11 S5 S6 S7 S8 S9 S10 S11 W0 W1 W2 W3 W4 W8 D0 D1 D2 B5 T0 T6 hwn hlv hli hnp hnl hpn hor) (cwV 3 hts hL_law_X7_claimed rfl rfl rfl (by decide +kernel) ⟨Nat.le_of_ble_eq_true rfl, Nat.le_of_ble_eq_true rfl⟩) (k_preV hE hP hD [0, 2, 10, 23, 30, 11, 12, 13, 14, 15, 17, 19, 21, 22, 3, 4, 5, 6, 7, 8, 9, 24, 25, 26, 27, 28, 29, 31, 32, 33, 16, 37, 38, 42] (by decide +kernel) rfl 0 rfl rfl) rfl rfl hl.1 rfl (lv_room (Nat.le_of_ble_eq_true rfl)) dL_law_951 ⟨by omega, by omega⟩) hP hD hS hA [0, 2, 10, 23, 30, 11, 12, 13, 14, 15, 17, 19, 21, 22, 3, 4, 5, 6, 7, 8, 9, 24, 25, 26, 27, 28, 29, 31, 32, 33, 16, 37, 38, 42] [1, 18, 20, 34, 35, 36, 39, 40, 41, 43, 44, 45, 46, 47, 48, 49, 50, 51, 52, 53, 54, 55, 56, 57, 58, 59, 60, 61, 62, 63, 64, 65, 66, 67, 68, 69, 70, 71, 72, 73, 74, 75, 76, 77, 78, 79, 80, 81, 82, 83] rfl (wr := [(aIc cI x5 8 X5), (aIc cI b7 8 B7), (aIc cI b9 8 B9), (oX5 x2 y0 y1), (aIc cI y0 8 Y0), (aIc cI y1 8 Y1), (aIc cI t1 9 T1), (aIc cI t2 9 T2), (aIc cI t3 9 T3), (aIc cI t8 9 T8), (oX3 x4 dr0 dr1), (aIc cI dr0 32 DR0), (aIc cI dr1 32 DR1), (oX8 g gi0 (nI np) g2 g3 g4 g5 g6 g7 g8 g9 g10 (nI nl) g12 g13 bi14 g15 g16 g17 gi18 g19 g20 g21 g22 g23 g24 g25 g26 g27 g28 gi29 gi30 (nI mv) (nI tt) g33 g34 g35 g36 g37 g38 g39 gi40 g41 g42 gi43 g44 g45), (aIc cI g2 8 B0), (aIc cI g3 8 B1), (aIc cI g4 8 B2), (aIc cI g5 8 B3), (aIc cI g6 8 B4), (aIc cI g7 8 B5), (aIc cI g8 8 B6), (aIc cI g9 8 B7), (aIc cI g10 64 G10), (aIc cI g12 10 B10), (aIc cI g13 10 B11), (aIc cI g15 8 B9), (aIc cI g16 32 G16), (aIc cI g17 32 DR1), (aIc cI g19 8 G19), (aIc cI g20 8 G20), (aIc cI g21 8 G21), (aIc cI g22 8 G22), (aIc cI g23 8 G23), (aIc cI g24 8 G24), (aIc cI g25 8 G25), (aIc cI g26 8 G26), (aIc cI g27 8 G27), (aIc cI g28 8 G28), (aIc cI g33 8 G33), (aIc cI g34 8 G34), (aIc cI g35 8 G35), (aIc cI g36 8 G36), (aJc cJ g37 8 G37), (aIc cI g38 8 G38), (aIc cI g39 8 G39), (aIc cI g41 9 G41), (aIc cI g42 192 G42), (aIc cI g44 8 G44), (aIc cI g45 8 G45), (aJc cJ o 1 OO)]) rfl (by decide +kernel) (by decide +kernel) (fun r4 u H locs hw5 hP hD hS => ?_)
  obtain ⟨z6, z7, z8, z9, z10, z11, z12, z13, z14, z15, z16, z17, z18, z19, z20, z21, z22, z23, z24, z25, z26, z27, z28, z29, z30, z31, z32, hz33, hz34, hz35, hz36, rfl⟩ := hw5
  refine lv_pop hx hb dL_law_954 rfl ?_
  refine lv_aload_n hx hb dL_law_955 rfl (lv_at hl 2 rfl) ?_
  refine lv_aload_n hx hb dL_law_956 rfl (lv_at hl 4 rfl) ?_
  refine lv_iload hx hb dL_law_957 (lv_at hl 0 rfl) ?_
  refine lv_iconst (v := 1) hx hb dL_law_959 (by decide) ?_
  refine lv_iadd hx hb dL_law_960 ?_
  refine k_topi (nI_add j 1) ?_
  refine va_sld hx hb hX hbl hbA hS (vp_in_nI (n := j + 1) (by omega) (by omega)) dL_law_961 ?_
  rw [hsx1]
  refine lv_aload_n hx hb dL_law_962 rfl (lv_at hl 4 rfl) ?_
  refine lv_iload hx hb dL_law_963 (lv_at hl 0 rfl) ?_
  refine lv_iconst (v := 2) hx hb dL_law_965 (by decide) ?_
  refine lv_iadd hx hb dL_law_966 ?_
  refine k_topi (nI_add j 2) ?_
  refine va_sld hx hb hX hbl hbA hS (vp_in_nI (n := j + 2) (by omega) (by omega)) dL_law_967 ?_
  rw [hsx2]
  refine lv_i2l hx hb dL_law_968 rfl ?_
  refine lv_bipush (v := 32) hx hb dL_law_969 (by decide) ?_
  refine lv_lshl hx hb dL_law_971 rfl ?_
  refine lv_topl (fun v37 ev37 => ?_)
  refine lv_aload_n hx hb dL_law_972 rfl (lv_at hl 4 rfl) ?_
  refine lv_iload hx hb dL_law_973 (lv_at hl 0 rfl) ?_
  refine lv_iconst (v := 3) hx hb dL_law_975 (by decide) ?_
  refine lv_iadd hx hb dL_law_976 ?_
  refine k_topi (nI_add j 3) ?_
  refine va_sld hx hb hX hbl hbA hS (vp_in_nI (n := j + 3) (by omega) (by omega)) dL_law_977 ?_
  rw [hsx3]
  refine lv_i2l hx hb dL_law_978 rfl ?_
  refine lv_ldc2 (v := 4294967295) hx hb hown (hts _ (tb_l wd_7)) dL_law_979 ?_
  refine lv_land hx hb dL_law_982 ?_
  refine lv_topl (fun v38 ev38 => ?_)
  refine lv_lor hx hb dL_law_983 ?_
  refine lv_topl (fun v39 ev39 => ?_)
  refine lv_aload_n hx hb dL_law_984 rfl (lv_at hl 4 rfl) ?_
  refine lv_iload hx hb dL_law_985 (lv_at hl 0 rfl) ?_
  refine lv_iconst (v := 4) hx hb dL_law_987 (by decide) ?_
  refine lv_iadd hx hb dL_law_988 ?_
  refine k_topi (nI_add j 4) ?_
  refine va_sld hx hb hX hbl hbA hS (vp_in_nI (n := j + 4) (by omega) (by omega)) dL_law_989 ?_
  rw [hsx4]
  refine k_i (va_runV (As := [.int a1, .long v39, .int a4]) (rest := []) ⟨hx, hb, hml, hown, hts⟩ (m_X8_claimed l D cI cJ H.size g g2 g3 g4 g5 g6 g7 g8 g9 g10 g12 g13 g15 g16 g17 g19 g20 g21 g22 g23 g24 g25 g26 g27 g28 g33 g34 g35 g36 g37 g38 g39 g41 g42 g44 g45 np nl mv tt gi0 bi14 gi18 gi29 gi30 gi40 gi43 a1 a4 v39 B0 B1 B2 B3 B4 B5 B6 G10 B10 B11 G19 G20 G21 G22 G23 G24 G25 G26 G27 G28 G33 G34 G35 G36 G37 G39 li0 wo0 de0 ag0 hnp hnl hli hsu hliv hlib hwov hwob hdev hdeb hagv hagb hamt hLE hLO hLW hSH htt hmv) (cwV 3 hts hL_law_X8_claimed rfl rfl rfl (by decide +kernel) ⟨Nat.le_of_ble_eq_true rfl, Nat.le_of_ble_eq_true rfl⟩) (k_preV hE hP hD [13, 14, 15, 16, 17, 18, 19, 20, 22, 23, 24, 28, 29, 30, 31, 32, 33, 34, 35, 36, 37, 38, 39, 40, 41, 42, 44] (by decide +kernel) rfl 13 rfl rfl) rfl rfl hl.1 rfl (lv_room (Nat.le_of_ble_eq_true rfl)) dL_law_990 ⟨by omega, by omega⟩) hP hD hS hA [13, 14, 15, 16, 17, 18, 19, 20, 22, 23, 24, 28, 29, 30, 31, 32, 33, 34, 35, 36, 37, 38, 39, 40, 41, 42, 44] [0, 1, 2, 3, 4, 5, 6, 7, 8, 9, 10, 11, 12, 21, 25, 26, 27, 43, 45, 46, 47, 48, 49, 50, 51, 52, 53, 54, 55, 56, 57, 58, 59, 60, 61, 62, 63, 64, 65, 66, 67, 68, 69, 70, 71, 72, 73, 74, 75, 76, 77, 78, 79, 80, 81, 82, 83] rfl (wr := [(aIc cI x5 8 X5), (aIc cI b7 8 B7), (aIc cI b9 8 B9), (oX5 x2 y0 y1), (aIc cI y0 8 Y0), (aIc cI y1 8 Y1), (aIc cI t1 9 T1), (aIc cI t2 9 T2), (aIc cI t3 9 T3), (aIc cI t8 9 T8), (oX3 x4 dr0 dr1), (aIc cI dr0 32 DR0), (aIc cI dr1 32 DR1), (aIc cI g9 8 B7), (aIc cI g15 8 B9), (aIc cI g16 32 G16), (aIc cI g17 32 DR1), (aIc cI g38 8 G38), (aIc cI g41 9 G41), (aIc cI g42 192 G42), (aIc cI g44 8 G44), (aIc cI g45 8 G45), (aJc cJ o 1 OO), (oX7 x x0 x1 x2 x3 x4 x5), (oX4 x1 x0 s1 s2 (nI z28) z26 s5 s6 s7 s8 s9 s10 s11 z21 z22), (oX0 x0 b0 b1 b2 b3 b4 b5 b6 b7 b8 b9 b10 b11 (nI np) (nI nl) bi14), (oX6 s1 w0 w1 w2 w3 w4 (nI z27) z23 (nI z24) w8), (oX2 s2 d0 d1 d2), (aIc cI b0 8 B0), (aIc cI b1 8 B1), (aIc cI b2 8 B2), (aIc cI b3 8 B3), (aIc cI b4 8 B4), (aIc cI b6 8 B6), (aIc cI b8 64 B8), (aIc cI b10 10 B10), (aIc cI b11 10 B11), (aIc cI s5 8 z6), (aIc cI s6 8 z7), (aIc cI s7 8 z8), (aIc cI s8 8 z9), (aIc cI s9 8 z10), (aIc cI s10 8 z11), (aIc cI s11 8 z12), (aIc cI w0 8 z25), (aIc cI w1 8 z13), (aIc cI w2 8 z14), (aIc cI w3 8 z15), (aIc cI w4 8 z16), (aIc cI w8 8 z17), (aIc cI d0 8 z18), (aIc cI d1 8 z19), (aJc cJ d2 8 z20), (aIc cI b5 8 B5), (oX1 x3 t0 t1 t2 t3 z31 (nI pm) t6 z32 t8), (aIc cI t0 8 z29), (aIc cI t6 8 z30)]) rfl (by decide +kernel) (by decide +kernel) (fun r40 u H locs hw41 hP hD hS => ?_)
  obtain ⟨z42, z43, z44, z45, z46, z47, z48, z49, z50, z51, z52, z53, z54, z55, z56, z57, z58, z59, z60, z61, z62, z63, z64, hz65, hz66, hz67, hz68, hz69, hz70, rfl⟩ := hw41
  refine lv_pop hx hb dL_law_993 rfl ?_
  refine lv_goto (tgt := 1593) hx hb dL_law_994 (by decide) ?_
  refine W.widen (k := k9 + 2) (n := n9 + 16) (by omega) (by omega) ?_
  exact kend z28 np nl z27 z24 pm z60 z61 z26 z21 z22 bi14 z23 z31 z32 z62 z59 z57 z58 z64 gi43 X5 z6 z7 z8 z9 z10 z11 z12 B0 B1 B2 B3 B4 B5 B6 B7 B8 B9 B10 B11 z25 z13 z14 z15 z16 z17 z18 z19 Y0 Y1 z29 T1 T2 T3 z30 T8 DR0 DR1 G10 G16 z42 z43 z44 z45 z46 z47 z48 z49 z50 z51 z52 z53 z54 z55 G38 z63 G41 G42 G44 G45 z20 z56 OO _ _ _ dd hdd ⟨hnp, hnl, hz34, hz33, hz35, hpm, hz70, hz69, hli, hz36, hBK, hsu, hamt, hz65, hz66, hz67, hz68, hr8, hr16, hto⟩ (k_sub hP [23, 0, 24, 37, 38, 39, 40, 41, 42, 43, 25, 28, 29, 30, 31, 32, 53, 33, 1, 34, 2, 35, 36, 26, 44, 45, 46, 47, 48, 49, 27, 50, 51, 52, 3, 4, 5, 54, 55, 6, 7, 8, 56, 9, 10, 11, 12, 57, 58, 59, 60, 61, 62, 63, 64, 13, 65, 66, 67, 14, 15, 16, 68, 69, 70, 71, 72, 73, 74, 75, 76, 77, 78, 79, 80, 81, 82, 17, 83, 18, 19, 20, 21, 22] rfl) (hD.sub [23, 0, 24, 37, 38, 39, 40, 41, 42, 43, 25, 28, 29, 30, 31, 32, 53, 33, 1, 34, 2, 35, 36, 26, 44, 45, 46, 47, 48, 49, 27, 50, 51, 52, 3, 4, 5, 54, 55, 6, 7, 8, 56, 9, 10, 11, 12, 57, 58, 59, 60, 61, 62, 63, 64, 13, 65, 66, 67, 14, 15, 16, 68, 69, 70, 71, 72, 73, 74, 75, 76, 77, 78, 79, 80, 81, 82, 17, 83, 18, 19, 20, 21, 22] (by decide +kernel) rfl) hS (lv_sub hl [0, 1, 2, 3, 4] rfl)
set_option maxHeartbeats 4000000 in
set_option maxRecDepth 100000 in
/-- recovery -/
theorem arm_19 {p : Program} {l : Launch} {e : Env} {s : State} {m : MethodId} {below : List Frame} {meth : Method} {c : Code} {b L tf : Nat} {xs : Nat → Int32} {D : va_G} {cI cJ : ClassId} {Q : State → Prop} (C : LC p l s m c b L tf xs D cI cJ) {j k9 n9 : Nat} (hj : j + 6 ≤ L) (hL : L ≤ 3072) (hk9 : k9 + 2 ≤ room_1.cells) (hn9 : n9 + 16 ≤ room_1.slots) {dd : Drawn} (hdd : s.drawn.sameBut dd lw_cs) {x x0 x1 x2 x3 x4 x5 s1 s2 s5 s6 s7 s8 s9 s10 s11 b0 b1 b2 b3 b4 b5 b6 b7 b8 b9 b10 b11 w0 w1 w2 w3 w4 w8 d0 d1 d2 y0 y1 t0 t1 t2 t3 t6 t8 dr0 dr1 g g2 g3 g4 g5 g6 g7 g8 g9 g10 g12 g13 g15 g16 g17 g19 g20 g21 g22 g23 g24 g25 g26 g27 g28 g33 g34 g35 g36 g37 g38 g39 g41 g42 g44 g45 o : Nat} {pn np nl wn lv pm mv tt : Nat} {si4 si12 si13 bi14 wi6 ti4 ti7 gi0 gi18 gi29 gi30 gi40 gi43 : Int32} {X5 S5 S6 S7 S8 S9 S10 S11 B0 B1 B2 B3 B4 B5 B6 B7 B8 B9 B10 B11 W0 W1 W2 W3 W4 W8 D0 D1 Y0 Y1 T0 T1 T2 T3 T6 T8 DR0 DR1 G10 G16 G19 G20 G21 G22 G23 G24 G25 G26 G27 G28 G33 G34 G35 G36 G38 G39 G41 G42 G44 G45 : Nat → Int32} {D2 G37 OO : Nat → Int64} (hI : LInv pn np nl wn lv pm mv tt B0 B1 B2 B3 B6 B8 B10 B11 T6 DR0 G10 G16 G19 G20 G25 G27) {H : Heap} {locs : List Loc} (hP : va_P D vwCl (LWS cI cJ x x0 x1 x2 x3 x4 x5 s1 s2 s5 s6 s7 s8 s9 s10 s11 b0 b1 b2 b3 b4 b5 b6 b7 b8 b9 b10 b11 w0 w1 w2 w3 w4 w8 d0 d1 d2 y0 y1 t0 t1 t2 t3 t6 t8 dr0 dr1 g g2 g3 g4 g5 g6 g7 g8 g9 g10 g12 g13 g15 g16 g17 g19 g20 g21 g22 g23 g24 g25 g26 g27 g28 g33 g34 g35 g36 g37 g38 g39 g41 g42 g44 g45 o pn np nl wn lv pm mv tt si4 si12 si13 bi14 wi6 ti4 ti7 gi0 gi18 gi29 gi30 gi40 gi43 X5 S5 S6 S7 S8 S9 S10 S11 B0 B1 B2 B3 B4 B5 B6 B7 B8 B9 B10 B11 W0 W1 W2 W3 W4 W8 D0 D1 Y0 Y1 T0 T1 T2 T3 T6 T8 DR0 DR1 G10 G16 G19 G20 G21 G22 G23 G24 G25 G26 G27 G28 G33 G34 G35 G36 G38 G39 G41 G42 G44 G45 D2 G37 OO) H) (hD : va_D (fun q : Nat => s.heap.size ≤ q) (LWS cI cJ x x0 x1 x2 x3 x4 x5 s1 s2 s5 s6 s7 s8 s9 s10 s11 b0 b1 b2 b3 b4 b5 b6 b7 b8 b9 b10 b11 w0 w1 w2 w3 w4 w8 d0 d1 d2 y0 y1 t0 t1 t2 t3 t6 t8 dr0 dr1 g g2 g3 g4 g5 g6 g7 g8 g9 g10 g12 g13 g15 g16 g17 g19 g20 g21 g22 g23 g24 g25 g26 g27 g28 g33 g34 g35 g36 g37 g38 g39 g41 g42 g44 g45 o pn np nl wn lv pm mv tt si4 si12 si13 bi14 wi6 ti4 ti7 gi0 gi18 gi29 gi30 gi40 gi43 X5 S5 S6 S7 S8 S9 S10 S11 B0 B1 B2 B3 B4 B5 B6 B7 B8 B9 B10 B11 W0 W1 W2 W3 W4 W8 D0 D1 Y0 Y1 T0 T1 T2 T3 T6 T8 DR0 DR1 G10 G16 G19 G20 G21 G22 G23 G24 G25 G26 G27 G28 G33 G34 G35 G36 G38 G39 G41 G42 G44 G45 D2 G37 OO)) (hS : va_S (fun q : Nat => s.heap.size ≤ q) s.heap H locs) {ls : Array Slot} (hl : lv_has ls 7 [(4, .int (nI j)), (3, .ref o), (2, .ref g), (1, .ref x), (0, .ref b)])
    (kend : ∀ (pn np nl wn lv pm mv tt : Nat) (si4 si12 si13 bi14 wi6 ti4 ti7 gi0 gi18 gi29 gi30 gi40 gi43 : Int32) (X5 S5 S6 S7 S8 S9 S10 S11 B0 B1 B2 B3 B4 B5 B6 B7 B8 B9 B10 B11 W0 W1 W2 W3 W4 W8 D0 D1 Y0 Y1 T0 T1 T2 T3 T6 T8 DR0 DR1 G10 G16 G19 G20 G21 G22 G23 G24 G25 G26 G27 G28 G33 G34 G35 G36 G38 G39 G41 G42 G44 G45 : Nat → Int32) (D2 G37 OO : Nat → Int64) (H1 : Heap) (locs1 : List Loc) (ls1 : Array Slot) (dw1 : Drawn), s.drawn.sameBut dw1 lw_cs → LInv pn np nl wn lv pm mv tt B0 B1 B2 B3 B6 B8 B10 B11 T6 DR0 G10 G16 G19 G20 G25 G27 → va_P D vwCl (LWS cI cJ x x0 x1 x2 x3 x4 x5 s1 s2 s5 s6 s7 s8 s9 s10 s11 b0 b1 b2 b3 b4 b5 b6 b7 b8 b9 b10 b11 w0 w1 w2 w3 w4 w8 d0 d1 d2 y0 y1 t0 t1 t2 t3 t6 t8 dr0 dr1 g g2 g3 g4 g5 g6 g7 g8 g9 g10 g12 g13 g15 g16 g17 g19 g20 g21 g22 g23 g24 g25 g26 g27 g28 g33 g34 g35 g36 g37 g38 g39 g41 g42 g44 g45 o pn np nl wn lv pm mv tt si4 si12 si13 bi14 wi6 ti4 ti7 gi0 gi18 gi29 gi30 gi40 gi43 X5 S5 S6 S7 S8 S9 S10 S11 B0 B1 B2 B3 B4 B5 B6 B7 B8 B9 B10 B11 W0 W1 W2 W3 W4 W8 D0 D1 Y0 Y1 T0 T1 T2 T3 T6 T8 DR0 DR1 G10 G16 G19 G20 G21 G22 G23 G24 G25 G26 G27 G28 G33 G34 G35 G36 G38 G39 G41 G42 G44 G45 D2 G37 OO) H1 → va_D (fun q : Nat => s.heap.size ≤ q) (LWS cI cJ x x0 x1 x2 x3 x4 x5 s1 s2 s5 s6 s7 s8 s9 s10 s11 b0 b1 b2 b3 b4 b5 b6 b7 b8 b9 b10 b11 w0 w1 w2 w3 w4 w8 d0 d1 d2 y0 y1 t0 t1 t2 t3 t6 t8 dr0 dr1 g g2 g3 g4 g5 g6 g7 g8 g9 g10 g12 g13 g15 g16 g17 g19 g20 g21 g22 g23 g24 g25 g26 g27 g28 g33 g34 g35 g36 g37 g38 g39 g41 g42 g44 g45 o pn np nl wn lv pm mv tt si4 si12 si13 bi14 wi6 ti4 ti7 gi0 gi18 gi29 gi30 gi40 gi43 X5 S5 S6 S7 S8 S9 S10 S11 B0 B1 B2 B3 B4 B5 B6 B7 B8 B9 B10 B11 W0 W1 W2 W3 W4 W8 D0 D1 Y0 Y1 T0 T1 T2 T3 T6 T8 DR0 DR1 G10 G16 G19 G20 G21 G22 G23 G24 G25 G26 G27 G28 G33 G34 G35 G36 G38 G39 G41 G42 G44 G45 D2 G37 OO) → va_S (fun q : Nat => s.heap.size ≤ q) s.heap H1 locs1 → lv_has ls1 7 [(4, .int (nI j)), (3, .ref o), (2, .ref g), (1, .ref x), (0, .ref b)] → W p l e room_1 (s.setDrawn dw1) m #[Value.ref b] below meth c H1 locs1 (k9 + 2) (n9 + 16) Q (F0 m 1593 ls1 [])) : W p l e room_1 (s.setDrawn dd) m #[Value.ref b] below meth c H locs k9 n9 Q (F0 m 997 ls []) := by
  obtain ⟨hx, hb, hml, hown, htsB, hE, hX, hbl, hXw, hZ, hl9⟩ := C
  have hXw0 := hXw
  have hA : ∀ q : Nat, s.heap.size ≤ q → (fun q : Nat => s.heap.size ≤ q) q := fun _ h => h
  have hbA : ¬ (fun q : Nat => s.heap.size ≤ q) b := Nat.not_le.mpr hbl
  obtain ⟨hnp, hnl, hwn, hlv, hpn, hpm, hmv, htt, hli, hor, hBK, hsu, hamt, hLE, hLO, hLW, hSH, hr8, hr16, hto⟩ := hI
  obtain ⟨li0, wo0, de0, ag0, hliv, hlib, hl1, hwov, hwob, hdev, hdeb, hagv, hagb⟩ := id hBK
  obtain ⟨a1, hsx1⟩ : ∃ y : Int32, xs (Int32.toNatClampNeg (nI (j + 1))) = y := ⟨_, rfl⟩
  obtain ⟨a2, hsx2⟩ : ∃ y : Int32, xs (Int32.toNatClampNeg (nI (j + 2))) = y := ⟨_, rfl⟩
  obtain ⟨a3, hsx3⟩ : ∃ y : Int32, xs (Int32.toNatClampNeg (nI (j + 3))) = y := ⟨_, rfl⟩
  obtain ⟨a4, hsx4⟩ : ∃ y : Int32, xs (Int32.toNatClampNeg (nI (j + 4))) = y := ⟨_, rfl⟩
  obtain ⟨a5, hsx5⟩ : ∃ y : Int32, xs (Int32.toNatClampNeg (nI (j + 5))) = y := ⟨_, rfl⟩
  have hts := dr_words htsB dd
  have hE : eK D cI cJ (s.setDrawn dd) := hE
  have hown : (s.setDrawn dd).vm.findClass RL = some m.cls := hown
  have hX : va_X b L xs (s.setDrawn dd) s.heap := hX
  have hXw : xw (fun q : Nat => s.heap.size ≤ q) (s.setDrawn dd) s.heap := xw.same (u := s) (U := s.setDrawn dd) rfl hXw0
  have hZ : fz tf (fun q : Nat => s.heap.size ≤ q) (s.setDrawn dd) s.heap := hZ
  refine lv_aload_n hx hb dL_law_997 rfl (lv_at hl 3 rfl) ?_
  refine lv_aload_n hx hb dL_law_998 rfl (lv_at hl 4 rfl) ?_
  refine lv_iload hx hb dL_law_999 (lv_at hl 0 rfl) ?_
  refine lv_iconst (v := 1) hx hb dL_law_1001 (by decide) ?_
  refine lv_iadd hx hb dL_law_1002 ?_
  refine k_topi (nI_add j 1) ?_
  refine va_sld hx hb hX hbl hbA hS (vp_in_nI (n := j + 1) (by omega) (by omega)) dL_law_1003 ?_
  rw [hsx1]
  refine lv_aload_n hx hb dL_law_1004 rfl (lv_at hl 4 rfl) ?_
  refine lv_iload hx hb dL_law_1005 (lv_at hl 0 rfl) ?_
  refine lv_iconst (v := 2) hx hb dL_law_1007 (by decide) ?_
  refine lv_iadd hx hb dL_law_1008 ?_
  refine k_topi (nI_add j 2) ?_
  refine va_sld hx hb hX hbl hbA hS (vp_in_nI (n := j + 2) (by omega) (by omega)) dL_law_1009 ?_
  rw [hsx2]
  refine lv_i2l hx hb dL_law_1010 rfl ?_
  refine lv_bipush (v := 32) hx hb dL_law_1011 (by decide) ?_
  refine lv_lshl hx hb dL_law_1013 rfl ?_
  refine lv_topl (fun v1 ev1 => ?_)
  refine lv_aload_n hx hb dL_law_1014 rfl (lv_at hl 4 rfl) ?_
  refine lv_iload hx hb dL_law_1015 (lv_at hl 0 rfl) ?_
  refine lv_iconst (v := 3) hx hb dL_law_1017 (by decide) ?_
  refine lv_iadd hx hb dL_law_1018 ?_
  refine k_topi (nI_add j 3) ?_
  refine va_sld hx hb hX hbl hbA hS (vp_in_nI (n := j + 3) (by omega) (by omega)) dL_law_1019 ?_
  rw [hsx3]
  refine lv_i2l hx hb dL_law_1020 rfl ?_
  refine lv_ldc2 (v := 4294967295) hx hb hown (hts _ (tb_l wd_7)) dL_law_1021 ?_
  refine lv_land hx hb dL_law_1024 ?_
  refine lv_topl (fun v2 ev2 => ?_)
  refine lv_lor hx hb dL_law_1025 ?_
  refine lv_topl (fun v3 ev3 => ?_)
  refine lv_aload_n hx hb dL_law_1026 rfl (lv_at hl 4 rfl) ?_
  refine lv_iload hx hb dL_law_1027 (lv_at hl 0 rfl) ?_
  refine lv_iconst (v := 4) hx hb dL_law_1029 (by decide) ?_
  refine lv_iadd hx hb dL_law_1030 ?_
  refine k_topi (nI_add j 4) ?_
  refine va_sld hx hb hX hbl hbA hS (vp_in_nI (n := j + 4) (by omega) (by omega)) dL_law_1031 ?_
  rw [hsx4]
  refine lv_aload_n hx hb dL_law_1032 rfl (lv_at hl 4 rfl) ?_
  refine lv_iload hx hb dL_law_1033 (lv_at hl 0 rfl) ?_
  refine lv_iconst (v := 5) hx hb dL_law_1035 (by decide) ?_
  refine lv_iadd hx hb dL_law_1036 ?_
  refine k_topi (nI_add j 5) ?_
  refine va_sld hx hb hX hbl hbA hS (vp_in_nI (n := j + 5) (by omega) (by omega)) dL_law_1037 ?_
  rw [hsx5]
  refine k_i (va_runV (As := [.int a1, .long v3, .int a4, .int a5]) (rest := []) ⟨hx, hb, hml, hown, hts⟩ (m_X7_recovery l D cI cJ H.size x x0 x1 x2 x3 x4 x5 s1 s2 s5 s6 s7 s8 s9 s10 s11 b0 b1 b2 b3 b4 b5 b6 b7 b8 b9 b10 b11 w0 w1 w2 w3 w4 w8 d0 d1 d2 t0 t1 t2 t3 t6 t8 wn lv np nl pn pm si4 si12 si13 bi14 wi6 ti4 ti7 a1 a4 a5 v3 B0 B1 B2 B3 B4 B6 B8 B10 B11 S5 S6 S7 S8 S9 S10 S11 W0 W1 W2 W3 W4 W8 D0 D1 D2 B5 T0 T6 T1 T2 T3 T8 hwn hlv hli hnp hnl hpn hor hpm) (cwV 4 hts hL_law_X7_recovery rfl rfl rfl (by decide +kernel) ⟨Nat.le_of_ble_eq_true rfl, Nat.le_of_ble_eq_true rfl⟩) (k_preV hE hP hD [0, 2, 10, 23, 30, 11, 12, 13, 14, 15, 17, 19, 21, 22, 3, 4, 5, 6, 7, 8, 9, 24, 25, 26, 27, 28, 29, 31, 32, 33, 16, 37, 38, 42, 39, 40, 41, 43] (by decide +kernel) rfl 0 rfl rfl) rfl rfl hl.1 rfl (lv_room (Nat.le_of_ble_eq_true rfl)) dL_law_1038 ⟨by omega, by omega⟩) hP hD hS hA [0, 2, 10, 23, 30, 11, 12, 13, 14, 15, 17, 19, 21, 22, 3, 4, 5, 6, 7, 8, 9, 24, 25, 26, 27, 28, 29, 31, 32, 33, 16, 37, 38, 42, 39, 40, 41, 43] [1, 18, 20, 34, 35, 36, 44, 45, 46, 47, 48, 49, 50, 51, 52, 53, 54, 55, 56, 57, 58, 59, 60, 61, 62, 63, 64, 65, 66, 67, 68, 69, 70, 71, 72, 73, 74, 75, 76, 77, 78, 79, 80, 81, 82, 83] rfl (wr := [(aIc cI x5 8 X5), (aIc cI b7 8 B7), (aIc cI b9 8 B9), (oX5 x2 y0 y1), (aIc cI y0 8 Y0), (aIc cI y1 8 Y1), (oX3 x4 dr0 dr1), (aIc cI dr0 32 DR0), (aIc cI dr1 32 DR1), (oX8 g gi0 (nI np) g2 g3 g4 g5 g6 g7 g8 g9 g10 (nI nl) g12 g13 bi14 g15 g16 g17 gi18 g19 g20 g21 g22 g23 g24 g25 g26 g27 g28 gi29 gi30 (nI mv) (nI tt) g33 g34 g35 g36 g37 g38 g39 gi40 g41 g42 gi43 g44 g45), (aIc cI g2 8 B0), (aIc cI g3 8 B1), (aIc cI g4 8 B2), (aIc cI g5 8 B3), (aIc cI g6 8 B4), (aIc cI g7 8 B5), (aIc cI g8 8 B6), (aIc cI g9 8 B7), (aIc cI g10 64 G10), (aIc cI g12 10 B10), (aIc cI g13 10 B11), (aIc cI g15 8 B9), (aIc cI g16 32 G16), (aIc cI g17 32 DR1), (aIc cI g19 8 G19), (aIc cI g20 8 G20), (aIc cI g21 8 G21), (aIc cI g22 8 G22), (aIc cI g23 8 G23), (aIc cI g24 8 G24), (aIc cI g25 8 G25), (aIc cI g26 8 G26), (aIc cI g27 8 G27), (aIc cI g28 8 G28), (aIc cI g33 8 G33), (aIc cI g34 8 G34), (aIc cI g35 8 G35), (aIc cI g36 8 G36), (aJc cJ g37 8 G37), (aIc cI g38 8 G38), (aIc cI g39 8 G39), (aIc cI g41 9 G41), (aIc cI g42 192 G42), (aIc cI g44 8 G44), (aIc cI g45 8 G45), (aJc cJ o 1 OO)]) rfl (by decide +kernel) (by decide +kernel) (fun r4 u H locs hw5 hP hD hS => ?_)
  obtain ⟨z6, z7, z8, z9, z10, z11, z12, z13, z14, z15, z16, z17, z18, z19, z20, z21, z22, z23, z24, z25, z26, z27, z28, z29, z30, z31, z32, z33, z34, z35, z36, z37, hz38, hz39, hz40, hz41, hz42, rfl⟩ := hw5
  refine lv_pop hx hb dL_law_1041 rfl ?_
  refine lv_aload_n hx hb dL_law_1042 rfl (lv_at hl 2 rfl) ?_
  refine lv_aload_n hx hb dL_law_1043 rfl (lv_at hl 4 rfl) ?_
  refine lv_iload hx hb dL_law_1044 (lv_at hl 0 rfl) ?_
  refine lv_iconst (v := 1) hx hb dL_law_1046 (by decide) ?_
  refine lv_iadd hx hb dL_law_1047 ?_
  refine k_topi (nI_add j 1) ?_
  refine va_sld hx hb hX hbl hbA hS (vp_in_nI (n := j + 1) (by omega) (by omega)) dL_law_1048 ?_
  rw [hsx1]
  refine lv_aload_n hx hb dL_law_1049 rfl (lv_at hl 4 rfl) ?_
  refine lv_iload hx hb dL_law_1050 (lv_at hl 0 rfl) ?_
  refine lv_iconst (v := 2) hx hb dL_law_1052 (by decide) ?_
  refine lv_iadd hx hb dL_law_1053 ?_
  refine k_topi (nI_add j 2) ?_
  refine va_sld hx hb hX hbl hbA hS (vp_in_nI (n := j + 2) (by omega) (by omega)) dL_law_1054 ?_
  rw [hsx2]
  refine lv_i2l hx hb dL_law_1055 rfl ?_
  refine lv_bipush (v := 32) hx hb dL_law_1056 (by decide) ?_
  refine lv_lshl hx hb dL_law_1058 rfl ?_
  refine lv_topl (fun v43 ev43 => ?_)
  refine lv_aload_n hx hb dL_law_1059 rfl (lv_at hl 4 rfl) ?_
  refine lv_iload hx hb dL_law_1060 (lv_at hl 0 rfl) ?_
  refine lv_iconst (v := 3) hx hb dL_law_1062 (by decide) ?_
  refine lv_iadd hx hb dL_law_1063 ?_
  refine k_topi (nI_add j 3) ?_
  refine va_sld hx hb hX hbl hbA hS (vp_in_nI (n := j + 3) (by omega) (by omega)) dL_law_1064 ?_
  rw [hsx3]
  refine lv_i2l hx hb dL_law_1065 rfl ?_
  refine lv_ldc2 (v := 4294967295) hx hb hown (hts _ (tb_l wd_7)) dL_law_1066 ?_
  refine lv_land hx hb dL_law_1069 ?_
  refine lv_topl (fun v44 ev44 => ?_)
  refine lv_lor hx hb dL_law_1070 ?_
  refine lv_topl (fun v45 ev45 => ?_)
  refine lv_aload_n hx hb dL_law_1071 rfl (lv_at hl 4 rfl) ?_
  refine lv_iload hx hb dL_law_1072 (lv_at hl 0 rfl) ?_
  refine lv_iconst (v := 4) hx hb dL_law_1074 (by decide) ?_
  refine lv_iadd hx hb dL_law_1075 ?_
  refine k_topi (nI_add j 4) ?_
  refine va_sld hx hb hX hbl hbA hS (vp_in_nI (n := j + 4) (by omega) (by omega)) dL_law_1076 ?_
  rw [hsx4]
  refine lv_aload_n hx hb dL_law_1077 rfl (lv_at hl 4 rfl) ?_
  refine lv_iload hx hb dL_law_1078 (lv_at hl 0 rfl) ?_
  refine lv_iconst (v := 5) hx hb dL_law_1080 (by decide) ?_
  refine lv_iadd hx hb dL_law_1081 ?_
  refine k_topi (nI_add j 5) ?_
  refine va_sld hx hb hX hbl hbA hS (vp_in_nI (n := j + 5) (by omega) (by omega)) dL_law_1082 ?_
  rw [hsx5]
  refine k_i (va_runV (As := [.int a1, .long v45, .int a4, .int a5]) (rest := []) ⟨hx, hb, hml, hown, hts⟩ (m_X8_recovery l D cI cJ H.size g g2 g3 g4 g5 g6 g7 g8 g9 g10 g12 g13 g15 g16 g17 g19 g20 g21 g22 g23 g24 g25 g26 g27 g28 g33 g34 g35 g36 g37 g38 g39 g41 g42 g44 g45 np nl mv tt gi0 bi14 gi18 gi29 gi30 gi40 gi43 a1 a4 a5 v45 B0 B1 B2 B3 B4 B5 B6 G10 B10 B11 G19 G20 G21 G22 G23 G24 G25 G26 G27 G28 G33 G34 G35 G36 G37 G39 G41 G42 li0 wo0 de0 ag0 hnp hnl hli hsu hliv hlib hwov hwob hdev hdeb hagv hagb hamt hLE hLO hLW hSH htt hmv) (cwV 4 hts hL_law_X8_recovery rfl rfl rfl (by decide +kernel) ⟨Nat.le_of_ble_eq_true rfl, Nat.le_of_ble_eq_true rfl⟩) (k_preV hE hP hD [9, 10, 11, 12, 13, 14, 15, 16, 18, 19, 20, 24, 25, 26, 27, 28, 29, 30, 31, 32, 33, 34, 35, 36, 37, 38, 40, 41, 42] (by decide +kernel) rfl 9 rfl rfl) rfl rfl hl.1 rfl (lv_room (Nat.le_of_ble_eq_true rfl)) dL_law_1083 ⟨by omega, by omega⟩) hP hD hS hA [9, 10, 11, 12, 13, 14, 15, 16, 18, 19, 20, 24, 25, 26, 27, 28, 29, 30, 31, 32, 33, 34, 35, 36, 37, 38, 40, 41, 42] [0, 1, 2, 3, 4, 5, 6, 7, 8, 17, 21, 22, 23, 39, 43, 44, 45, 46, 47, 48, 49, 50, 51, 52, 53, 54, 55, 56, 57, 58, 59, 60, 61, 62, 63, 64, 65, 66, 67, 68, 69, 70, 71, 72, 73, 74, 75, 76, 77, 78, 79, 80, 81, 82, 83] rfl (wr := [(aIc cI x5 8 X5), (aIc cI b7 8 B7), (aIc cI b9 8 B9), (oX5 x2 y0 y1), (aIc cI y0 8 Y0), (aIc cI y1 8 Y1), (oX3 x4 dr0 dr1), (aIc cI dr0 32 DR0), (aIc cI dr1 32 DR1), (aIc cI g9 8 B7), (aIc cI g15 8 B9), (aIc cI g16 32 G16), (aIc cI g17 32 DR1), (aIc cI g38 8 G38), (aIc cI g44 8 G44), (aIc cI g45 8 G45), (aJc cJ o 1 OO), (oX7 x x0 x1 x2 x3 x4 x5), (oX4 x1 x0 s1 s2 (nI z28) z26 s5 s6 s7 s8 s9 s10 s11 z21 z22), (oX0 x0 b0 b1 b2 b3 b4 b5 b6 b7 b8 b9 b10 b11 (nI np) (nI nl) bi14), (oX6 s1 w0 w1 w2 w3 w4 (nI z27) z23 (nI z24) w8), (oX2 s2 d0 d1 d2), (aIc cI b0 8 B0), (aIc cI b1 8 B1), (aIc cI b2 8 B2), (aIc cI b3 8 B3), (aIc cI b4 8 B4), (aIc cI b6 8 B6), (aIc cI b8 64 B8), (aIc cI b10 10 B10), (aIc cI b11 10 B11), (aIc cI s5 8 z6), (aIc cI s6 8 z7), (aIc cI s7 8 z8), (aIc cI s8 8 z9), (aIc cI s9 8 z10), (aIc cI s10 8 z11), (aIc cI s11 8 z12), (aIc cI w0 8 z25), (aIc cI w1 8 z13), (aIc cI w2 8 z14), (aIc cI w3 8 z15), (aIc cI w4 8 z16), (aIc cI w8 8 z17), (aIc cI d0 8 z18), (aIc cI d1 8 z19), (aJc cJ d2 8 z20), (aIc cI b5 8 B5), (oX1 x3 t0 t1 t2 t3 z31 (nI z37) t6 z32 t8), (aIc cI t0 8 z29), (aIc cI t6 8 z30), (aIc cI t1 9 z33), (aIc cI t2 9 z34), (aIc cI t3 9 z35), (aIc cI t8 9 z36)]) rfl (by decide +kernel) (by decide +kernel) (fun r46 u H locs hw47 hP hD hS => ?_)
  obtain ⟨z48, z49, z50, z51, z52, z53, z54, z55, z56, z57, z58, z59, z60, z61, z62, z63, z64, z65, z66, z67, z68, z69, z70, z71, z72, z73, hz74, hz75, hz76, hz77, hz78, hz79, rfl⟩ := hw47
  refine lv_pop hx hb dL_law_1086 rfl ?_
  refine lv_goto (tgt := 1593) hx hb dL_law_1087 (by decide) ?_
  refine W.widen (k := k9 + 2) (n := n9 + 16) (by omega) (by omega) ?_
  exact kend z28 np nl z27 z24 z37 z66 z67 z26 z21 z22 bi14 z23 z31 z32 z68 z65 z63 z64 z70 z73 X5 z6 z7 z8 z9 z10 z11 z12 B0 B1 B2 B3 B4 B5 B6 B7 B8 B9 B10 B11 z25 z13 z14 z15 z16 z17 z18 z19 Y0 Y1 z29 z33 z34 z35 z30 z36 DR0 DR1 G10 G16 z48 z49 z50 z51 z52 z53 z54 z55 z56 z57 z58 z59 z60 z61 G38 z69 z71 z72 G44 G45 z20 z62 OO _ _ _ dd hdd ⟨hnp, hnl, hz39, hz38, hz40, hz42, hz79, hz78, hli, hz41, hBK, hsu, hamt, hz74, hz75, hz76, hz77, hr8, hr16, hto⟩ (k_sub hP [17, 0, 18, 31, 32, 33, 34, 35, 36, 37, 19, 22, 23, 24, 25, 26, 47, 27, 1, 28, 2, 29, 30, 20, 38, 39, 40, 41, 42, 43, 21, 44, 45, 46, 3, 4, 5, 48, 49, 51, 52, 53, 50, 54, 6, 7, 8, 55, 56, 57, 58, 59, 60, 61, 62, 9, 63, 64, 65, 10, 11, 12, 66, 67, 68, 69, 70, 71, 72, 73, 74, 75, 76, 77, 78, 79, 80, 13, 81, 82, 83, 14, 15, 16] rfl) (hD.sub [17, 0, 18, 31, 32, 33, 34, 35, 36, 37, 19, 22, 23, 24, 25, 26, 47, 27, 1, 28, 2, 29, 30, 20, 38, 39, 40, 41, 42, 43, 21, 44, 45, 46, 3, 4, 5, 48, 49, 51, 52, 53, 50, 54, 6, 7, 8, 55, 56, 57, 58, 59, 60, 61, 62, 9, 63, 64, 65, 10, 11, 12, 66, 67, 68, 69, 70, 71, 72, 73, 74, 75, 76, 77, 78, 79, 80, 13, 81, 82, 83, 14, 15, 16] (by decide +kernel) rfl) hS (lv_sub hl [0, 1, 2, 3, 4] rfl)
set_option maxHeartbeats 4000000 in
set_option maxRecDepth 100000 in
/-- broke -/
theorem arm_20 {p : Program} {l : Launch} {e : Env} {s : State} {m : MethodId} {below : List Frame} {meth : Method} {c : Code} {b L tf : Nat} {xs : Nat → Int32} {D : va_G} {cI cJ : ClassId} {Q : State → Prop} (C : LC p l s m c b L tf xs D cI cJ) {j k9 n9 : Nat} (hj : j + 6 ≤ L) (hL : L ≤ 3072) (hk9 : k9 + 2 ≤ room_1.cells) (hn9 : n9 + 16 ≤ room_1.slots) {dd : Drawn} (hdd : s.drawn.sameBut dd lw_cs) {x x0 x1 x2 x3 x4 x5 s1 s2 s5 s6 s7 s8 s9 s10 s11 b0 b1 b2 b3 b4 b5 b6 b7 b8 b9 b10 b11 w0 w1 w2 w3 w4 w8 d0 d1 d2 y0 y1 t0 t1 t2 t3 t6 t8 dr0 dr1 g g2 g3 g4 g5 g6 g7 g8 g9 g10 g12 g13 g15 g16 g17 g19 g20 g21 g22 g23 g24 g25 g26 g27 g28 g33 g34 g35 g36 g37 g38 g39 g41 g42 g44 g45 o : Nat} {pn np nl wn lv pm mv tt : Nat} {si4 si12 si13 bi14 wi6 ti4 ti7 gi0 gi18 gi29 gi30 gi40 gi43 : Int32} {X5 S5 S6 S7 S8 S9 S10 S11 B0 B1 B2 B3 B4 B5 B6 B7 B8 B9 B10 B11 W0 W1 W2 W3 W4 W8 D0 D1 Y0 Y1 T0 T1 T2 T3 T6 T8 DR0 DR1 G10 G16 G19 G20 G21 G22 G23 G24 G25 G26 G27 G28 G33 G34 G35 G36 G38 G39 G41 G42 G44 G45 : Nat → Int32} {D2 G37 OO : Nat → Int64} (hI : LInv pn np nl wn lv pm mv tt B0 B1 B2 B3 B6 B8 B10 B11 T6 DR0 G10 G16 G19 G20 G25 G27) {H : Heap} {locs : List Loc} (hP : va_P D vwCl (LWS cI cJ x x0 x1 x2 x3 x4 x5 s1 s2 s5 s6 s7 s8 s9 s10 s11 b0 b1 b2 b3 b4 b5 b6 b7 b8 b9 b10 b11 w0 w1 w2 w3 w4 w8 d0 d1 d2 y0 y1 t0 t1 t2 t3 t6 t8 dr0 dr1 g g2 g3 g4 g5 g6 g7 g8 g9 g10 g12 g13 g15 g16 g17 g19 g20 g21 g22 g23 g24 g25 g26 g27 g28 g33 g34 g35 g36 g37 g38 g39 g41 g42 g44 g45 o pn np nl wn lv pm mv tt si4 si12 si13 bi14 wi6 ti4 ti7 gi0 gi18 gi29 gi30 gi40 gi43 X5 S5 S6 S7 S8 S9 S10 S11 B0 B1 B2 B3 B4 B5 B6 B7 B8 B9 B10 B11 W0 W1 W2 W3 W4 W8 D0 D1 Y0 Y1 T0 T1 T2 T3 T6 T8 DR0 DR1 G10 G16 G19 G20 G21 G22 G23 G24 G25 G26 G27 G28 G33 G34 G35 G36 G38 G39 G41 G42 G44 G45 D2 G37 OO) H) (hD : va_D (fun q : Nat => s.heap.size ≤ q) (LWS cI cJ x x0 x1 x2 x3 x4 x5 s1 s2 s5 s6 s7 s8 s9 s10 s11 b0 b1 b2 b3 b4 b5 b6 b7 b8 b9 b10 b11 w0 w1 w2 w3 w4 w8 d0 d1 d2 y0 y1 t0 t1 t2 t3 t6 t8 dr0 dr1 g g2 g3 g4 g5 g6 g7 g8 g9 g10 g12 g13 g15 g16 g17 g19 g20 g21 g22 g23 g24 g25 g26 g27 g28 g33 g34 g35 g36 g37 g38 g39 g41 g42 g44 g45 o pn np nl wn lv pm mv tt si4 si12 si13 bi14 wi6 ti4 ti7 gi0 gi18 gi29 gi30 gi40 gi43 X5 S5 S6 S7 S8 S9 S10 S11 B0 B1 B2 B3 B4 B5 B6 B7 B8 B9 B10 B11 W0 W1 W2 W3 W4 W8 D0 D1 Y0 Y1 T0 T1 T2 T3 T6 T8 DR0 DR1 G10 G16 G19 G20 G21 G22 G23 G24 G25 G26 G27 G28 G33 G34 G35 G36 G38 G39 G41 G42 G44 G45 D2 G37 OO)) (hS : va_S (fun q : Nat => s.heap.size ≤ q) s.heap H locs) {ls : Array Slot} (hl : lv_has ls 7 [(4, .int (nI j)), (3, .ref o), (2, .ref g), (1, .ref x), (0, .ref b)])
    (kend : ∀ (pn np nl wn lv pm mv tt : Nat) (si4 si12 si13 bi14 wi6 ti4 ti7 gi0 gi18 gi29 gi30 gi40 gi43 : Int32) (X5 S5 S6 S7 S8 S9 S10 S11 B0 B1 B2 B3 B4 B5 B6 B7 B8 B9 B10 B11 W0 W1 W2 W3 W4 W8 D0 D1 Y0 Y1 T0 T1 T2 T3 T6 T8 DR0 DR1 G10 G16 G19 G20 G21 G22 G23 G24 G25 G26 G27 G28 G33 G34 G35 G36 G38 G39 G41 G42 G44 G45 : Nat → Int32) (D2 G37 OO : Nat → Int64) (H1 : Heap) (locs1 : List Loc) (ls1 : Array Slot) (dw1 : Drawn), s.drawn.sameBut dw1 lw_cs → LInv pn np nl wn lv pm mv tt B0 B1 B2 B3 B6 B8 B10 B11 T6 DR0 G10 G16 G19 G20 G25 G27 → va_P D vwCl (LWS cI cJ x x0 x1 x2 x3 x4 x5 s1 s2 s5 s6 s7 s8 s9 s10 s11 b0 b1 b2 b3 b4 b5 b6 b7 b8 b9 b10 b11 w0 w1 w2 w3 w4 w8 d0 d1 d2 y0 y1 t0 t1 t2 t3 t6 t8 dr0 dr1 g g2 g3 g4 g5 g6 g7 g8 g9 g10 g12 g13 g15 g16 g17 g19 g20 g21 g22 g23 g24 g25 g26 g27 g28 g33 g34 g35 g36 g37 g38 g39 g41 g42 g44 g45 o pn np nl wn lv pm mv tt si4 si12 si13 bi14 wi6 ti4 ti7 gi0 gi18 gi29 gi30 gi40 gi43 X5 S5 S6 S7 S8 S9 S10 S11 B0 B1 B2 B3 B4 B5 B6 B7 B8 B9 B10 B11 W0 W1 W2 W3 W4 W8 D0 D1 Y0 Y1 T0 T1 T2 T3 T6 T8 DR0 DR1 G10 G16 G19 G20 G21 G22 G23 G24 G25 G26 G27 G28 G33 G34 G35 G36 G38 G39 G41 G42 G44 G45 D2 G37 OO) H1 → va_D (fun q : Nat => s.heap.size ≤ q) (LWS cI cJ x x0 x1 x2 x3 x4 x5 s1 s2 s5 s6 s7 s8 s9 s10 s11 b0 b1 b2 b3 b4 b5 b6 b7 b8 b9 b10 b11 w0 w1 w2 w3 w4 w8 d0 d1 d2 y0 y1 t0 t1 t2 t3 t6 t8 dr0 dr1 g g2 g3 g4 g5 g6 g7 g8 g9 g10 g12 g13 g15 g16 g17 g19 g20 g21 g22 g23 g24 g25 g26 g27 g28 g33 g34 g35 g36 g37 g38 g39 g41 g42 g44 g45 o pn np nl wn lv pm mv tt si4 si12 si13 bi14 wi6 ti4 ti7 gi0 gi18 gi29 gi30 gi40 gi43 X5 S5 S6 S7 S8 S9 S10 S11 B0 B1 B2 B3 B4 B5 B6 B7 B8 B9 B10 B11 W0 W1 W2 W3 W4 W8 D0 D1 Y0 Y1 T0 T1 T2 T3 T6 T8 DR0 DR1 G10 G16 G19 G20 G21 G22 G23 G24 G25 G26 G27 G28 G33 G34 G35 G36 G38 G39 G41 G42 G44 G45 D2 G37 OO) → va_S (fun q : Nat => s.heap.size ≤ q) s.heap H1 locs1 → lv_has ls1 7 [(4, .int (nI j)), (3, .ref o), (2, .ref g), (1, .ref x), (0, .ref b)] → W p l e room_1 (s.setDrawn dw1) m #[Value.ref b] below meth c H1 locs1 (k9 + 2) (n9 + 16) Q (F0 m 1593 ls1 [])) : W p l e room_1 (s.setDrawn dd) m #[Value.ref b] below meth c H locs k9 n9 Q (F0 m 1090 ls []) := by
  obtain ⟨hx, hb, hml, hown, htsB, hE, hX, hbl, hXw, hZ, hl9⟩ := C
  have hXw0 := hXw
  have hA : ∀ q : Nat, s.heap.size ≤ q → (fun q : Nat => s.heap.size ≤ q) q := fun _ h => h
  have hbA : ¬ (fun q : Nat => s.heap.size ≤ q) b := Nat.not_le.mpr hbl
  obtain ⟨hnp, hnl, hwn, hlv, hpn, hpm, hmv, htt, hli, hor, hBK, hsu, hamt, hLE, hLO, hLW, hSH, hr8, hr16, hto⟩ := hI
  obtain ⟨li0, wo0, de0, ag0, hliv, hlib, hl1, hwov, hwob, hdev, hdeb, hagv, hagb⟩ := id hBK
  obtain ⟨a1, hsx1⟩ : ∃ y : Int32, xs (Int32.toNatClampNeg (nI (j + 1))) = y := ⟨_, rfl⟩
  obtain ⟨a2, hsx2⟩ : ∃ y : Int32, xs (Int32.toNatClampNeg (nI (j + 2))) = y := ⟨_, rfl⟩
  obtain ⟨a3, hsx3⟩ : ∃ y : Int32, xs (Int32.toNatClampNeg (nI (j + 3))) = y := ⟨_, rfl⟩
  obtain ⟨a4, hsx4⟩ : ∃ y : Int32, xs (Int32.toNatClampNeg (nI (j + 4))) = y := ⟨_, rfl⟩
  obtain ⟨a5, hsx5⟩ : ∃ y : Int32, xs (Int32.toNatClampNeg (nI (j + 5))) = y := ⟨_, rfl⟩
  have hts := dr_words htsB dd
  have hE : eK D cI cJ (s.setDrawn dd) := hE
  have hown : (s.setDrawn dd).vm.findClass RL = some m.cls := hown
  have hX : va_X b L xs (s.setDrawn dd) s.heap := hX
  have hXw : xw (fun q : Nat => s.heap.size ≤ q) (s.setDrawn dd) s.heap := xw.same (u := s) (U := s.setDrawn dd) rfl hXw0
  have hZ : fz tf (fun q : Nat => s.heap.size ≤ q) (s.setDrawn dd) s.heap := hZ
  refine lv_aload_n hx hb dL_law_1090 rfl (lv_at hl 3 rfl) ?_
  refine lv_aload_n hx hb dL_law_1091 rfl (lv_at hl 4 rfl) ?_
  refine lv_iload hx hb dL_law_1092 (lv_at hl 0 rfl) ?_
  refine lv_iconst (v := 1) hx hb dL_law_1094 (by decide) ?_
  refine lv_iadd hx hb dL_law_1095 ?_
  refine k_topi (nI_add j 1) ?_
  refine va_sld hx hb hX hbl hbA hS (vp_in_nI (n := j + 1) (by omega) (by omega)) dL_law_1096 ?_
  rw [hsx1]
  refine lv_aload_n hx hb dL_law_1097 rfl (lv_at hl 4 rfl) ?_
  refine lv_iload hx hb dL_law_1098 (lv_at hl 0 rfl) ?_
  refine lv_iconst (v := 2) hx hb dL_law_1100 (by decide) ?_
  refine lv_iadd hx hb dL_law_1101 ?_
  refine k_topi (nI_add j 2) ?_
  refine va_sld hx hb hX hbl hbA hS (vp_in_nI (n := j + 2) (by omega) (by omega)) dL_law_1102 ?_
  rw [hsx2]
  refine lv_aload_n hx hb dL_law_1103 rfl (lv_at hl 4 rfl) ?_
  refine lv_iload hx hb dL_law_1104 (lv_at hl 0 rfl) ?_
  refine lv_iconst (v := 3) hx hb dL_law_1106 (by decide) ?_
  refine lv_iadd hx hb dL_law_1107 ?_
  refine k_topi (nI_add j 3) ?_
  refine va_sld hx hb hX hbl hbA hS (vp_in_nI (n := j + 3) (by omega) (by omega)) dL_law_1108 ?_
  rw [hsx3]
  refine k_i (va_runV (As := [.int a1, .int a2, .int a3]) (rest := []) ⟨hx, hb, hml, hown, hts⟩ (m_X7_broke l D cI cJ H.size x x0 x1 x2 x3 x4 x5 s1 s2 s5 s6 s7 s8 s9 s10 s11 b0 b1 b2 b3 b4 b5 b6 b7 b8 b9 b10 b11 w0 w1 w2 w3 w4 w8 d0 d1 d2 wn lv np nl pn si4 si12 si13 bi14 wi6 a1 a2 a3 B0 B1 B2 B3 B4 B6 B8 B10 B11 S5 S6 S7 S8 S9 S10 S11 W0 W1 W2 W3 W4 W8 D0 D1 D2 B5 hwn hlv hli hnp hnl hpn) (cwV 3 hts hL_law_X7_broke rfl rfl rfl (by decide +kernel) ⟨Nat.le_of_ble_eq_true rfl, Nat.le_of_ble_eq_true rfl⟩) (k_preV hE hP hD [0, 2, 10, 23, 30, 11, 12, 13, 14, 15, 17, 19, 21, 22, 3, 4, 5, 6, 7, 8, 9, 24, 25, 26, 27, 28, 29, 31, 32, 33, 16] (by decide +kernel) rfl 0 rfl rfl) rfl rfl hl.1 rfl (lv_room (Nat.le_of_ble_eq_true rfl)) dL_law_1109 ⟨by omega, by omega⟩) hP hD hS hA [0, 2, 10, 23, 30, 11, 12, 13, 14, 15, 17, 19, 21, 22, 3, 4, 5, 6, 7, 8, 9, 24, 25, 26, 27, 28, 29, 31, 32, 33, 16] [1, 18, 20, 34, 35, 36, 37, 38, 39, 40, 41, 42, 43, 44, 45, 46, 47, 48, 49, 50, 51, 52, 53, 54, 55, 56, 57, 58, 59, 60, 61, 62, 63, 64, 65, 66, 67, 68, 69, 70, 71, 72, 73, 74, 75, 76, 77, 78, 79, 80, 81, 82, 83] rfl (wr := [(aIc cI x5 8 X5), (aIc cI b7 8 B7), (aIc cI b9 8 B9), (oX5 x2 y0 y1), (aIc cI y0 8 Y0), (aIc cI y1 8 Y1), (oX1 x3 t0 t1 t2 t3 ti4 (nI pm) t6 ti7 t8), (aIc cI t0 8 T0), (aIc cI t1 9 T1), (aIc cI t2 9 T2), (aIc cI t3 9 T3), (aIc cI t6 8 T6), (aIc cI t8 9 T8), (oX3 x4 dr0 dr1), (aIc cI dr0 32 DR0), (aIc cI dr1 32 DR1), (oX8 g gi0 (nI np) g2 g3 g4 g5 g6 g7 g8 g9 g10 (nI nl) g12 g13 bi14 g15 g16 g17 gi18 g19 g20 g21 g22 g23 g24 g25 g26 g27 g28 gi29 gi30 (nI mv) (nI tt) g33 g34 g35 g36 g37 g38 g39 gi40 g41 g42 gi43 g44 g45), (aIc cI g2 8 B0), (aIc cI g3 8 B1), (aIc cI g4 8 B2), (aIc cI g5 8 B3), (aIc cI g6 8 B4), (aIc cI g7 8 B5), (aIc cI g8 8 B6), (aIc cI g9 8 B7), (aIc cI g10 64 G10), (aIc cI g12 10 B10), (aIc cI g13 10 B11), (aIc cI g15 8 B9), (aIc cI g16 32 G16), (aIc cI g17 32 DR1), (aIc cI g19 8 G19), (aIc cI g20 8 G20), (aIc cI g21 8 G21), (aIc cI g22 8 G22), (aIc cI g23 8 G23), (aIc cI g24 8 G24), (aIc cI g25 8 G25), (aIc cI g26 8 G26), (aIc cI g27 8 G27), (aIc cI g28 8 G28), (aIc cI g33 8 G33), (aIc cI g34 8 G34), (aIc cI g35 8 G35), (aIc cI g36 8 G36), (aJc cJ g37 8 G37), (aIc cI g38 8 G38), (aIc cI g39 8 G39), (aIc cI g41 9 G41), (aIc cI g42 192 G42), (aIc cI g44 8 G44), (aIc cI g45 8 G45), (aJc cJ o 1 OO)]) rfl (by decide +kernel) (by decide +kernel) (fun r1 u H locs hw2 hP hD hS => ?_)
  obtain ⟨z3, z4, z5, z6, z7, z8, z9, z10, z11, z12, z13, z14, z15, z16, z17, z18, z19, z20, z21, z22, z23, z24, z25, hz26, hz27, hz28, rfl⟩ := hw2
  refine lv_pop hx hb dL_law_1112 rfl ?_
  refine lv_aload_n hx hb dL_law_1113 rfl (lv_at hl 2 rfl) ?_
  refine lv_aload_n hx hb dL_law_1114 rfl (lv_at hl 4 rfl) ?_
  refine lv_iload hx hb dL_law_1115 (lv_at hl 0 rfl) ?_
  refine lv_iconst (v := 1) hx hb dL_law_1117 (by decide) ?_
  refine lv_iadd hx hb dL_law_1118 ?_
  refine k_topi (nI_add j 1) ?_
  refine va_sld hx hb hX hbl hbA hS (vp_in_nI (n := j + 1) (by omega) (by omega)) dL_law_1119 ?_
  rw [hsx1]
  refine lv_aload_n hx hb dL_law_1120 rfl (lv_at hl 4 rfl) ?_
  refine lv_iload hx hb dL_law_1121 (lv_at hl 0 rfl) ?_
  refine lv_iconst (v := 2) hx hb dL_law_1123 (by decide) ?_
  refine lv_iadd hx hb dL_law_1124 ?_
  refine k_topi (nI_add j 2) ?_
  refine va_sld hx hb hX hbl hbA hS (vp_in_nI (n := j + 2) (by omega) (by omega)) dL_law_1125 ?_
  rw [hsx2]
  refine lv_aload_n hx hb dL_law_1126 rfl (lv_at hl 4 rfl) ?_
  refine lv_iload hx hb dL_law_1127 (lv_at hl 0 rfl) ?_
  refine lv_iconst (v := 3) hx hb dL_law_1129 (by decide) ?_
  refine lv_iadd hx hb dL_law_1130 ?_
  refine k_topi (nI_add j 3) ?_
  refine va_sld hx hb hX hbl hbA hS (vp_in_nI (n := j + 3) (by omega) (by omega)) dL_law_1131 ?_
  rw [hsx3]
  refine k_i (va_runV (As := [.int a1, .int a2, .int a3]) (rest := []) ⟨hx, hb, hml, hown, hts⟩ (m_X8_broke l D cI cJ H.size g g2 g3 g4 g5 g6 g7 g8 g9 g10 g12 g13 g15 g16 g17 g19 g20 g21 g22 g23 g24 g25 g26 g27 g28 g33 g34 g35 g36 g37 g38 g39 g41 g42 g44 g45 np nl mv tt gi0 bi14 gi18 gi29 gi30 gi40 gi43 a1 a2 a3 B0 B1 B2 B3 B4 B5 B6 G10 B10 B11 G19 G20 G21 G22 G23 G24 G25 G26 G27 G28 G33 G34 G35 G36 G37 li0 wo0 de0 ag0 hnp hnl hli hsu hliv hlib hwov hwob hdev hdeb hagv hagb hamt hLE hLO hLW hSH htt hmv) (cwV 3 hts hL_law_X8_broke rfl rfl rfl (by decide +kernel) ⟨Nat.le_of_ble_eq_true rfl, Nat.le_of_ble_eq_true rfl⟩) (k_preV hE hP hD [16, 17, 18, 19, 20, 21, 22, 23, 25, 26, 27, 31, 32, 33, 34, 35, 36, 37, 38, 39, 40, 41, 42, 43, 44, 45] (by decide +kernel) rfl 16 rfl rfl) rfl rfl hl.1 rfl (lv_room (Nat.le_of_ble_eq_true rfl)) dL_law_1132 ⟨by omega, by omega⟩) hP hD hS hA [16, 17, 18, 19, 20, 21, 22, 23, 25, 26, 27, 31, 32, 33, 34, 35, 36, 37, 38, 39, 40, 41, 42, 43, 44, 45] [0, 1, 2, 3, 4, 5, 6, 7, 8, 9, 10, 11, 12, 13, 14, 15, 24, 28, 29, 30, 46, 47, 48, 49, 50, 51, 52, 53, 54, 55, 56, 57, 58, 59, 60, 61, 62, 63, 64, 65, 66, 67, 68, 69, 70, 71, 72, 73, 74, 75, 76, 77, 78, 79, 80, 81, 82, 83] rfl (wr := [(aIc cI x5 8 X5), (aIc cI b7 8 B7), (aIc cI b9 8 B9), (oX5 x2 y0 y1), (aIc cI y0 8 Y0), (aIc cI y1 8 Y1), (oX1 x3 t0 t1 t2 t3 ti4 (nI pm) t6 ti7 t8), (aIc cI t0 8 T0), (aIc cI t1 9 T1), (aIc cI t2 9 T2), (aIc cI t3 9 T3), (aIc cI t6 8 T6), (aIc cI t8 9 T8), (oX3 x4 dr0 dr1), (aIc cI dr0 32 DR0), (aIc cI dr1 32 DR1), (aIc cI g9 8 B7), (aIc cI g15 8 B9), (aIc cI g16 32 G16), (aIc cI g17 32 DR1), (aIc cI g38 8 G38), (aIc cI g39 8 G39), (aIc cI g41 9 G41), (aIc cI g42 192 G42), (aIc cI g44 8 G44), (aIc cI g45 8 G45), (aJc cJ o 1 OO), (oX7 x x0 x1 x2 x3 x4 x5), (oX4 x1 x0 s1 s2 (nI z25) z23 s5 s6 s7 s8 s9 s10 s11 z18 z19), (oX0 x0 b0 b1 b2 b3 b4 b5 b6 b7 b8 b9 b10 b11 (nI np) (nI nl) bi14), (oX6 s1 w0 w1 w2 w3 w4 (nI z24) z20 (nI z21) w8), (oX2 s2 d0 d1 d2), (aIc cI b0 8 B0), (aIc cI b1 8 B1), (aIc cI b2 8 B2), (aIc cI b3 8 B3), (aIc cI b4 8 B4), (aIc cI b6 8 B6), (aIc cI b8 64 B8), (aIc cI b10 10 B10), (aIc cI b11 10 B11), (aIc cI s5 8 z3), (aIc cI s6 8 z4), (aIc cI s7 8 z5), (aIc cI s8 8 z6), (aIc cI s9 8 z7), (aIc cI s10 8 z8), (aIc cI s11 8 z9), (aIc cI w0 8 z22), (aIc cI w1 8 z10), (aIc cI w2 8 z11), (aIc cI w3 8 z12), (aIc cI w4 8 z13), (aIc cI w8 8 z14), (aIc cI d0 8 z15), (aIc cI d1 8 z16), (aJc cJ d2 8 z17), (aIc cI b5 8 B5)]) rfl (by decide +kernel) (by decide +kernel) (fun r29 u H locs hw30 hP hD hS => ?_)
  obtain ⟨z31, z32, z33, z34, z35, z36, z37, z38, z39, z40, z41, z42, z43, z44, z45, z46, z47, z48, z49, z50, z51, hz52, hz53, hz54, hz55, hz56, hz57, rfl⟩ := hw30
  refine lv_pop hx hb dL_law_1135 rfl ?_
  refine lv_goto (tgt := 1593) hx hb dL_law_1136 (by decide) ?_
  refine W.widen (k := k9 + 2) (n := n9 + 16) (by omega) (by omega) ?_
  exact kend z25 np nl z24 z21 pm z49 z50 z23 z18 z19 bi14 z20 ti4 ti7 z51 z48 z46 z47 gi40 gi43 X5 z3 z4 z5 z6 z7 z8 z9 B0 B1 B2 B3 B4 B5 B6 B7 B8 B9 B10 B11 z22 z10 z11 z12 z13 z14 z15 z16 Y0 Y1 T0 T1 T2 T3 T6 T8 DR0 DR1 G10 G16 z31 z32 z33 z34 z35 z36 z37 z38 z39 z40 z41 z42 z43 z44 G38 G39 G41 G42 G44 G45 z17 z45 OO _ _ _ dd hdd ⟨hnp, hnl, hz27, hz26, hz28, hpm, hz57, hz56, hli, hor, hBK, hsu, hamt, hz52, hz53, hz54, hz55, hr8, hr16, hto⟩ (k_sub hP [27, 0, 28, 41, 42, 43, 44, 45, 46, 47, 29, 32, 33, 34, 35, 36, 57, 37, 1, 38, 2, 39, 40, 30, 48, 49, 50, 51, 52, 53, 31, 54, 55, 56, 3, 4, 5, 6, 7, 8, 9, 10, 11, 12, 13, 14, 15, 58, 59, 60, 61, 62, 63, 64, 65, 16, 66, 67, 68, 17, 18, 19, 69, 70, 71, 72, 73, 74, 75, 76, 77, 78, 79, 80, 81, 82, 83, 20, 21, 22, 23, 24, 25, 26] rfl) (hD.sub [27, 0, 28, 41, 42, 43, 44, 45, 46, 47, 29, 32, 33, 34, 35, 36, 57, 37, 1, 38, 2, 39, 40, 30, 48, 49, 50, 51, 52, 53, 31, 54, 55, 56, 3, 4, 5, 6, 7, 8, 9, 10, 11, 12, 13, 14, 15, 58, 59, 60, 61, 62, 63, 64, 65, 16, 66, 67, 68, 17, 18, 19, 69, 70, 71, 72, 73, 74, 75, 76, 77, 78, 79, 80, 81, 82, 83, 20, 21, 22, 23, 24, 25, 26] (by decide +kernel) rfl) hS (lv_sub hl [0, 1, 2, 3, 4] rfl)
set_option maxHeartbeats 4000000 in
set_option maxRecDepth 100000 in
/-- without -/
theorem arm_21 {p : Program} {l : Launch} {e : Env} {s : State} {m : MethodId} {below : List Frame} {meth : Method} {c : Code} {b L tf : Nat} {xs : Nat → Int32} {D : va_G} {cI cJ : ClassId} {Q : State → Prop} (C : LC p l s m c b L tf xs D cI cJ) {j k9 n9 : Nat} (hj : j + 6 ≤ L) (hL : L ≤ 3072) (hk9 : k9 + 2 ≤ room_1.cells) (hn9 : n9 + 16 ≤ room_1.slots) {dd : Drawn} (hdd : s.drawn.sameBut dd lw_cs) {x x0 x1 x2 x3 x4 x5 s1 s2 s5 s6 s7 s8 s9 s10 s11 b0 b1 b2 b3 b4 b5 b6 b7 b8 b9 b10 b11 w0 w1 w2 w3 w4 w8 d0 d1 d2 y0 y1 t0 t1 t2 t3 t6 t8 dr0 dr1 g g2 g3 g4 g5 g6 g7 g8 g9 g10 g12 g13 g15 g16 g17 g19 g20 g21 g22 g23 g24 g25 g26 g27 g28 g33 g34 g35 g36 g37 g38 g39 g41 g42 g44 g45 o : Nat} {pn np nl wn lv pm mv tt : Nat} {si4 si12 si13 bi14 wi6 ti4 ti7 gi0 gi18 gi29 gi30 gi40 gi43 : Int32} {X5 S5 S6 S7 S8 S9 S10 S11 B0 B1 B2 B3 B4 B5 B6 B7 B8 B9 B10 B11 W0 W1 W2 W3 W4 W8 D0 D1 Y0 Y1 T0 T1 T2 T3 T6 T8 DR0 DR1 G10 G16 G19 G20 G21 G22 G23 G24 G25 G26 G27 G28 G33 G34 G35 G36 G38 G39 G41 G42 G44 G45 : Nat → Int32} {D2 G37 OO : Nat → Int64} (hI : LInv pn np nl wn lv pm mv tt B0 B1 B2 B3 B6 B8 B10 B11 T6 DR0 G10 G16 G19 G20 G25 G27) {H : Heap} {locs : List Loc} (hP : va_P D vwCl (LWS cI cJ x x0 x1 x2 x3 x4 x5 s1 s2 s5 s6 s7 s8 s9 s10 s11 b0 b1 b2 b3 b4 b5 b6 b7 b8 b9 b10 b11 w0 w1 w2 w3 w4 w8 d0 d1 d2 y0 y1 t0 t1 t2 t3 t6 t8 dr0 dr1 g g2 g3 g4 g5 g6 g7 g8 g9 g10 g12 g13 g15 g16 g17 g19 g20 g21 g22 g23 g24 g25 g26 g27 g28 g33 g34 g35 g36 g37 g38 g39 g41 g42 g44 g45 o pn np nl wn lv pm mv tt si4 si12 si13 bi14 wi6 ti4 ti7 gi0 gi18 gi29 gi30 gi40 gi43 X5 S5 S6 S7 S8 S9 S10 S11 B0 B1 B2 B3 B4 B5 B6 B7 B8 B9 B10 B11 W0 W1 W2 W3 W4 W8 D0 D1 Y0 Y1 T0 T1 T2 T3 T6 T8 DR0 DR1 G10 G16 G19 G20 G21 G22 G23 G24 G25 G26 G27 G28 G33 G34 G35 G36 G38 G39 G41 G42 G44 G45 D2 G37 OO) H) (hD : va_D (fun q : Nat => s.heap.size ≤ q) (LWS cI cJ x x0 x1 x2 x3 x4 x5 s1 s2 s5 s6 s7 s8 s9 s10 s11 b0 b1 b2 b3 b4 b5 b6 b7 b8 b9 b10 b11 w0 w1 w2 w3 w4 w8 d0 d1 d2 y0 y1 t0 t1 t2 t3 t6 t8 dr0 dr1 g g2 g3 g4 g5 g6 g7 g8 g9 g10 g12 g13 g15 g16 g17 g19 g20 g21 g22 g23 g24 g25 g26 g27 g28 g33 g34 g35 g36 g37 g38 g39 g41 g42 g44 g45 o pn np nl wn lv pm mv tt si4 si12 si13 bi14 wi6 ti4 ti7 gi0 gi18 gi29 gi30 gi40 gi43 X5 S5 S6 S7 S8 S9 S10 S11 B0 B1 B2 B3 B4 B5 B6 B7 B8 B9 B10 B11 W0 W1 W2 W3 W4 W8 D0 D1 Y0 Y1 T0 T1 T2 T3 T6 T8 DR0 DR1 G10 G16 G19 G20 G21 G22 G23 G24 G25 G26 G27 G28 G33 G34 G35 G36 G38 G39 G41 G42 G44 G45 D2 G37 OO)) (hS : va_S (fun q : Nat => s.heap.size ≤ q) s.heap H locs) {ls : Array Slot} (hl : lv_has ls 7 [(4, .int (nI j)), (3, .ref o), (2, .ref g), (1, .ref x), (0, .ref b)])
    (kend : ∀ (pn np nl wn lv pm mv tt : Nat) (si4 si12 si13 bi14 wi6 ti4 ti7 gi0 gi18 gi29 gi30 gi40 gi43 : Int32) (X5 S5 S6 S7 S8 S9 S10 S11 B0 B1 B2 B3 B4 B5 B6 B7 B8 B9 B10 B11 W0 W1 W2 W3 W4 W8 D0 D1 Y0 Y1 T0 T1 T2 T3 T6 T8 DR0 DR1 G10 G16 G19 G20 G21 G22 G23 G24 G25 G26 G27 G28 G33 G34 G35 G36 G38 G39 G41 G42 G44 G45 : Nat → Int32) (D2 G37 OO : Nat → Int64) (H1 : Heap) (locs1 : List Loc) (ls1 : Array Slot) (dw1 : Drawn), s.drawn.sameBut dw1 lw_cs → LInv pn np nl wn lv pm mv tt B0 B1 B2 B3 B6 B8 B10 B11 T6 DR0 G10 G16 G19 G20 G25 G27 → va_P D vwCl (LWS cI cJ x x0 x1 x2 x3 x4 x5 s1 s2 s5 s6 s7 s8 s9 s10 s11 b0 b1 b2 b3 b4 b5 b6 b7 b8 b9 b10 b11 w0 w1 w2 w3 w4 w8 d0 d1 d2 y0 y1 t0 t1 t2 t3 t6 t8 dr0 dr1 g g2 g3 g4 g5 g6 g7 g8 g9 g10 g12 g13 g15 g16 g17 g19 g20 g21 g22 g23 g24 g25 g26 g27 g28 g33 g34 g35 g36 g37 g38 g39 g41 g42 g44 g45 o pn np nl wn lv pm mv tt si4 si12 si13 bi14 wi6 ti4 ti7 gi0 gi18 gi29 gi30 gi40 gi43 X5 S5 S6 S7 S8 S9 S10 S11 B0 B1 B2 B3 B4 B5 B6 B7 B8 B9 B10 B11 W0 W1 W2 W3 W4 W8 D0 D1 Y0 Y1 T0 T1 T2 T3 T6 T8 DR0 DR1 G10 G16 G19 G20 G21 G22 G23 G24 G25 G26 G27 G28 G33 G34 G35 G36 G38 G39 G41 G42 G44 G45 D2 G37 OO) H1 → va_D (fun q : Nat => s.heap.size ≤ q) (LWS cI cJ x x0 x1 x2 x3 x4 x5 s1 s2 s5 s6 s7 s8 s9 s10 s11 b0 b1 b2 b3 b4 b5 b6 b7 b8 b9 b10 b11 w0 w1 w2 w3 w4 w8 d0 d1 d2 y0 y1 t0 t1 t2 t3 t6 t8 dr0 dr1 g g2 g3 g4 g5 g6 g7 g8 g9 g10 g12 g13 g15 g16 g17 g19 g20 g21 g22 g23 g24 g25 g26 g27 g28 g33 g34 g35 g36 g37 g38 g39 g41 g42 g44 g45 o pn np nl wn lv pm mv tt si4 si12 si13 bi14 wi6 ti4 ti7 gi0 gi18 gi29 gi30 gi40 gi43 X5 S5 S6 S7 S8 S9 S10 S11 B0 B1 B2 B3 B4 B5 B6 B7 B8 B9 B10 B11 W0 W1 W2 W3 W4 W8 D0 D1 Y0 Y1 T0 T1 T2 T3 T6 T8 DR0 DR1 G10 G16 G19 G20 G21 G22 G23 G24 G25 G26 G27 G28 G33 G34 G35 G36 G38 G39 G41 G42 G44 G45 D2 G37 OO) → va_S (fun q : Nat => s.heap.size ≤ q) s.heap H1 locs1 → lv_has ls1 7 [(4, .int (nI j)), (3, .ref o), (2, .ref g), (1, .ref x), (0, .ref b)] → W p l e room_1 (s.setDrawn dw1) m #[Value.ref b] below meth c H1 locs1 (k9 + 2) (n9 + 16) Q (F0 m 1593 ls1 [])) : W p l e room_1 (s.setDrawn dd) m #[Value.ref b] below meth c H locs k9 n9 Q (F0 m 1139 ls []) := by
  obtain ⟨hx, hb, hml, hown, htsB, hE, hX, hbl, hXw, hZ, hl9⟩ := C
  have hXw0 := hXw
  have hA : ∀ q : Nat, s.heap.size ≤ q → (fun q : Nat => s.heap.size ≤ q) q := fun _ h => h
  have hbA : ¬ (fun q : Nat => s.heap.size ≤ q) b := Nat.not_le.mpr hbl
  obtain ⟨hnp, hnl, hwn, hlv, hpn, hpm, hmv, htt, hli, hor, hBK, hsu, hamt, hLE, hLO, hLW, hSH, hr8, hr16, hto⟩ := hI
  obtain ⟨li0, wo0, de0, ag0, hliv, hlib, hl1, hwov, hwob, hdev, hdeb, hagv, hagb⟩ := id hBK
  obtain ⟨a1, hsx1⟩ : ∃ y : Int32, xs (Int32.toNatClampNeg (nI (j + 1))) = y := ⟨_, rfl⟩
  obtain ⟨a2, hsx2⟩ : ∃ y : Int32, xs (Int32.toNatClampNeg (nI (j + 2))) = y := ⟨_, rfl⟩
  obtain ⟨a3, hsx3⟩ : ∃ y : Int32, xs (Int32.toNatClampNeg (nI (j + 3))) = y := ⟨_, rfl⟩
  obtain ⟨a4, hsx4⟩ : ∃ y : Int32, xs (Int32.toNatClampNeg (nI (j + 4))) = y := ⟨_, rfl⟩
  obtain ⟨a5, hsx5⟩ : ∃ y : Int32, xs (Int32.toNatClampNeg (nI (j + 5))) = y := ⟨_, rfl⟩
  have hts := dr_words htsB dd
  have hE : eK D cI cJ (s.setDrawn dd) := hE
  have hown : (s.setDrawn dd).vm.findClass RL = some m.cls := hown
  have hX : va_X b L xs (s.setDrawn dd) s.heap := hX
  have hXw : xw (fun q : Nat => s.heap.size ≤ q) (s.setDrawn dd) s.heap := xw.same (u := s) (U := s.setDrawn dd) rfl hXw0
  have hZ : fz tf (fun q : Nat => s.heap.size ≤ q) (s.setDrawn dd) s.heap := hZ
  refine lv_aload_n hx hb dL_law_1139 rfl (lv_at hl 3 rfl) ?_
  refine lv_aload_n hx hb dL_law_1140 rfl (lv_at hl 4 rfl) ?_
  refine lv_iload hx hb dL_law_1141 (lv_at hl 0 rfl) ?_
  refine lv_iconst (v := 1) hx hb dL_law_1143 (by decide) ?_
  refine lv_iadd hx hb dL_law_1144 ?_
  refine k_topi (nI_add j 1) ?_
  refine va_sld hx hb hX hbl hbA hS (vp_in_nI (n := j + 1) (by omega) (by omega)) dL_law_1145 ?_
  rw [hsx1]
  refine lv_aload_n hx hb dL_law_1146 rfl (lv_at hl 4 rfl) ?_
  refine lv_iload hx hb dL_law_1147 (lv_at hl 0 rfl) ?_
  refine lv_iconst (v := 2) hx hb dL_law_1149 (by decide) ?_
  refine lv_iadd hx hb dL_law_1150 ?_
  refine k_topi (nI_add j 2) ?_
  refine va_sld hx hb hX hbl hbA hS (vp_in_nI (n := j + 2) (by omega) (by omega)) dL_law_1151 ?_
  rw [hsx2]
  refine k_i (va_runV (As := [.int a1, .int a2]) (rest := []) ⟨hx, hb, hml, hown, hts⟩ (m_X7_without l D cI cJ H.size x x0 x1 x2 x3 x4 x5 s1 s2 s5 s6 s7 s8 s9 s10 s11 b0 b1 b2 b3 b4 b5 b6 b7 b8 b9 b10 b11 w0 w1 w2 w3 w4 w8 d0 d1 d2 wn lv np nl pn si4 si12 si13 bi14 wi6 a1 a2 B0 B1 B2 B3 B4 B6 B8 B10 B11 S5 S6 S7 S8 S9 S10 S11 W0 W1 W2 W3 W4 W8 D0 D1 D2 B5 hwn hlv hli hnp hnl hpn) (cwV 2 hts hL_law_X7_without rfl rfl rfl (by decide +kernel) ⟨Nat.le_of_ble_eq_true rfl, Nat.le_of_ble_eq_true rfl⟩) (k_preV hE hP hD [0, 2, 10, 23, 30, 11, 12, 13, 14, 15, 17, 19, 21, 22, 3, 4, 5, 6, 7, 8, 9, 24, 25, 26, 27, 28, 29, 31, 32, 33, 16] (by decide +kernel) rfl 0 rfl rfl) rfl rfl hl.1 rfl (lv_room (Nat.le_of_ble_eq_true rfl)) dL_law_1152 ⟨by omega, by omega⟩) hP hD hS hA [0, 2, 10, 23, 30, 11, 12, 13, 14, 15, 17, 19, 21, 22, 3, 4, 5, 6, 7, 8, 9, 24, 25, 26, 27, 28, 29, 31, 32, 33, 16] [1, 18, 20, 34, 35, 36, 37, 38, 39, 40, 41, 42, 43, 44, 45, 46, 47, 48, 49, 50, 51, 52, 53, 54, 55, 56, 57, 58, 59, 60, 61, 62, 63, 64, 65, 66, 67, 68, 69, 70, 71, 72, 73, 74, 75, 76, 77, 78, 79, 80, 81, 82, 83] rfl (wr := [(aIc cI x5 8 X5), (aIc cI b7 8 B7), (aIc cI b9 8 B9), (oX5 x2 y0 y1), (aIc cI y0 8 Y0), (aIc cI y1 8 Y1), (oX1 x3 t0 t1 t2 t3 ti4 (nI pm) t6 ti7 t8), (aIc cI t0 8 T0), (aIc cI t1 9 T1), (aIc cI t2 9 T2), (aIc cI t3 9 T3), (aIc cI t6 8 T6), (aIc cI t8 9 T8), (oX3 x4 dr0 dr1), (aIc cI dr0 32 DR0), (aIc cI dr1 32 DR1), (oX8 g gi0 (nI np) g2 g3 g4 g5 g6 g7 g8 g9 g10 (nI nl) g12 g13 bi14 g15 g16 g17 gi18 g19 g20 g21 g22 g23 g24 g25 g26 g27 g28 gi29 gi30 (nI mv) (nI tt) g33 g34 g35 g36 g37 g38 g39 gi40 g41 g42 gi43 g44 g45), (aIc cI g2 8 B0), (aIc cI g3 8 B1), (aIc cI g4 8 B2), (aIc cI g5 8 B3), (aIc cI g6 8 B4), (aIc cI g7 8 B5), (aIc cI g8 8 B6), (aIc cI g9 8 B7), (aIc cI g10 64 G10), (aIc cI g12 10 B10), (aIc cI g13 10 B11), (aIc cI g15 8 B9), (aIc cI g16 32 G16), (aIc cI g17 32 DR1), (aIc cI g19 8 G19), (aIc cI g20 8 G20), (aIc cI g21 8 G21), (aIc cI g22 8 G22), (aIc cI g23 8 G23), (aIc cI g24 8 G24), (aIc cI g25 8 G25), (aIc cI g26 8 G26), (aIc cI g27 8 G27), (aIc cI g28 8 G28), (aIc cI g33 8 G33), (aIc cI g34 8 G34), (aIc cI g35 8 G35), (aIc cI g36 8 G36), (aJc cJ g37 8 G37), (aIc cI g38 8 G38), (aIc cI g39 8 G39), (aIc cI g41 9 G41), (aIc cI g42 192 G42), (aIc cI g44 8 G44), (aIc cI g45 8 G45), (aJc cJ o 1 OO)]) rfl (by decide +kernel) (by decide +kernel) (fun r1 u H locs hw2 hP hD hS => ?_)
  obtain ⟨z3, z4, z5, z6, z7, z8, z9, z10, z11, z12, z13, z14, z15, z16, z17, z18, z19, z20, z21, z22, z23, z24, z25, hz26, hz27, hz28, rfl⟩ := hw2
  refine lv_pop hx hb dL_law_1155 rfl ?_
  refine lv_aload_n hx hb dL_law_1156 rfl (lv_at hl 2 rfl) ?_
  refine lv_aload_n hx hb dL_law_1157 rfl (lv_at hl 4 rfl) ?_
  refine lv_iload hx hb dL_law_1158 (lv_at hl 0 rfl) ?_
  refine lv_iconst (v := 1) hx hb dL_law_1160 (by decide) ?_
  refine lv_iadd hx hb dL_law_1161 ?_
  refine k_topi (nI_add j 1) ?_
  refine va_sld hx hb hX hbl hbA hS (vp_in_nI (n := j + 1) (by omega) (by omega)) dL_law_1162 ?_
  rw [hsx1]
  refine lv_aload_n hx hb dL_law_1163 rfl (lv_at hl 4 rfl) ?_
  refine lv_iload hx hb dL_law_1164 (lv_at hl 0 rfl) ?_
  refine lv_iconst (v := 2) hx hb dL_law_1166 (by decide) ?_
  refine lv_iadd hx hb dL_law_1167 ?_
  refine k_topi (nI_add j 2) ?_
  refine va_sld hx hb hX hbl hbA hS (vp_in_nI (n := j + 2) (by omega) (by omega)) dL_law_1168 ?_
  rw [hsx2]
  refine k_i (va_runV (As := [.int a1, .int a2]) (rest := []) ⟨hx, hb, hml, hown, hts⟩ (m_X8_without l D cI cJ H.size g g2 g3 g4 g5 g6 g7 g8 g9 g10 g12 g13 g15 g16 g17 g19 g20 g21 g22 g23 g24 g25 g26 g27 g28 g33 g34 g35 g36 g37 g38 g39 g41 g42 g44 g45 np nl mv tt gi0 bi14 gi18 gi29 gi30 gi40 gi43 a1 a2 B0 B1 B2 B3 B4 B5 B6 G10 B10 B11 G19 G20 G21 G22 G23 G24 G25 G26 G27 G28 G33 G34 G35 G36 G37 li0 wo0 de0 ag0 hnp hnl hli hsu hliv hlib hwov hwob hdev hdeb hagv hagb hamt hLE hLO hLW hSH htt hmv) (cwV 2 hts hL_law_X8_without rfl rfl rfl (by decide +kernel) ⟨Nat.le_of_ble_eq_true rfl, Nat.le_of_ble_eq_true rfl⟩) (k_preV hE hP hD [16, 17, 18, 19, 20, 21, 22, 23, 25, 26, 27, 31, 32, 33, 34, 35, 36, 37, 38, 39, 40, 41, 42, 43, 44, 45] (by decide +kernel) rfl 16 rfl rfl) rfl rfl hl.1 rfl (lv_room (Nat.le_of_ble_eq_true rfl)) dL_law_1169 ⟨by omega, by omega⟩) hP hD hS hA [16, 17, 18, 19, 20, 21, 22, 23, 25, 26, 27, 31, 32, 33, 34, 35, 36, 37, 38, 39, 40, 41, 42, 43, 44, 45] [0, 1, 2, 3, 4, 5, 6, 7, 8, 9, 10, 11, 12, 13, 14, 15, 24, 28, 29, 30, 46, 47, 48, 49, 50, 51, 52, 53, 54, 55, 56, 57, 58, 59, 60, 61, 62, 63, 64, 65, 66, 67, 68, 69, 70, 71, 72, 73, 74, 75, 76, 77, 78, 79, 80, 81, 82, 83] rfl (wr := [(aIc cI x5 8 X5), (aIc cI b7 8 B7), (aIc cI b9 8 B9), (oX5 x2 y0 y1), (aIc cI y0 8 Y0), (aIc cI y1 8 Y1), (oX1 x3 t0 t1 t2 t3 ti4 (nI pm) t6 ti7 t8), (aIc cI t0 8 T0), (aIc cI t1 9 T1), (aIc cI t2 9 T2), (aIc cI t3 9 T3), (aIc cI t6 8 T6), (aIc cI t8 9 T8), (oX3 x4 dr0 dr1), (aIc cI dr0 32 DR0), (aIc cI dr1 32 DR1), (aIc cI g9 8 B7), (aIc cI g15 8 B9), (aIc cI g16 32 G16), (aIc cI g17 32 DR1), (aIc cI g38 8 G38), (aIc cI g39 8 G39), (aIc cI g41 9 G41), (aIc cI g42 192 G42), (aIc cI g44 8 G44), (aIc cI g45 8 G45), (aJc cJ o 1 OO), (oX7 x x0 x1 x2 x3 x4 x5), (oX4 x1 x0 s1 s2 (nI z25) z23 s5 s6 s7 s8 s9 s10 s11 z18 z19), (oX0 x0 b0 b1 b2 b3 b4 b5 b6 b7 b8 b9 b10 b11 (nI np) (nI nl) bi14), (oX6 s1 w0 w1 w2 w3 w4 (nI z24) z20 (nI z21) w8), (oX2 s2 d0 d1 d2), (aIc cI b0 8 B0), (aIc cI b1 8 B1), (aIc cI b2 8 B2), (aIc cI b3 8 B3), (aIc cI b4 8 B4), (aIc cI b6 8 B6), (aIc cI b8 64 B8), (aIc cI b10 10 B10), (aIc cI b11 10 B11), (aIc cI s5 8 z3), (aIc cI s6 8 z4), (aIc cI s7 8 z5), (aIc cI s8 8 z6), (aIc cI s9 8 z7), (aIc cI s10 8 z8), (aIc cI s11 8 z9), (aIc cI w0 8 z22), (aIc cI w1 8 z10), (aIc cI w2 8 z11), (aIc cI w3 8 z12), (aIc cI w4 8 z13), (aIc cI w8 8 z14), (aIc cI d0 8 z15), (aIc cI d1 8 z16), (aJc cJ d2 8 z17), (aIc cI b5 8 B5)]) rfl (by decide +kernel) (by decide +kernel) (fun r29 u H locs hw30 hP hD hS => ?_)
  obtain ⟨z31, z32, z33, z34, z35, z36, z37, z38, z39, z40, z41, z42, z43, z44, z45, z46, z47, z48, z49, z50, z51, hz52, hz53, hz54, hz55, hz56, hz57, rfl⟩ := hw30
  refine lv_pop hx hb dL_law_1172 rfl ?_
  refine lv_goto (tgt := 1593) hx hb dL_law_1173 (by decide) ?_
  refine W.widen (k := k9 + 2) (n := n9 + 16) (by omega) (by omega) ?_
  exact kend z25 np nl z24 z21 pm z49 z50 z23 z18 z19 bi14 z20 ti4 ti7 z51 z48 z46 z47 gi40 gi43 X5 z3 z4 z5 z6 z7 z8 z9 B0 B1 B2 B3 B4 B5 B6 B7 B8 B9 B10 B11 z22 z10 z11 z12 z13 z14 z15 z16 Y0 Y1 T0 T1 T2 T3 T6 T8 DR0 DR1 G10 G16 z31 z32 z33 z34 z35 z36 z37 z38 z39 z40 z41 z42 z43 z44 G38 G39 G41 G42 G44 G45 z17 z45 OO _ _ _ dd hdd ⟨hnp, hnl, hz27, hz26, hz28, hpm, hz57, hz56, hli, hor, hBK, hsu, hamt, hz52, hz53, hz54, hz55, hr8, hr16, hto⟩ (k_sub hP [27, 0, 28, 41, 42, 43, 44, 45, 46, 47, 29, 32, 33, 34, 35, 36, 57, 37, 1, 38, 2, 39, 40, 30, 48, 49, 50, 51, 52, 53, 31, 54, 55, 56, 3, 4, 5, 6, 7, 8, 9, 10, 11, 12, 13, 14, 15, 58, 59, 60, 61, 62, 63, 64, 65, 16, 66, 67, 68, 17, 18, 19, 69, 70, 71, 72, 73, 74, 75, 76, 77, 78, 79, 80, 81, 82, 83, 20, 21, 22, 23, 24, 25, 26] rfl) (hD.sub [27, 0, 28, 41, 42, 43, 44, 45, 46, 47, 29, 32, 33, 34, 35, 36, 57, 37, 1, 38, 2, 39, 40, 30, 48, 49, 50, 51, 52, 53, 31, 54, 55, 56, 3, 4, 5, 6, 7, 8, 9, 10, 11, 12, 13, 14, 15, 58, 59, 60, 61, 62, 63, 64, 65, 16, 66, 67, 68, 17, 18, 19, 69, 70, 71, 72, 73, 74, 75, 76, 77, 78, 79, 80, 81, 82, 83, 20, 21, 22, 23, 24, 25, 26] (by decide +kernel) rfl) hS (lv_sub hl [0, 1, 2, 3, 4] rfl)

