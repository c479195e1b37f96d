theorem dX8_totalOf_0 : decode cX8_totalOf 0 = .ok (.aload_n 0, 1) := by decide +kernel
theorem dX8_totalOf_1 : decode cX8_totalOf 1 = .ok (.iload_n 1, 1) := by decide +kernel
theorem dX8_totalOf_2 : decode cX8_totalOf 2 = .ok (.iload_n 2, 1) := by decide +kernel
theorem dX8_totalOf_3 : decode cX8_totalOf 3 = .ok (.invokevirtual 224, 3) := by decide +kernel
theorem dX8_totalOf_6 : decode cX8_totalOf 6 = .ok (.aload_n 0, 1) := by decide +kernel
theorem dX8_totalOf_7 : decode cX8_totalOf 7 = .ok (.getfield 198, 3) := by decide +kernel
theorem dX8_totalOf_10 : decode cX8_totalOf 10 = .ok (.ireturn, 1) := by decide +kernel
theorem gX8_totalOf_X8_settlesTo : GoodIn wtX8_totalOf (wsV RX8 224 RX8 yX8_settlesTo wtX8_settlesTo) := tb_good (tb_v0 wd_482 wd_483 wd_484 wd_5 wd_485)
set_option maxHeartbeats 4000000 in
set_option maxRecDepth 100000 in
theorem m_X8_totalOf (l : Launch) (D : va_G) (cI cJ : ClassId) (sz : Nat) (g g2 g3 g4 g5 g6 g7 g8 g9 g10 g12 g13 g15 g16 g17 g19 g20 g21 g22 g23 g24 g25 g26 g27 g28 g33 g34 g35 g36 g37 g38 g39 g41 g42 g44 g45 l0 mn ml mv tt : Nat) (gi0 gi14 gi18 gi29 gi30 gi40 gi43 se : Int32) (G2 G3 G4 G5 G6 G7 G8 G10 G12 G13 G19 G20 G21 G22 G23 G24 G25 G26 G27 G28 G33 G34 G35 G36 : Nat → Int32) (G37 : Nat → Int64) (li0 wo0 de0 ag0 : Nat → Nat) (hmn : mn ≤ 8) (hmL : ml ≤ 10) (hit : ∀ k, k < 10 → ∃ j : Nat, j < 8 ∧ G12 k = nI j) (hsu : ∀ k, k < 64 → ∃ j : Nat, j ≤ 1000001 ∧ G10 k = nI j) (hliv : nv G2 li0) (hlib : ∀ k, k < 8 → li0 k ≤ 1000000) (hwov : nv G5 wo0) (hwob : ∀ k, k < 8 → wo0 k ≤ 9000000) (hdev : nv G4 de0) (hdeb : ∀ k, k < 8 → de0 k ≤ 99999) (hagv : nv G3 ag0) (hagb : ∀ k, k < 8 → ag0 k ≤ 9000000) (hamt : ∀ k, k < 10 → ∃ j : Nat, j < 1000001 ∧ G13 k = nI j) (hLE : LE G19) (hLO : LO G20) (hLW : LW G25) (hSH : SH G27 tt) (htt : tt ≤ 1000000) (hmv : mv ≤ 8) (hl0 : l0 < 10) : Met l yX8_totalOf wtX8_totalOf { frames := 8, cells := 0, slots := 0, locals := 189 } (cPc D cI cJ [.ref g, .int (nI l0), .int se] sz [(oX8 g gi0 (nI mn) g2 g3 g4 g5 g6 g7 g8 g9 g10 (nI ml) g12 g13 gi14 g15 g16 g17 gi18 g19 g20 g21 g22 g23 g24 g25 g26 g27 g28 gi29 gi30 (nI mv) (nI tt) g33 g34 g35 g36 g37 g38 g39 gi40 g41 g42 gi43 g44 g45), (aIc cI g2 8 G2), (aIc cI g3 8 G3), (aIc cI g4 8 G4), (aIc cI g5 8 G5), (aIc cI g6 8 G6), (aIc cI g7 8 G7), (aIc cI g8 8 G8), (aIc cI g10 64 G10), (aIc cI g12 10 G12), (aIc cI g13 10 G13), (aIc cI g19 8 G19), (aIc cI g20 8 G20), (aIc cI g21 8 G21), (aIc cI g22 8 G22), (aIc cI g23 8 G23), (aIc cI g24 8 G24), (aIc cI g25 8 G25), (aIc cI g26 8 G26), (aIc cI g27 8 G27), (aIc cI g28 8 G28), (aIc cI g33 8 G33), (aIc cI g34 8 G34), (aIc cI g35 8 G35), (aIc cI g36 8 G36), (aJc cJ g37 8 G37)]) (cQi D (fun r u => ∃ (G19p G20p G21p G22p G23p G24p G25p G26p G27p G28p G33p G34p G35p G36p : Nat → Int32) (G37p : Nat → Int64) (gi29p gi30p gi18p : Int32) (mvp ttp : Nat), (LE G19p) ∧ (LO G20p) ∧ (LW G25p) ∧ (SH G27p ttp) ∧ (ttp ≤ 1000000) ∧ (mvp ≤ 8) ∧ u = [(oX8 g gi0 (nI mn) g2 g3 g4 g5 g6 g7 g8 g9 g10 (nI ml) g12 g13 gi14 g15 g16 g17 gi18p g19 g20 g21 g22 g23 g24 g25 g26 g27 g28 gi29p gi30p (nI mvp) (nI ttp) g33 g34 g35 g36 g37 g38 g39 gi40 g41 g42 gi43 g44 g45), (aIc cI g2 8 G2), (aIc cI g3 8 G3), (aIc cI g4 8 G4), (aIc cI g5 8 G5), (aIc cI g6 8 G6), (aIc cI g7 8 G7), (aIc cI g8 8 G8), (aIc cI g10 64 G10), (aIc cI g12 10 G12), (aIc cI g13 10 G13), (aIc cI g19 8 G19p), (aIc cI g20 8 G20p), (aIc cI g21 8 G21p), (aIc cI g22 8 G22p), (aIc cI g23 8 G23p), (aIc cI g24 8 G24p), (aIc cI g25 8 G25p), (aIc cI g26 8 G26p), (aIc cI g27 8 G27p), (aIc cI g28 8 G28p), (aIc cI g33 8 G33p), (aIc cI g34 8 G34p), (aIc cI g35 8 G35p), (aIc cI g36 8 G36p), (aJc cJ g37 8 G37p)]) (va_A [(oX8 g gi0 (nI mn) g2 g3 g4 g5 g6 g7 g8 g9 g10 (nI ml) g12 g13 gi14 g15 g16 g17 gi18 g19 g20 g21 g22 g23 g24 g25 g26 g27 g28 gi29 gi30 (nI mv) (nI tt) g33 g34 g35 g36 g37 g38 g39 gi40 g41 g42 gi43 g44 g45), (aIc cI g2 8 G2), (aIc cI g3 8 G3), (aIc cI g4 8 G4), (aIc cI g5 8 G5), (aIc cI g6 8 G6), (aIc cI g7 8 G7), (aIc cI g8 8 G8), (aIc cI g10 64 G10), (aIc cI g12 10 G12), (aIc cI g13 10 G13), (aIc cI g19 8 G19), (aIc cI g20 8 G20), (aIc cI g21 8 G21), (aIc cI g22 8 G22), (aIc cI g23 8 G23), (aIc cI g24 8 G24), (aIc cI g25 8 G25), (aIc cI g26 8 G26), (aIc cI g27 8 G27), (aIc cI g28 8 G28), (aIc cI g33 8 G33), (aIc cI g34 8 G34), (aIc cI g35 8 G35), (aIc cI g36 8 G36), (aJc cJ g37 8 G37)] sz)) 0 0 (va_A [(oX8 g gi0 (nI mn) g2 g3 g4 g5 g6 g7 g8 g9 g10 (nI ml) g12 g13 gi14 g15 g16 g17 gi18 g19 g20 g21 g22 g23 g24 g25 g26 g27 g28 gi29 gi30 (nI mv) (nI tt) g33 g34 g35 g36 g37 g38 g39 gi40 g41 g42 gi43 g44 g45), (aIc cI g2 8 G2), (aIc cI g3 8 G3), (aIc cI g4 8 G4), (aIc cI g5 8 G5), (aIc cI g6 8 G6), (aIc cI g7 8 G7), (aIc cI g8 8 G8), (aIc cI g10 64 G10), (aIc cI g12 10 G12), (aIc cI g13 10 G13), (aIc cI g19 8 G19), (aIc cI g20 8 G20), (aIc cI g21 8 G21), (aIc cI g22 8 G22), (aIc cI g23 8 G23), (aIc cI g24 8 G24), (aIc cI g25 8 G25), (aIc cI g26 8 G26), (aIc cI g27 8 G27), (aIc cI g28 8 G28), (aIc cI g33 8 G33), (aIc cI g34 8 G34), (aIc cI g35 8 G35), (aIc cI g36 8 G36), (aJc cJ g37 8 G37)] sz) := by
  refine k_ofW (Qc := cQi D (fun r u => ∃ (G19p G20p G21p G22p G23p G24p G25p G26p G27p G28p G33p G34p G35p G36p : Nat → Int32) (G37p : Nat → Int64) (gi29p gi30p gi18p : Int32) (mvp ttp : Nat), (LE G19p) ∧ (LO G20p) ∧ (LW G25p) ∧ (SH G27p ttp) ∧ (ttp ≤ 1000000) ∧ (mvp ≤ 8) ∧ u = [(oX8 g gi0 (nI mn) g2 g3 g4 g5 g6 g7 g8 g9 g10 (nI ml) g12 g13 gi14 g15 g16 g17 gi18p g19 g20 g21 g22 g23 g24 g25 g26 g27 g28 gi29p gi30p (nI mvp) (nI ttp) g33 g34 g35 g36 g37 g38 g39 gi40 g41 g42 gi43 g44 g45), (aIc cI g2 8 G2), (aIc cI g3 8 G3), (aIc cI g4 8 G4), (aIc cI g5 8 G5), (aIc cI g6 8 G6), (aIc cI g7 8 G7), (aIc cI g8 8 G8), (aIc cI g10 64 G10), (aIc cI g12 10 G12), (aIc cI g13 10 G13), (aIc cI g19 8 G19p), (aIc cI g20 8 G20p), (aIc cI g21 8 G21p), (aIc cI g22 8 G22p), (aIc cI g23 8 G23p), (aIc cI g24 8 G24p), (aIc cI g25 8 G25p), (aIc cI g26 8 G26p), (aIc cI g27 8 G27p), (aIc cI g28 8 G28p), (aIc cI g33 8 G33p), (aIc cI g34 8 G34p), (aIc cI g35 8 G35p), (aIc cI g36 8 G36p), (aJc cJ g37 8 G37p)])) (by decide) rfl (Nat.le_of_ble_eq_true rfl) ?_
  intro p e s m below meth c A ls hx hb hr hml hts hown hlk hnm hsz hE hP hD hS hA hl
  have hown : s.vm.findClass RX8 = some m.cls := hown
  have hiX8 : ∀ w ∈ u_ws RX8 TX8 46, w ∈ wtX8_totalOf := fun w h => List.mem_cons_of_mem _ (iuX8 w h)
  have hl : lv_has ls 3 [(0, .ref g), (1, .int (nI l0)), (2, .int se)] := hl
  refine lv_aload_n hx hb dX8_totalOf_0 rfl (lv_at hl 0 rfl) ?_
  refine lv_iload_n hx hb dX8_totalOf_1 rfl (lv_at hl 1 rfl) ?_
  refine lv_iload_n hx hb dX8_totalOf_2 rfl (lv_at hl 2 rfl) ?_
  refine k_v (va_runV (As := [.int (nI l0), .int se]) (rest := []) ⟨hx, hb, hml, hown, hts⟩ (m_X8_settlesTo l D cI cJ (s.heap).size g g2 g3 g4 g5 g6 g7 g8 g9 g10 g12 g13 g15 g16 g17 g19 g20 g21 g22 g23 g24 g25 g26 g27 g28 g33 g34 g35 g36 g37 g38 g39 g41 g42 g44 g45 mn ml mv tt (l0 + 1) gi0 gi14 gi18 gi29 gi30 gi40 gi43 (nI l0) se G2 G3 G4 G5 G6 G7 G8 G10 G12 G13 G19 G20 G21 G22 G23 G24 G25 G26 G27 G28 G33 G34 G35 G36 G37 li0 wo0 de0 ag0 (nI_pred l0).symm (by omega) hit hsu hliv hlib hwov hwob hdev hdeb hagv hagb hamt hLE hLO hLW hSH htt hmv) (cwV 2 hts gX8_totalOf_X8_settlesTo rfl rfl rfl (by decide +kernel) ⟨Nat.le_of_ble_eq_true rfl, Nat.le_of_ble_eq_true rfl⟩) (k_preV hE hP hD [0, 1, 2, 3, 4, 5, 6, 7, 8, 9, 10, 11, 12, 13, 14, 15, 16, 17, 18, 19, 20, 21, 22, 23, 24, 25] (by decide +kernel) rfl 0 rfl rfl) rfl rfl hl.1 rfl (lv_room (Nat.le_of_ble_eq_true rfl)) dX8_totalOf_3 ⟨Nat.le_of_ble_eq_true rfl, Nat.le_of_ble_eq_true rfl⟩) hP hD hS hA [0, 1, 2, 3, 4, 5, 6, 7, 8, 9, 10, 11, 12, 13, 14, 15, 16, 17, 18, 19, 20, 21, 22, 23, 24, 25] [] rfl (wr := []) rfl (by decide +kernel) (by decide +kernel) (fun u H locs hw1 hP hD hS => ?_)
  obtain ⟨z2, z3, z4, z5, z6, z7, z8, z9, z10, z11, z12, z13, z14, z15, z16, z17, z18, z19, z20, z21, hz22, hz23, hz24, hz25, hz26, hz27, hz28, rfl⟩ := hw1
  refine k_re (w := [(oX8 g gi0 (nI mn) g2 g3 g4 g5 g6 g7 g8 g9 g10 (nI ml) g12 g13 gi14 g15 g16 g17 z19 g19 g20 g21 g22 g23 g24 g25 g26 g27 g28 z17 z18 (nI z20) (nI z21) g33 g34 g35 g36 g37 g38 g39 gi40 g41 g42 gi43 g44 g45), (aIc cI g2 8 G2), (aIc cI g3 8 G3), (aIc cI g4 8 G4), (aIc cI g5 8 G5), (aIc cI g6 8 G6), (aIc cI g7 8 G7), (aIc cI g8 8 G8), (aIc cI g10 64 G10), (aIc cI g12 10 G12), (aIc cI g13 10 G13), (aIc cI g19 8 z2), (aIc cI g20 8 z3), (aIc cI g21 8 z4), (aIc cI g22 8 z5), (aIc cI g23 8 z6), (aIc cI g24 8 z7), (aIc cI g25 8 z8), (aIc cI g26 8 z9), (aIc cI g27 8 z10), (aIc cI g28 8 z11), (aIc cI g33 8 z12), (aIc cI g34 8 z13), (aIc cI g35 8 z14), (aIc cI g36 8 z15), (aJc cJ g37 8 z16)]) hP hD (fun hP hD => ?_)
  refine lv_aload_n hx hb dX8_totalOf_6 rfl (lv_at hl 0 rfl) ?_
  refine va_get (D := D) (ci := 8) (v := .int (nI z21)) (C := RX8) (T := TX8) (N := 46) hx hb hts hiX8 hown hE.1 hP 0 rfl rfl 32 (by decide) (hts _ (List.mem_cons_of_mem _ wd_412)) (fun _ h9 => h9) rfl dX8_totalOf_7 ?_
  refine k_iret (u := [(oX8 g gi0 (nI mn) g2 g3 g4 g5 g6 g7 g8 g9 g10 (nI ml) g12 g13 gi14 g15 g16 g17 z19 g19 g20 g21 g22 g23 g24 g25 g26 g27 g28 z17 z18 (nI z20) (nI z21) g33 g34 g35 g36 g37 g38 g39 gi40 g41 g42 gi43 g44 g45), (aIc cI g2 8 G2), (aIc cI g3 8 G3), (aIc cI g4 8 G4), (aIc cI g5 8 G5), (aIc cI g6 8 G6), (aIc cI g7 8 G7), (aIc cI g8 8 G8), (aIc cI g10 64 G10), (aIc cI g12 10 G12), (aIc cI g13 10 G13), (aIc cI g19 8 z2), (aIc cI g20 8 z3), (aIc cI g21 8 z4), (aIc cI g22 8 z5), (aIc cI g23 8 z6), (aIc cI g24 8 z7), (aIc cI g25 8 z8), (aIc cI g26 8 z9), (aIc cI g27 8 z10), (aIc cI g28 8 z11), (aIc cI g33 8 z12), (aIc cI g34 8 z13), (aIc cI g35 8 z14), (aIc cI g36 8 z15), (aJc cJ g37 8 z16)]) hx hb hr hlk hP hD hS dX8_totalOf_10 ?_
  exact ⟨z2, z3, z4, z5, z6, z7, z8, z9, z10, z11, z12, z13, z14, z15, z16, z17, z18, z19, z20, z21, hz22, hz23, hz24, hz25, hz26, hz27, rfl⟩
theorem dX8_set_0 : decode cX8_set 0 = .ok (.aload_n 0, 1) := by decide +kernel
theorem dX8_set_1 : decode cX8_set 1 = .ok (.iconst 0, 1) := by decide +kernel
theorem dX8_set_2 : decode cX8_set 2 = .ok (.putfield 116, 3) := by decide +kernel
theorem dX8_set_5 : decode cX8_set 5 = .ok (.aload_n 0, 1) := by decide +kernel
theorem dX8_set_6 : decode cX8_set 6 = .ok (.iload_n 1, 1) := by decide +kernel
theorem dX8_set_7 : decode cX8_set 7 = .ok (.invokevirtual 252, 3) := by decide +kernel
theorem dX8_set_10 : decode cX8_set 10 = .ok (.ifCond .eq 26, 3) := by decide +kernel
theorem dX8_set_13 : decode cX8_set 13 = .ok (.iload_n 2, 1) := by decide +kernel
theorem dX8_set_14 : decode cX8_set 14 = .ok (.i2l, 1) := by decide +kernel
theorem dX8_set_15 : decode cX8_set 15 = .ok (.lconst 0, 1) := by decide +kernel
theorem dX8_set_16 : decode cX8_set 16 = .ok (.aload_n 0, 1) := by decide +kernel
theorem dX8_set_17 : decode cX8_set 17 = .ok (.invokevirtual 220, 3) := by decide +kernel
theorem dX8_set_20 : decode cX8_set 20 = .ok (.i2l, 1) := by decide +kernel
theorem dX8_set_21 : decode cX8_set 21 = .ok (.invokestatic 123, 3) := by decide +kernel
theorem dX8_set_24 : decode cX8_set 24 = .ok (.ifCond .eq 12, 3) := by decide +kernel
theorem dX8_set_27 : decode cX8_set 27 = .ok (.aload_n 0, 1) := by decide +kernel
theorem dX8_set_28 : decode cX8_set 28 = .ok (.iload_n 1, 1) := by decide +kernel
theorem dX8_set_29 : decode cX8_set 29 = .ok (.iload_n 2, 1) := by decide +kernel
theorem dX8_set_30 : decode cX8_set 30 = .ok (.invokevirtual 302, 3) := by decide +kernel
theorem dX8_set_33 : decode cX8_set 33 = .ok (.goto 4, 3) := by decide +kernel
theorem dX8_set_36 : decode cX8_set 36 = .ok (.iconst (-1), 1) := by decide +kernel
theorem dX8_set_37 : decode cX8_set 37 = .ok (.ireturn, 1) := by decide +kernel
theorem gX8_set_X8_all : GoodIn wtX8_set (wsV RX8 220 RX8 yX8_all wtX8_all) := tb_good (tb_v0 wd_413 wd_414 wd_415 wd_5 wd_416)
theorem gX8_set_X8_in : GoodIn wtX8_set (va_wsS RX8 123 yX8_in wtX8_in) := tb_good (tb_s0 wd_177 wd_178 wd_5 wd_179)
theorem gX8_set_X8_isLoss : GoodIn wtX8_set (wsV RX8 252 RX8 yX8_isLoss wtX8_isLoss) := tb_good (tb_v0 wd_554 wd_555 wd_556 wd_5 wd_557)
theorem gX8_set_X8_totalOf : GoodIn wtX8_set (wsV RX8 302 RX8 yX8_totalOf wtX8_totalOf) := tb_good (tb_v0 wd_849 wd_850 wd_851 wd_5 wd_852)
set_option maxHeartbeats 4000000 in
set_option maxRecDepth 100000 in
theorem m_X8_set (l : Launch) (D : va_G) (cI cJ : ClassId) (sz : Nat) (g g2 g3 g4 g5 g6 g7 g8 g9 g10 g12 g13 g15 g16 g17 g19 g20 g21 g22 g23 g24 g25 g26 g27 g28 g33 g34 g35 g36 g37 g38 g39 g41 g42 g44 g45 mn ml mv tt : Nat) (gi0 gi14 gi18 gi29 gi30 gi40 gi43 p0 p1 : Int32) (G2 G3 G4 G5 G6 G7 G8 G10 G12 G13 G19 G20 G21 G22 G23 G24 G25 G26 G27 G28 G33 G34 G35 G36 : Nat → Int32) (G37 : Nat → Int64) (li0 wo0 de0 ag0 : Nat → Nat) (hmn : mn ≤ 8) (hmL : ml ≤ 10) (hit : ∀ k, k < 10 → ∃ j : Nat, j < 8 ∧ G12 k = nI j) (hsu : ∀ k, k < 64 → ∃ j : Nat, j ≤ 1000001 ∧ G10 k = nI j) (hliv : nv G2 li0) (hlib : ∀ k, k < 8 → li0 k ≤ 1000000) (hwov : nv G5 wo0) (hwob : ∀ k, k < 8 → wo0 k ≤ 9000000) (hdev : nv G4 de0) (hdeb : ∀ k, k < 8 → de0 k ≤ 99999) (hagv : nv G3 ag0) (hagb : ∀ k, k < 8 → ag0 k ≤ 9000000) (hamt : ∀ k, k < 10 → ∃ j : Nat, j < 1000001 ∧ G13 k = nI j) (hLE : LE G19) (hLO : LO G20) (hLW : LW G25) (hSH : SH G27 tt) (htt : tt ≤ 1000000) (hmv : mv ≤ 8) : Met l yX8_set wtX8_set { frames := 9, cells := 0, slots := 0, locals := 211 } (cPc D cI cJ [.ref g, .int p0, .int p1] sz [(oX8 g gi0 (nI mn) g2 g3 g4 g5 g6 g7 g8 g9 g10 (nI ml) g12 g13 gi14 g15 g16 g17 gi18 g19 g20 g21 g22 g23 g24 g25 g26 g27 g28 gi29 gi30 (nI mv) (nI tt) g33 g34 g35 g36 g37 g38 g39 gi40 g41 g42 gi43 g44 g45), (aIc cI g2 8 G2), (aIc cI g3 8 G3), (aIc cI g4 8 G4), (aIc cI g5 8 G5), (aIc cI g6 8 G6), (aIc cI g7 8 G7), (aIc cI g8 8 G8), (aIc cI g10 64 G10), (aIc cI g12 10 G12), (aIc cI g13 10 G13), (aIc cI g19 8 G19), (aIc cI g20 8 G20), (aIc cI g21 8 G21), (aIc cI g22 8 G22), (aIc cI g23 8 G23), (aIc cI g24 8 G24), (aIc cI g25 8 G25), (aIc cI g26 8 G26), (aIc cI g27 8 G27), (aIc cI g28 8 G28), (aIc cI g33 8 G33), (aIc cI g34 8 G34), (aIc cI g35 8 G35), (aIc cI g36 8 G36), (aJc cJ g37 8 G37)]) (cQi D (fun r u => ∃ (G19p G20p G21p G22p G23p G24p G25p G26p G27p G28p G33p G34p G35p G36p : Nat → Int32) (G37p : Nat → Int64) (gi29p gi30p gi18p : Int32) (mvp ttp : Nat) (gi0p : Int32), (LE G19p) ∧ (LO G20p) ∧ (LW G25p) ∧ (SH G27p ttp) ∧ (ttp ≤ 1000000) ∧ (mvp ≤ 8) ∧ u = [(oX8 g gi0p (nI mn) g2 g3 g4 g5 g6 g7 g8 g9 g10 (nI ml) g12 g13 gi14 g15 g16 g17 gi18p g19 g20 g21 g22 g23 g24 g25 g26 g27 g28 gi29p gi30p (nI mvp) (nI ttp) g33 g34 g35 g36 g37 g38 g39 gi40 g41 g42 gi43 g44 g45), (aIc cI g2 8 G2), (aIc cI g3 8 G3), (aIc cI g4 8 G4), (aIc cI g5 8 G5), (aIc cI g6 8 G6), (aIc cI g7 8 G7), (aIc cI g8 8 G8), (aIc cI g10 64 G10), (aIc cI g12 10 G12), (aIc cI g13 10 G13), (aIc cI g19 8 G19p), (aIc cI g20 8 G20p), (aIc cI g21 8 G21p), (aIc cI g22 8 G22p), (aIc cI g23 8 G23p), (aIc cI g24 8 G24p), (aIc cI g25 8 G25p), (aIc cI g26 8 G26p), (aIc cI g27 8 G27p), (aIc cI g28 8 G28p), (aIc cI g33 8 G33p), (aIc cI g34 8 G34p), (aIc cI g35 8 G35p), (aIc cI g36 8 G36p), (aJc cJ g37 8 G37p)]) (va_A [(oX8 g gi0 (nI mn) g2 g3 g4 g5 g6 g7 g8 g9 g10 (nI ml) g12 g13 gi14 g15 g16 g17 gi18 g19 g20 g21 g22 g23 g24 g25 g26 g27 g28 gi29 gi30 (nI mv) (nI tt) g33 g34 g35 g36 g37 g38 g39 gi40 g41 g42 gi43 g44 g45), (aIc cI g2 8 G2), (aIc cI g3 8 G3), (aIc cI g4 8 G4), (aIc cI g5 8 G5), (aIc cI g6 8 G6), (aIc cI g7 8 G7), (aIc cI g8 8 G8), (aIc cI g10 64 G10), (aIc cI g12 10 G12), (aIc cI g13 10 G13), (aIc cI g19 8 G19), (aIc cI g20 8 G20), (aIc cI g21 8 G21), (aIc cI g22 8 G22), (aIc cI g23 8 G23), (aIc cI g24 8 G24), (aIc cI g25 8 G25), (aIc cI g26 8 G26), (aIc cI g27 8 G27), (aIc cI g28 8 G28), (aIc cI g33 8 G33), (aIc cI g34 8 G34), (aIc cI g35 8 G35), (aIc cI g36 8 G36), (aJc cJ g37 8 G37)] sz)) 0 0 (va_A [(oX8 g gi0 (nI mn) g2 g3 g4 g5 g6 g7 g8 g9 g10 (nI ml) g12 g13 gi14 g15 g16 g17 gi18 g19 g20 g21 g22 g23 g24 g25 g26 g27 g28 gi29 gi30 (nI mv) (nI tt) g33 g34 g35 g36 g37 g38 g39 gi40 g41 g42 gi43 g44 g45), (aIc cI g2 8 G2), (aIc cI g3 8 G3), (aIc cI g4 8 G4), (aIc cI g5 8 G5), (aIc cI g6 8 G6), (aIc cI g7 8 G7), (aIc cI g8 8 G8), (aIc cI g10 64 G10), (aIc cI g12 10 G12), (aIc cI g13 10 G13), (aIc cI g19 8 G19), (aIc cI g20 8 G20), (aIc cI g21 8 G21), (aIc cI g22 8 G22), (aIc cI g23 8 G23), (aIc cI g24 8 G24), (aIc cI g25 8 G25), (aIc cI g26 8 G26), (aIc cI g27 8 G27), (aIc cI g28 8 G28), (aIc cI g33 8 G33), (aIc cI g34 8 G34), (aIc cI g35 8 G35), (aIc cI g36 8 G36), (aJc cJ g37 8 G37)] sz) := by
  refine k_ofW (Qc := cQi D (fun r u => ∃ (G19p G20p G21p G22p G23p G24p G25p G26p G27p G28p G33p G34p G35p G36p : Nat → Int32) (G37p : Nat → Int64) (gi29p gi30p gi18p : Int32) (mvp ttp : Nat) (gi0p : Int32), (LE G19p) ∧ (LO G20p) ∧ (LW G25p) ∧ (SH G27p ttp) ∧ (ttp ≤ 1000000) ∧ (mvp ≤ 8) ∧ u = [(oX8 g gi0p (nI mn) g2 g3 g4 g5 g6 g7 g8 g9 g10 (nI ml) g12 g13 gi14 g15 g16 g17 gi18p g19 g20 g21 g22 g23 g24 g25 g26 g27 g28 gi29p gi30p (nI mvp) (nI ttp) g33 g34 g35 g36 g37 g38 g39 gi40 g41 g42 gi43 g44 g45), (aIc cI g2 8 G2), (aIc cI g3 8 G3), (aIc cI g4 8 G4), (aIc cI g5 8 G5), (aIc cI g6 8 G6), (aIc cI g7 8 G7), (aIc cI g8 8 G8), (aIc cI g10 64 G10), (aIc cI g12 10 G12), (aIc cI g13 10 G13), (aIc cI g19 8 G19p), (aIc cI g20 8 G20p), (aIc cI g21 8 G21p), (aIc cI g22 8 G22p), (aIc cI g23 8 G23p), (aIc cI g24 8 G24p), (aIc cI g25 8 G25p), (aIc cI g26 8 G26p), (aIc cI g27 8 G27p), (aIc cI g28 8 G28p), (aIc cI g33 8 G33p), (aIc cI g34 8 G34p), (aIc cI g35 8 G35p), (aIc cI g36 8 G36p), (aJc cJ g37 8 G37p)])) (by decide) rfl (Nat.le_of_ble_eq_true rfl) ?_
  intro p e s m below meth c A ls hx hb hr hml hts hown hlk hnm hsz hE hP hD hS hA hl
  have hown : s.vm.findClass RX8 = some m.cls := hown
  have hiX8 : ∀ w ∈ u_ws RX8 TX8 46, w ∈ wtX8_set := fun w h => List.mem_cons_of_mem _ (iuX8 w h)
  have hl : lv_has ls 3 [(0, .ref g), (1, .int p0), (2, .int p1)] := hl
  refine lv_aload_n hx hb dX8_set_0 rfl (lv_at hl 0 rfl) ?_
  refine lv_iconst (v := 0) hx hb dX8_set_1 (by decide) ?_
  refine va_put (D := D) (ci := 8) (v := .int 0) (ty := .int) (C := RX8) (T := TX8) (N := 46) hx hb hts hiX8 tyX8 tyX8_ok nmX8 hown hE.1 hP hD hS 0 rfl rfl 0 (by decide) (hts _ (List.mem_cons_of_mem _ wd_171)) (fun _ h9 => h9) rfl (by decide +kernel) rfl rfl (Nat.le_of_ble_eq_true rfl) dX8_set_2 (fun H locs hP hD hS => ?_)
  refine k_re (w := [(oX8 g 0 (nI mn) g2 g3 g4 g5 g6 g7 g8 g9 g10 (nI ml) g12 g13 gi14 g15 g16 g17 gi18 g19 g20 g21 g22 g23 g24 g25 g26 g27 g28 gi29 gi30 (nI mv) (nI tt) g33 g34 g35 g36 g37 g38 g39 gi40 g41 g42 gi43 g44 g45), (aIc cI g2 8 G2), (aIc cI g3 8 G3), (aIc cI g4 8 G4), (aIc cI g5 8 G5), (aIc cI g6 8 G6), (aIc cI g7 8 G7), (aIc cI g8 8 G8), (aIc cI g10 64 G10), (aIc cI g12 10 G12), (aIc cI g13 10 G13), (aIc cI g19 8 G19), (aIc cI g20 8 G20), (aIc cI g21 8 G21), (aIc cI g22 8 G22), (aIc cI g23 8 G23), (aIc cI g24 8 G24), (aIc cI g25 8 G25), (aIc cI g26 8 G26), (aIc cI g27 8 G27), (aIc cI g28 8 G28), (aIc cI g33 8 G33), (aIc cI g34 8 G34), (aIc cI g35 8 G35), (aIc cI g36 8 G36), (aJc cJ g37 8 G37)]) hP hD (fun hP hD => ?_)
  refine lv_aload_n hx hb dX8_set_5 rfl (lv_at hl 0 rfl) ?_
  refine lv_iload_n hx hb dX8_set_6 rfl (lv_at hl 1 rfl) ?_
  refine k_iS (va_runV (As := [.int p0]) (rest := []) ⟨hx, hb, hml, hown, hts⟩ (m_X8_isLoss l D cI cJ H.size g g2 g3 g4 g5 g6 g7 g8 g9 g10 g12 g13 g15 g16 g17 g19 g20 g21 g22 g23 g24 g25 g26 g27 g28 g33 g34 g35 g36 g37 g38 g39 g41 g42 g44 g45 mn ml mv 0 gi14 gi18 gi29 gi30 (nI tt) gi40 gi43 p0) (cwV 1 hts gX8_set_X8_isLoss rfl rfl rfl (by decide +kernel) ⟨Nat.le_of_ble_eq_true rfl, Nat.le_of_ble_eq_true rfl⟩) (k_preV hE hP hD [0] (by decide +kernel) rfl 0 rfl rfl) rfl rfl hl.1 rfl (lv_room (Nat.le_of_ble_eq_true rfl)) dX8_set_7 ⟨Nat.le_of_ble_eq_true rfl, Nat.le_of_ble_eq_true rfl⟩) hP hD hS hA [0] rfl (fun _ _ ⟨_, h9⟩ => h9) (fun r1 H locs hw2 hP hD hS => ?_)
  obtain ⟨hb3, -⟩ := hw2
  refine lv_if_eq (tgt := 36) hx hb dX8_set_10 (by decide) (fun c4 => ?_) (fun c4 => ?_)
  · skip
    have hc4 : ¬ (0 ≤ p0 ∧ p0 ≤ nI ml - 1) := bz_0 hb3 c4
    refine lv_iconst (v := (-1)) hx hb dX8_set_36 (by decide) ?_
    refine k_iret (u := [(oX8 g 0 (nI mn) g2 g3 g4 g5 g6 g7 g8 g9 g10 (nI ml) g12 g13 gi14 g15 g16 g17 gi18 g19 g20 g21 g22 g23 g24 g25 g26 g27 g28 gi29 gi30 (nI mv) (nI tt) g33 g34 g35 g36 g37 g38 g39 gi40 g41 g42 gi43 g44 g45), (aIc cI g2 8 G2), (aIc cI g3 8 G3), (aIc cI g4 8 G4), (aIc cI g5 8 G5), (aIc cI g6 8 G6), (aIc cI g7 8 G7), (aIc cI g8 8 G8), (aIc cI g10 64 G10), (aIc cI g12 10 G12), (aIc cI g13 10 G13), (aIc cI g19 8 G19), (aIc cI g20 8 G20), (aIc cI g21 8 G21), (aIc cI g22 8 G22), (aIc cI g23 8 G23), (aIc cI g24 8 G24), (aIc cI g25 8 G25), (aIc cI g26 8 G26), (aIc cI g27 8 G27), (aIc cI g28 8 G28), (aIc cI g33 8 G33), (aIc cI g34 8 G34), (aIc cI g35 8 G35), (aIc cI g36 8 G36), (aJc cJ g37 8 G37)]) hx hb hr hlk hP hD hS dX8_set_37 ?_
    exact ⟨G19, G20, G21, G22, G23, G24, G25, G26, G27, G28, G33, G34, G35, G36, G37, gi29, gi30, gi18, mv, tt, 0, hLE, hLO, hLW, hSH, htt, hmv, rfl⟩
  · skip
    have hc4 : 0 ≤ p0 ∧ p0 ≤ nI ml - 1 := bz_1 hb3 c4
    refine lv_iload_n hx hb dX8_set_13 rfl (lv_at hl 2 rfl) ?_
    refine lv_i2l hx hb dX8_set_14 rfl ?_
    refine lv_lconst (v := 0) hx hb dX8_set_15 (by decide) ?_
    refine lv_aload_n hx hb dX8_set_16 rfl (lv_at hl 0 rfl) ?_
    refine k_iS (va_runV (As := []) (rest := [.long 0, .long (Int32.toInt64 p1)]) ⟨hx, hb, hml, hown, hts⟩ (m_X8_all l D cI cJ H.size g g2 g3 g4 g5 g6 g7 g8 g9 g10 g12 g13 g15 g16 g17 g19 g20 g21 g22 g23 g24 g25 g26 g27 g28 g33 g34 g35 g36 g37 g38 g39 g41 g42 g44 g45 mn ml mv 0 gi14 gi18 gi29 gi30 (nI tt) gi40 gi43 hmn) (cwV 0 hts gX8_set_X8_all rfl rfl rfl (by decide +kernel) ⟨Nat.le_of_ble_eq_true rfl, Nat.le_of_ble_eq_true rfl⟩) (k_preV hE hP hD [0] (by decide +kernel) rfl 0 rfl rfl) rfl rfl hl.1 rfl (lv_room (Nat.le_of_ble_eq_true rfl)) dX8_set_17 ⟨Nat.le_of_ble_eq_true rfl, Nat.le_of_ble_eq_true rfl⟩) hP hD hS hA [0] rfl (fun _ _ ⟨_, h9⟩ => h9) (fun r5 H locs hw6 hP hD hS => ?_)
    obtain ⟨rfl, -⟩ := hw6
    refine lv_i2l hx hb dX8_set_20 rfl ?_
    refine k_iS (va_runS (As := [.long (Int32.toInt64 p1), .long 0, .long (Int32.toInt64 (nI (2 ^ mn - 1)))]) (rest := []) ⟨hx, hb, hml, hown, hts⟩ (m_X8_in l D cI cJ H.size (Int32.toInt64 p1) 0 (Int32.toInt64 (nI (2 ^ mn - 1)))) (va_cwS 3 hts gX8_set_X8_in rfl rfl rfl (by decide +kernel) ⟨Nat.le_of_ble_eq_true rfl, Nat.le_of_ble_eq_true rfl⟩) (k_pre hE hP hD [] (by decide +kernel) rfl) rfl rfl hl.1 rfl (lv_room (Nat.le_of_ble_eq_true rfl)) dX8_set_21 ⟨Nat.le_of_ble_eq_true rfl, Nat.le_of_ble_eq_true rfl⟩) hP hD hS hA [] rfl (fun _ _ h9 => h9.2) (fun r7 H locs hw8 hP hD hS => ?_)
    obtain ⟨hw8, -⟩ := hw8
    have hw9 : r7 = bz (0 ≤ p1 ∧ p1 ≤ (nI (2 ^ mn - 1))) := by rw [hw8]; exact bz_c (w3 (a := p1) (lo := 0) (hi := (nI (2 ^ mn - 1))) (by decide) rfl)
    refine lv_if_eq (tgt := 36) hx hb dX8_set_24 (by decide) (fun c10 => ?_) (fun c10 => ?_)
    · skip
      have hc10 : ¬ (0 ≤ p1 ∧ p1 ≤ (nI (2 ^ mn - 1))) := bz_0 hw9 c10
      refine lv_iconst (v := (-1)) hx hb dX8_set_36 (by decide) ?_
      refine k_iret (u := [(oX8 g 0 (nI mn) g2 g3 g4 g5 g6 g7 g8 g9 g10 (nI ml) g12 g13 gi14 g15 g16 g17 gi18 g19 g20 g21 g22 g23 g24 g25 g26 g27 g28 gi29 gi30 (nI mv) (nI tt) g33 g34 g35 g36 g37 g38 g39 gi40 g41 g42 gi43 g44 g45), (aIc cI g2 8 G2), (aIc cI g3 8 G3), (aIc cI g4 8 G4), (aIc cI g5 8 G5), (aIc cI g6 8 G6), (aIc cI g7 8 G7), (aIc cI g8 8 G8), (aIc cI g10 64 G10), (aIc cI g12 10 G12), (aIc cI g13 10 G13), (aIc cI g19 8 G19), (aIc cI g20 8 G20), (aIc cI g21 8 G21), (aIc cI g22 8 G22), (aIc cI g23 8 G23), (aIc cI g24 8 G24), (aIc cI g25 8 G25), (aIc cI g26 8 G26), (aIc cI g27 8 G27), (aIc cI g28 8 G28), (aIc cI g33 8 G33), (aIc cI g34 8 G34), (aIc cI g35 8 G35), (aIc cI g36 8 G36), (aJc cJ g37 8 G37)]) hx hb hr hlk hP hD hS dX8_set_37 ?_
      exact ⟨G19, G20, G21, G22, G23, G24, G25, G26, G27, G28, G33, G34, G35, G36, G37, gi29, gi30, gi18, mv, tt, 0, hLE, hLO, hLW, hSH, htt, hmv, rfl⟩
    · skip
      have hc10 : 0 ≤ p1 ∧ p1 ≤ (nI (2 ^ mn - 1)) := bz_1 hw9 c10
      obtain ⟨lj, hlj, elj⟩ := wi_n (by omega) hc4
      rw [elj] at hl
      refine lv_aload_n hx hb dX8_set_27 rfl (lv_at hl 0 rfl) ?_
      refine lv_iload_n hx hb dX8_set_28 rfl (lv_at hl 1 rfl) ?_
      refine lv_iload_n hx hb dX8_set_29 rfl (lv_at hl 2 rfl) ?_
      refine k_i (va_runV (As := [.int (nI lj), .int p1]) (rest := []) ⟨hx, hb, hml, hown, hts⟩ (m_X8_totalOf l D cI cJ H.size g g2 g3 g4 g5 g6 g7 g8 g9 g10 g12 g13 g15 g16 g17 g19 g20 g21 g22 g23 g24 g25 g26 g27 g28 g33 g34 g35 g36 g37 g38 g39 g41 g42 g44 g45 lj mn ml mv tt 0 gi14 gi18 gi29 gi30 gi40 gi43 p1 G2 G3 G4 G5 G6 G7 G8 G10 G12 G13 G19 G20 G21 G22 G23 G24 G25 G26 G27 G28 G33 G34 G35 G36 G37 li0 wo0 de0 ag0 hmn hmL hit hsu hliv hlib hwov hwob hdev hdeb hagv hagb hamt hLE hLO hLW hSH htt hmv (by omega)) (cwV 2 hts gX8_set_X8_totalOf rfl rfl rfl (by decide +kernel) ⟨Nat.le_of_ble_eq_true rfl, Nat.le_of_ble_eq_true rfl⟩) (k_preV hE hP hD [0, 1, 2, 3, 4, 5, 6, 7, 8, 9, 10, 11, 12, 13, 14, 15, 16, 17, 18, 19, 20, 21, 22, 23, 24, 25] (by decide +kernel) rfl 0 rfl rfl) rfl rfl hl.1 rfl (lv_room (Nat.le_of_ble_eq_true rfl)) dX8_set_30 ⟨Nat.le_of_ble_eq_true rfl, Nat.le_of_ble_eq_true rfl⟩) hP hD hS hA [0, 1, 2, 3, 4, 5, 6, 7, 8, 9, 10, 11, 12, 13, 14, 15, 16, 17, 18, 19, 20, 21, 22, 23, 24, 25] [] rfl (wr := []) rfl (by decide +kernel) (by decide +kernel) (fun r11 u H locs hw12 hP hD hS => ?_)
      obtain ⟨z13, z14, z15, z16, z17, z18, z19, z20, z21, z22, z23, z24, z25, z26, z27, z28, z29, z30, z31, z32, hz33, hz34, hz35, hz36, hz37, hz38, rfl⟩ := hw12
      refine k_re (w := [(oX8 g 0 (nI mn) g2 g3 g4 g5 g6 g7 g8 g9 g10 (nI ml) g12 g13 gi14 g15 g16 g17 z30 g19 g20 g21 g22 g23 g24 g25 g26 g27 g28 z28 z29 (nI z31) (nI z32) g33 g34 g35 g36 g37 g38 g39 gi40 g41 g42 gi43 g44 g45), (aIc cI g2 8 G2), (aIc cI g3 8 G3), (aIc cI g4 8 G4), (aIc cI g5 8 G5), (aIc cI g6 8 G6), (aIc cI g7 8 G7), (aIc cI g8 8 G8), (aIc cI g10 64 G10), (aIc cI g12 10 G12), (aIc cI g13 10 G13), (aIc cI g19 8 z13), (aIc cI g20 8 z14), (aIc cI g21 8 z15), (aIc cI g22 8 z16), (aIc cI g23 8 z17), (aIc cI g24 8 z18), (aIc cI g25 8 z19), (aIc cI g26 8 z20), (aIc cI g27 8 z21), (aIc cI g28 8 z22), (aIc cI g33 8 z23), (aIc cI g34 8 z24), (aIc cI g35 8 z25), (aIc cI g36 8 z26), (aJc cJ g37 8 z27)]) hP hD (fun hP hD => ?_)
      refine lv_goto (tgt := 37) hx hb dX8_set_33 (by decide) ?_
      refine k_iret (u := [(oX8 g 0 (nI mn) g2 g3 g4 g5 g6 g7 g8 g9 g10 (nI ml) g12 g13 gi14 g15 g16 g17 z30 g19 g20 g21 g22 g23 g24 g25 g26 g27 g28 z28 z29 (nI z31) (nI z32) g33 g34 g35 g36 g37 g38 g39 gi40 g41 g42 gi43 g44 g45), (aIc cI g2 8 G2), (aIc cI g3 8 G3), (aIc cI g4 8 G4), (aIc cI g5 8 G5), (aIc cI g6 8 G6), (aIc cI g7 8 G7), (aIc cI g8 8 G8), (aIc cI g10 64 G10), (aIc cI g12 10 G12), (aIc cI g13 10 G13), (aIc cI g19 8 z13), (aIc cI g20 8 z14), (aIc cI g21 8 z15), (aIc cI g22 8 z16), (aIc cI g23 8 z17), (aIc cI g24 8 z18), (aIc cI g25 8 z19), (aIc cI g26 8 z20), (aIc cI g27 8 z21), (aIc cI g28 8 z22), (aIc cI g33 8 z23), (aIc cI g34 8 z24), (aIc cI g35 8 z25), (aIc cI g36 8 z26), (aJc cJ g37 8 z27)]) hx hb hr hlk hP hD hS dX8_set_37 ?_
      exact ⟨z13, z14, z15, z16, z17, z18, z19, z20, z21, z22, z23, z24, z25, z26, z27, z28, z29, z30, z31, z32, 0, hz33, hz34, hz35, hz36, hz37, hz38, rfl⟩
theorem od_le {x : Int32} {k : Nat} (h : ¬ x < nI k) (hx : x ≤ 8) (hk : k ≤ 9) : k ≤ 8 := by
  have h1 := Int32.le_iff_toInt_le.mp (Int32.not_lt.mp h)
  have h2 := Int32.le_iff_toInt_le.mp hx
  rw [nI_toInt (by omega)] at h1
  rw [show Int32.toInt 8 = 8 from rfl] at h2
  omega
theorem od_n {n : Nat} (h : n ≤ 8) : nI n ≤ 8 := (nI_leI (a := n) (b := 8) (by omega) (by decide)).mpr h
theorem od_tab : ∀ a b : Fin 9, (nI a.val - nI b.val) - 1 ≤ (8 : Int32) := by decide +kernel
theorem od_x {a b : Nat} {v w : Int32} (ha : a ≤ 8) (hb : b ≤ 8) (ev : v = nI a - nI b) (ew : w = v - 1) : w ≤ 8 := by
  rw [ew, ev]; exact od_tab ⟨a, by omega⟩ ⟨b, by omega⟩
theorem dX8_orders_0 : decode cX8_orders 0 = .ok (.lconst 1, 1) := by decide +kernel
theorem dX8_orders_1 : decode cX8_orders 1 = .ok (.lstore_n 1, 1) := by decide +kernel
theorem dX8_orders_2 : decode cX8_orders 2 = .ok (.iconst 2, 1) := by decide +kernel
theorem dX8_orders_3 : decode cX8_orders 3 = .ok (.istore_n 3, 1) := by decide +kernel
theorem dX8_orders_4 : decode cX8_orders 4 = .ok (.iload_n 3, 1) := by decide +kernel
theorem dX8_orders_5 : decode cX8_orders 5 = .ok (.iload_n 0, 1) := by decide +kernel
theorem dX8_orders_6 : decode cX8_orders 6 = .ok (.if_icmp .gt 14, 3) := by decide +kernel
theorem dX8_orders_9 : decode cX8_orders 9 = .ok (.lload_n 1, 1) := by decide +kernel
theorem dX8_orders_10 : decode cX8_orders 10 = .ok (.iload_n 3, 1) := by decide +kernel
theorem dX8_orders_11 : decode cX8_orders 11 = .ok (.i2l, 1) := by decide +kernel
theorem dX8_orders_12 : decode cX8_orders 12 = .ok (.lmul, 1) := by decide +kernel
theorem dX8_orders_13 : decode cX8_orders 13 = .ok (.lstore_n 1, 1) := by decide +kernel
theorem dX8_orders_14 : decode cX8_orders 14 = .ok (.iinc 3 1, 3) := by decide +kernel
theorem dX8_orders_17 : decode cX8_orders 17 = .ok (.goto (-13), 3) := by decide +kernel
theorem dX8_orders_20 : decode cX8_orders 20 = .ok (.lload_n 1, 1) := by decide +kernel
theorem dX8_orders_21 : decode cX8_orders 21 = .ok (.lreturn, 1) := by decide +kernel
set_option maxHeartbeats 4000000 in
set_option maxRecDepth 100000 in
theorem m_X8_orders (l : Launch) (D : va_G) (cI cJ : ClassId) (sz : Nat) (x : Int32) (hx8 : x ≤ 8) : Met l yX8_orders wtX8_orders { frames := 0, cells := 0, slots := 0, locals := 0 } (cPc D cI cJ [.int x] sz []) (cQl D (fun r u => u = []) (va_A [] sz)) 0 0 (va_A [] sz) := by
  refine k_ofW (Qc := cQl D (fun r u => u = [])) (by decide) rfl (Nat.le_of_ble_eq_true rfl) ?_
  intro p e s m below meth c A ls hx hb hr hml hts hown hlk hnm hsz hE hP hD hS hA hl
  have hown : s.vm.findClass RX8 = some m.cls := hown
  have hl : lv_has ls 4 [(0, .int x)] := hl
  refine lv_lconst (v := 1) hx hb dX8_orders_0 (by decide) ?_
  refine lv_lstore_n (lv' := [(1, .long 1), (0, .int x)]) hx hb dX8_orders_1 rfl hl (by decide) rfl (fun ls hl => ?_)
  refine lv_iconst (v := 2) hx hb dX8_orders_2 (by decide) ?_
  refine lv_istore_n (lv' := [(3, .int 2), (1, .long 1), (0, .int x)]) hx hb dX8_orders_3 rfl hl (by decide) rfl (fun ls hl => ?_)
  have J4 : ∀ (zz : Nat) (k4 : Nat) (h1_4 : Int64), (k4 ≤ 9) → (9 - k4) < zz → ∀ (H : Heap) (locs : List Loc) (ls : Array Slot), va_P D vwCl [] H → va_D A [] → va_S A s.heap H locs → lv_has ls 4 [(3, .int (nI k4)), (1, .long h1_4), (0, .int x)] → W p l e { frames := 0, cells := 0, slots := 0, locals := 0 } s m [.int x].toArray below meth c H locs 0 0 (MQ below (cQl D (fun r u => u = []) A) [.int x].toArray s 0 0 A) (F0 m 4 ls []) := by
    intro zz
    induction zz with
    | zero => intro k4 h1_4 _; exact fun h => absurd h (Nat.not_lt_zero _)
    | succ zz ih4 =>
      intro k4 h1_4 hc3_4 hmu4 H locs ls hP hD hS hl
      refine lv_iload_n hx hb dX8_orders_4 rfl (lv_at hl 0 rfl) ?_
      refine lv_iload_n hx hb dX8_orders_5 rfl (lv_at hl 2 rfl) ?_
      refine lv_icmp_gt (tgt := 20) hx hb dX8_orders_6 (by decide) (fun c1 => ?_) (fun c1 => ?_)
      · skip
        refine lv_lload_n hx hb dX8_orders_20 rfl (lv_at hl 1 rfl) ?_
        refine k_lret (u := []) hx hb hr hlk hP hD hS dX8_orders_21 ?_
        exact rfl
      · skip
        have hk8 : k4 ≤ 8 := od_le c1 hx8 (by omega)
        refine lv_lload_n hx hb dX8_orders_9 rfl (lv_at hl 1 rfl) ?_
        refine lv_iload_n hx hb dX8_orders_10 rfl (lv_at hl 0 rfl) ?_
        refine lv_i2l hx hb dX8_orders_11 rfl ?_
        refine lv_lmul hx hb dX8_orders_12 ?_
        refine lv_topl (fun v2 ev2 => ?_)
        refine lv_lstore_n (lv' := [(1, .long v2), (3, .int (nI k4)), (0, .int x)]) hx hb dX8_orders_13 rfl hl (by decide) rfl (fun ls hl => ?_)
        refine lv_iinc (v := (nI (k4 + 1))) (lv' := [(3, .int (nI (k4 + 1))), (1, .long v2), (0, .int x)]) hx hb dX8_orders_14 hl (k := 1) rfl (nI_1 _) (by decide) rfl (fun ls hl => ?_)
        refine lv_goto (tgt := 4) hx hb dX8_orders_17 (by decide) ?_
        exact ih4 (k4 + 1) v2 (by omega) (by omega) _ _ _ hP hD hS (lv_sub hl [0, 1, 2] rfl)
  exact J4 _ 2 1 (by omega) (Nat.lt_succ_self _) _ _ _ hP hD hS (lv_sub hl [0, 1, 2] rfl)
theorem dX8_shapley_0 : decode cX8_shapley 0 = .ok (.aload_n 0, 1) := by decide +kernel
theorem dX8_shapley_1 : decode cX8_shapley 1 = .ok (.iload_n 1, 1) := by decide +kernel
theorem dX8_shapley_2 : decode cX8_shapley 2 = .ok (.iload_n 2, 1) := by decide +kernel
theorem dX8_shapley_3 : decode cX8_shapley 3 = .ok (.invokevirtual 264, 3) := by decide +kernel
theorem dX8_shapley_6 : decode cX8_shapley 6 = .ok (.ifCond .ne 7, 3) := by decide +kernel
theorem dX8_shapley_9 : decode cX8_shapley 9 = .ok (.ldc2_w 149, 3) := by decide +kernel
theorem dX8_shapley_12 : decode cX8_shapley 12 = .ok (.lreturn, 1) := by decide +kernel
theorem dX8_shapley_13 : decode cX8_shapley 13 = .ok (.lconst 0, 1) := by decide +kernel
theorem dX8_shapley_14 : decode cX8_shapley 14 = .ok (.lstore_n 3, 1) := by decide +kernel
theorem dX8_shapley_15 : decode cX8_shapley 15 = .ok (.iconst 0, 1) := by decide +kernel
theorem dX8_shapley_16 : decode cX8_shapley 16 = .ok (.istore 5, 2) := by decide +kernel
theorem dX8_shapley_18 : decode cX8_shapley 18 = .ok (.iload 5, 2) := by decide +kernel
theorem dX8_shapley_20 : decode cX8_shapley 20 = .ok (.aload_n 0, 1) := by decide +kernel
theorem dX8_shapley_21 : decode cX8_shapley 21 = .ok (.invokevirtual 220, 3) := by decide +kernel
theorem dX8_shapley_24 : decode cX8_shapley 24 = .ok (.if_icmp .gt 70, 3) := by decide +kernel
theorem dX8_shapley_27 : decode cX8_shapley 27 = .ok (.iload 5, 2) := by decide +kernel
theorem dX8_shapley_29 : decode cX8_shapley 29 = .ok (.iload_n 2, 1) := by decide +kernel
theorem dX8_shapley_30 : decode cX8_shapley 30 = .ok (.invokestatic 154, 3) := by decide +kernel
theorem dX8_shapley_33 : decode cX8_shapley 33 = .ok (.ifCond .ne 55, 3) := by decide +kernel
theorem dX8_shapley_36 : decode cX8_shapley 36 = .ok (.aload_n 0, 1) := by decide +kernel
theorem dX8_shapley_37 : decode cX8_shapley 37 = .ok (.iload_n 1, 1) := by decide +kernel
theorem dX8_shapley_38 : decode cX8_shapley 38 = .ok (.iload 5, 2) := by decide +kernel
theorem dX8_shapley_40 : decode cX8_shapley 40 = .ok (.iconst 1, 1) := by decide +kernel
theorem dX8_shapley_41 : decode cX8_shapley 41 = .ok (.iload_n 2, 1) := by decide +kernel
theorem dX8_shapley_42 : decode cX8_shapley 42 = .ok (.ishl, 1) := by decide +kernel
theorem dX8_shapley_43 : decode cX8_shapley 43 = .ok (.ior, 1) := by decide +kernel
theorem dX8_shapley_44 : decode cX8_shapley 44 = .ok (.invokevirtual 302, 3) := by decide +kernel
theorem dX8_shapley_47 : decode cX8_shapley 47 = .ok (.aload_n 0, 1) := by decide +kernel
theorem dX8_shapley_48 : decode cX8_shapley 48 = .ok (.iload_n 1, 1) := by decide +kernel
theorem dX8_shapley_49 : decode cX8_shapley 49 = .ok (.iload 5, 2) := by decide +kernel
theorem dX8_shapley_51 : decode cX8_shapley 51 = .ok (.invokevirtual 302, 3) := by decide +kernel
theorem dX8_shapley_54 : decode cX8_shapley 54 = .ok (.isub, 1) := by decide +kernel
theorem dX8_shapley_55 : decode cX8_shapley 55 = .ok (.istore 6, 2) := by decide +kernel
theorem dX8_shapley_57 : decode cX8_shapley 57 = .ok (.lload_n 3, 1) := by decide +kernel
theorem dX8_shapley_58 : decode cX8_shapley 58 = .ok (.iload 6, 2) := by decide +kernel
theorem dX8_shapley_60 : decode cX8_shapley 60 = .ok (.i2l, 1) := by decide +kernel
theorem dX8_shapley_61 : decode cX8_shapley 61 = .ok (.iload 5, 2) := by decide +kernel
theorem dX8_shapley_63 : decode cX8_shapley 63 = .ok (.invokestatic 249, 3) := by decide +kernel
theorem dX8_shapley_66 : decode cX8_shapley 66 = .ok (.invokestatic 305, 3) := by decide +kernel
theorem dX8_shapley_69 : decode cX8_shapley 69 = .ok (.lmul, 1) := by decide +kernel
theorem dX8_shapley_70 : decode cX8_shapley 70 = .ok (.aload_n 0, 1) := by decide +kernel
theorem dX8_shapley_71 : decode cX8_shapley 71 = .ok (.getfield 120, 3) := by decide +kernel
theorem dX8_shapley_74 : decode cX8_shapley 74 = .ok (.iload 5, 2) := by decide +kernel
theorem dX8_shapley_76 : decode cX8_shapley 76 = .ok (.invokestatic 249, 3) := by decide +kernel
theorem dX8_shapley_79 : decode cX8_shapley 79 = .ok (.isub, 1) := by decide +kernel
theorem dX8_shapley_80 : decode cX8_shapley 80 = .ok (.iconst 1, 1) := by decide +kernel
theorem dX8_shapley_81 : decode cX8_shapley 81 = .ok (.isub, 1) := by decide +kernel
theorem dX8_shapley_82 : decode cX8_shapley 82 = .ok (.invokestatic 305, 3) := by decide +kernel
theorem dX8_shapley_85 : decode cX8_shapley 85 = .ok (.lmul, 1) := by decide +kernel
theorem dX8_shapley_86 : decode cX8_shapley 86 = .ok (.ladd, 1) := by decide +kernel
theorem dX8_shapley_87 : decode cX8_shapley 87 = .ok (.lstore_n 3, 1) := by decide +kernel
theorem dX8_shapley_88 : decode cX8_shapley 88 = .ok (.iinc 5 1, 3) := by decide +kernel
theorem dX8_shapley_91 : decode cX8_shapley 91 = .ok (.goto (-73), 3) := by decide +kernel
theorem dX8_shapley_94 : decode cX8_shapley 94 = .ok (.lload_n 3, 1) := by decide +kernel
theorem dX8_shapley_95 : decode cX8_shapley 95 = .ok (.lreturn, 1) := by decide +kernel
theorem gX8_shapley_X8_all : GoodIn wtX8_shapley (wsV RX8 220 RX8 yX8_all wtX8_all) := tb_good (tb_v0 wd_413 wd_414 wd_415 wd_5 wd_416)
theorem gX8_shapley_X8_bits : GoodIn wtX8_shapley (va_wsS RX8 249 yX8_bits wtX8_bits) := tb_good (tb_s0 wd_570 wd_571 wd_5 wd_572)
theorem gX8_shapley_X8_isBoth : GoodIn wtX8_shapley (wsV RX8 264 RX8 yX8_isBoth wtX8_isBoth) := tb_good (tb_v0 wd_611 wd_612 wd_613 wd_5 wd_614)
theorem gX8_shapley_X8_isOn : GoodIn wtX8_shapley (va_wsS RX8 154 yX8_isOn wtX8_isOn) := tb_good (tb_s0 wd_423 wd_424 wd_5 wd_425)
theorem gX8_shapley_X8_orders : GoodIn wtX8_shapley (va_wsS RX8 305 yX8_orders wtX8_orders) := tb_good (tb_s0 wd_863 wd_864 wd_5 wd_865)
theorem gX8_shapley_X8_totalOf : GoodIn wtX8_shapley (wsV RX8 302 RX8 yX8_totalOf wtX8_totalOf) := tb_good (tb_v0 wd_849 wd_850 wd_851 wd_5 wd_852)
set_option maxHeartbeats 4000000 in
set_option maxRecDepth 100000 in
theorem m_X8_shapley (l : Launch) (D : va_G) (cI cJ : ClassId) (sz : Nat) (g g2 g3 g4 g5 g6 g7 g8 g9 g10 g12 g13 g15 g16 g17 g19 g20 g21 g22 g23 g24 g25 g26 g27 g28 g33 g34 g35 g36 g37 g38 g39 g41 g42 g44 g45 mn ml mv tt : Nat) (gi0 gi14 gi18 gi29 gi30 gi40 gi43 p0 p1 : Int32) (G2 G3 G4 G5 G6 G7 G8 G10 G12 G13 G19 G20 G21 G22 G23 G24 G25 G26 G27 G28 G33 G34 G35 G36 : Nat → Int32) (G37 : Nat → Int64) (li0 wo0 de0 ag0 : Nat → Nat) (hmn : mn ≤ 8) (hmL : ml ≤ 10) (hit : ∀ k, k < 10 → ∃ j : Nat, j < 8 ∧ G12 k = nI j) (hsu : ∀ k, k < 64 → ∃ j : Nat, j ≤ 1000001 ∧ G10 k = nI j) (hliv : nv G2 li0) (hlib : ∀ k, k < 8 → li0 k ≤ 1000000) (hwov : nv G5 wo0) (hwob : ∀ k, k < 8 → wo0 k ≤ 9000000) (hdev : nv G4 de0) (hdeb : ∀ k, k < 8 → de0 k ≤ 99999) (hagv : nv G3 ag0) (hagb : ∀ k, k < 8 → ag0 k ≤ 9000000) (hamt : ∀ k, k < 10 → ∃ j : Nat, j < 1000001 ∧ G13 k = nI j) (hLE : LE G19) (hLO : LO G20) (hLW : LW G25) (hSH : SH G27 tt) (htt : tt ≤ 1000000) (hmv : mv ≤ 8) : Met l yX8_shapley wtX8_shapley { frames := 9, cells := 0, slots := 0, locals := 211 } (cPc D cI cJ [.ref g, .int p0, .int p1] sz [(oX8 g gi0 (nI mn) g2 g3 g4 g5 g6 g7 g8 g9 g10 (nI ml) g12 g13 gi14 g15 g16 g17 gi18 g19 g20 g21 g22 g23 g24 g25 g26 g27 g28 gi29 gi30 (nI mv) (nI tt) g33 g34 g35 g36 g37 g38 g39 gi40 g41 g42 gi43 g44 g45), (aIc cI g2 8 G2), (aIc cI g3 8 G3), (aIc cI g4 8 G4), (aIc cI g5 8 G5), (aIc cI g6 8 G6), (aIc cI g7 8 G7), (aIc cI g8 8 G8), (aIc cI g10 64 G10), (aIc cI g12 10 G12), (aIc cI g13 10 G13), (aIc cI g19 8 G19), (aIc cI g20 8 G20), (aIc cI g21 8 G21), (aIc cI g22 8 G22), (aIc cI g23 8 G23), (aIc cI g24 8 G24), (aIc cI g25 8 G25), (aIc cI g26 8 G26), (aIc cI g27 8 G27), (aIc cI g28 8 G28), (aIc cI g33 8 G33), (aIc cI g34 8 G34), (aIc cI g35 8 G35), (aIc cI g36 8 G36), (aJc cJ g37 8 G37)]) (cQl D (fun r u => ∃ (G19p G20p G21p G22p G23p G24p G25p G26p G27p G28p G33p G34p G35p G36p : Nat → Int32) (G37p : Nat → Int64) (gi29p gi30p gi18p : Int32) (mvp ttp : Nat) (gi0p : Int32), (LE G19p) ∧ (LO G20p) ∧ (LW G25p) ∧ (SH G27p ttp) ∧ (ttp ≤ 1000000) ∧ (mvp ≤ 8) ∧ u = [(oX8 g gi0p (nI mn) g2 g3 g4 g5 g6 g7 g8 g9 g10 (nI ml) g12 g13 gi14 g15 g16 g17 gi18p g19 g20 g21 g22 g23 g24 g25 g26 g27 g28 gi29p gi30p (nI mvp) (nI ttp) g33 g34 g35 g36 g37 g38 g39 gi40 g41 g42 gi43 g44 g45), (aIc cI g2 8 G2), (aIc cI g3 8 G3), (aIc cI g4 8 G4), (aIc cI g5 8 G5), (aIc cI g6 8 G6), (aIc cI g7 8 G7), (aIc cI g8 8 G8), (aIc cI g10 64 G10), (aIc cI g12 10 G12), (aIc cI g13 10 G13), (aIc cI g19 8 G19p), (aIc cI g20 8 G20p), (aIc cI g21 8 G21p), (aIc cI g22 8 G22p), (aIc cI g23 8 G23p), (aIc cI g24 8 G24p), (aIc cI g25 8 G25p), (aIc cI g26 8 G26p), (aIc cI g27 8 G27p), (aIc cI g28 8 G28p), (aIc cI g33 8 G33p), (aIc cI g34 8 G34p), (aIc cI g35 8 G35p), (aIc cI g36 8 G36p), (aJc cJ g37 8 G37p)]) (va_A [(oX8 g gi0 (nI mn) g2 g3 g4 g5 g6 g7 g8 g9 g10 (nI ml) g12 g13 gi14 g15 g16 g17 gi18 g19 g20 g21 g22 g23 g24 g25 g26 g27 g28 gi29 gi30 (nI mv) (nI tt) g33 g34 g35 g36 g37 g38 g39 gi40 g41 g42 gi43 g44 g45), (aIc cI g2 8 G2), (aIc cI g3 8 G3), (aIc cI g4 8 G4), (aIc cI g5 8 G5), (aIc cI g6 8 G6), (aIc cI g7 8 G7), (aIc cI g8 8 G8), (aIc cI g10 64 G10), (aIc cI g12 10 G12), (aIc cI g13 10 G13), (aIc cI g19 8 G19), (aIc cI g20 8 G20), (aIc cI g21 8 G21), (aIc cI g22 8 G22), (aIc cI g23 8 G23), (aIc cI g24 8 G24), (aIc cI g25 8 G25), (aIc cI g26 8 G26), (aIc cI g27 8 G27), (aIc cI g28 8 G28), (aIc cI g33 8 G33), (aIc cI g34 8 G34), (aIc cI g35 8 G35), (aIc cI g36 8 G36), (aJc cJ g37 8 G37)] sz)) 0 0 (va_A [(oX8 g gi0 (nI mn) g2 g3 g4 g5 g6 g7 g8 g9 g10 (nI ml) g12 g13 gi14 g15 g16 g17 gi18 g19 g20 g21 g22 g23 g24 g25 g26 g27 g28 gi29 gi30 (nI mv) (nI tt) g33 g34 g35 g36 g37 g38 g39 gi40 g41 g42 gi43 g44 g45), (aIc cI g2 8 G2), (aIc cI g3 8 G3), (aIc cI g4 8 G4), (aIc cI g5 8 G5), (aIc cI g6 8 G6), (aIc cI g7 8 G7), (aIc cI g8 8 G8), (aIc cI g10 64 G10), (aIc cI g12 10 G12), (aIc cI g13 10 G13), (aIc cI g19 8 G19), (aIc cI g20 8 G20), (aIc cI g21 8 G21), (aIc cI g22 8 G22), (aIc cI g23 8 G23), (aIc cI g24 8 G24), (aIc cI g25 8 G25), (aIc cI g26 8 G26), (aIc cI g27 8 G27), (aIc cI g28 8 G28), (aIc cI g33 8 G33), (aIc cI g34 8 G34), (aIc cI g35 8 G35), (aIc cI g36 8 G36), (aJc cJ g37 8 G37)] sz) := by
  refine k_ofW (Qc := cQl D (fun r u => ∃ (G19p G20p G21p G22p G23p G24p G25p G26p G27p G28p G33p G34p G35p G36p : Nat → Int32) (G37p : Nat → Int64) (gi29p gi30p gi18p : Int32) (mvp ttp : Nat) (gi0p : Int32), (LE G19p) ∧ (LO G20p) ∧ (LW G25p) ∧ (SH G27p ttp) ∧ (ttp ≤ 1000000) ∧ (mvp ≤ 8) ∧ u = [(oX8 g gi0p (nI mn) g2 g3 g4 g5 g6 g7 g8 g9 g10 (nI ml) g12 g13 gi14 g15 g16 g17 gi18p g19 g20 g21 g22 g23 g24 g25 g26 g27 g28 gi29p gi30p (nI mvp) (nI ttp) g33 g34 g35 g36 g37 g38 g39 gi40 g41 g42 gi43 g44 g45), (aIc cI g2 8 G2), (aIc cI g3 8 G3), (aIc cI g4 8 G4), (aIc cI g5 8 G5), (aIc cI g6 8 G6), (aIc cI g7 8 G7), (aIc cI g8 8 G8), (aIc cI g10 64 G10), (aIc cI g12 10 G12), (aIc cI g13 10 G13), (aIc cI g19 8 G19p), (aIc cI g20 8 G20p), (aIc cI g21 8 G21p), (aIc cI g22 8 G22p), (aIc cI g23 8 G23p), (aIc cI g24 8 G24p), (aIc cI g25 8 G25p), (aIc cI g26 8 G26p), (aIc cI g27 8 G27p), (aIc cI g28 8 G28p), (aIc cI g33 8 G33p), (aIc cI g34 8 G34p), (aIc cI g35 8 G35p), (aIc cI g36 8 G36p), (aJc cJ g37 8 G37p)])) (by decide) rfl (Nat.le_of_ble_eq_true rfl) ?_
  intro p e s m below meth c A ls hx hb hr hml hts hown hlk hnm hsz hE hP hD hS hA hl
  have hown : s.vm.findClass RX8 = some m.cls := hown
  have hiX8 : ∀ w ∈ u_ws RX8 TX8 46, w ∈ wtX8_shapley := fun w h => List.mem_cons_of_mem _ (iuX8 w h)
  have hl : lv_has ls 7 [(0, .ref g), (1, .int p0), (2, .int p1)] := hl
  have h256 := ev_lt hmn
  have h2p := Nat.two_pow_pos mn
  refine lv_aload_n hx hb dX8_shapley_0 rfl (lv_at hl 0 rfl) ?_
  refine lv_iload_n hx hb dX8_shapley_1 rfl (lv_at hl 1 rfl) ?_
  refine lv_iload_n hx hb dX8_shapley_2 rfl (lv_at hl 2 rfl) ?_
  refine k_i (va_runV (As := [.int p0, .int p1]) (rest := []) ⟨hx, hb, hml, hown, hts⟩ (m_X8_isBoth l D cI cJ (s.heap).size g g2 g3 g4 g5 g6 g7 g8 g9 g10 g12 g13 g15 g16 g17 g19 g20 g21 g22 g23 g24 g25 g26 g27 g28 g33 g34 g35 g36 g37 g38 g39 g41 g42 g44 g45 mn ml mv tt gi0 gi14 gi18 gi29 gi30 gi40 gi43 p0 p1 G2 G3 G4 G5 G6 G7 G8 G10 G12 G13 G19 G20 G21 G22 G23 G24 G25 G26 G27 G28 G33 G34 G35 G36 G37 li0 wo0 de0 ag0 hmn hmL hit hsu hliv hlib hwov hwob hdev hdeb hagv hagb hamt hLE hLO hLW hSH htt hmv) (cwV 2 hts gX8_shapley_X8_isBoth rfl rfl rfl (by decide +kernel) ⟨Nat.le_of_ble_eq_true rfl, Nat.le_of_ble_eq_true rfl⟩) (k_preV hE hP hD [0, 1, 2, 3, 4, 5, 6, 7, 8, 9, 10, 11, 12, 13, 14, 15, 16, 17, 18, 19, 20, 21, 22, 23, 24, 25] (by decide +kernel) rfl 0 rfl rfl) rfl rfl hl.1 rfl (lv_room (Nat.le_of_ble_eq_true rfl)) dX8_shapley_3 ⟨Nat.le_of_ble_eq_true rfl, Nat.le_of_ble_eq_true rfl⟩) hP hD hS hA [0, 1, 2, 3, 4, 5, 6, 7, 8, 9, 10, 11, 12, 13, 14, 15, 16, 17, 18, 19, 20, 21, 22, 23, 24, 25] [] rfl (wr := []) rfl (by decide +kernel) (by decide +kernel) (fun r1 u H locs hw2 hP hD hS => ?_)
  obtain ⟨z3, z4, z5, z6, z7, z8, z9, z10, z11, z12, z13, z14, z15, z16, z17, z18, z19, z20, z21, z22, z23, hz24, hz25, hz26, hz27, hz28, hz29, hz30, rfl⟩ := hw2
  refine k_re (w := [(oX8 g z23 (nI mn) g2 g3 g4 g5 g6 g7 g8 g9 g10 (nI ml) g12 g13 gi14 g15 g16 g17 z20 g19 g20 g21 g22 g23 g24 g25 g26 g27 g28 z18 z19 (nI z21) (nI z22) g33 g34 g35 g36 g37 g38 g39 gi40 g41 g42 gi43 g44 g45), (aIc cI g2 8 G2), (aIc cI g3 8 G3), (aIc cI g4 8 G4), (aIc cI g5 8 G5), (aIc cI g6 8 G6), (aIc cI g7 8 G7), (aIc cI g8 8 G8), (aIc cI g10 64 G10), (aIc cI g12 10 G12), (aIc cI g13 10 G13), (aIc cI g19 8 z3), (aIc cI g20 8 z4), (aIc cI g21 8 z5), (aIc cI g22 8 z6), (aIc cI g23 8 z7), (aIc cI g24 8 z8), (aIc cI g25 8 z9), (aIc cI g26 8 z10), (aIc cI g27 8 z11), (aIc cI g28 8 z12), (aIc cI g33 8 z13), (aIc cI g34 8 z14), (aIc cI g35 8 z15), (aIc cI g36 8 z16), (aJc cJ g37 8 z17)]) hP hD (fun hP hD => ?_)
  refine lv_if_ne (tgt := 13) hx hb dX8_shapley_6 (by decide) (fun c31 => ?_) (fun c31 => ?_)
  · skip
    obtain ⟨_, hbl, hbp⟩ := hz30.resolve_left c31
    obtain ⟨lj, hlj, elj⟩ := wi_n (by omega) hbl
    rw [elj] at hl
    obtain ⟨pj, hpj, epj⟩ := wi_n (by omega) hbp
    rw [epj] at hl
    refine lv_lconst (v := 0) hx hb dX8_shapley_13 (by decide) ?_
    refine lv_lstore_n (lv' := [(3, .long 0), (0, .ref g), (1, .int (nI lj)), (2, .int (nI pj))]) hx hb dX8_shapley_14 rfl hl (by decide) rfl (fun ls hl => ?_)
    refine lv_iconst (v := 0) hx hb dX8_shapley_15 (by decide) ?_
    refine lv_istore (lv' := [(5, .int 0), (3, .long 0), (0, .ref g), (1, .int (nI lj)), (2, .int (nI pj))]) hx hb dX8_shapley_16 hl (by decide) rfl (fun ls hl => ?_)
    have J18 : ∀ (zz : Nat) (i18 : Nat) (h3_18 : Int64) (a_g19_18 a_g20_18 a_g21_18 a_g22_18 a_g23_18 a_g24_18 a_g25_18 a_g26_18 a_g27_18 a_g28_18 a_g33_18 a_g34_18 a_g35_18 a_g36_18 : Nat → Int32) (a_g37_18 : Nat → Int64) (f8_29_18 f8_30_18 : Int32) (f8_31_18 f8_32_18 : Nat) (f8_18_18 : Int32), (i18 ≤ 2 ^ mn) → (LE a_g19_18) → (LO a_g20_18) → (LW a_g25_18) → (SH a_g27_18 f8_32_18) → (f8_32_18 ≤ 1000000) → (f8_31_18 ≤ 8) → (2 ^ mn - i18) < zz → ∀ (H : Heap) (locs : List Loc) (ls : Array Slot), va_P D vwCl [(oX8 g z23 (nI mn) g2 g3 g4 g5 g6 g7 g8 g9 g10 (nI ml) g12 g13 gi14 g15 g16 g17 f8_18_18 g19 g20 g21 g22 g23 g24 g25 g26 g27 g28 f8_29_18 f8_30_18 (nI f8_31_18) (nI f8_32_18) g33 g34 g35 g36 g37 g38 g39 gi40 g41 g42 gi43 g44 g45), (aIc cI g2 8 G2), (aIc cI g3 8 G3), (aIc cI g4 8 G4), (aIc cI g5 8 G5), (aIc cI g6 8 G6), (aIc cI g7 8 G7), (aIc cI g8 8 G8), (aIc cI g10 64 G10), (aIc cI g12 10 G12), (aIc cI g13 10 G13), (aIc cI g19 8 a_g19_18), (aIc cI g20 8 a_g20_18), (aIc cI g21 8 a_g21_18), (aIc cI g22 8 a_g22_18), (aIc cI g23 8 a_g23_18), (aIc cI g24 8 a_g24_18), (aIc cI g25 8 a_g25_18), (aIc cI g26 8 a_g26_18), (aIc cI g27 8 a_g27_18), (aIc cI g28 8 a_g28_18), (aIc cI g33 8 a_g33_18), (aIc cI g34 8 a_g34_18), (aIc cI g35 8 a_g35_18), (aIc cI g36 8 a_g36_18), (aJc cJ g37 8 a_g37_18)] H → va_D A [(oX8 g z23 (nI mn) g2 g3 g4 g5 g6 g7 g8 g9 g10 (nI ml) g12 g13 gi14 g15 g16 g17 f8_18_18 g19 g20 g21 g22 g23 g24 g25 g26 g27 g28 f8_29_18 f8_30_18 (nI f8_31_18) (nI f8_32_18) g33 g34 g35 g36 g37 g38 g39 gi40 g41 g42 gi43 g44 g45), (aIc cI g2 8 G2), (aIc cI g3 8 G3), (aIc cI g4 8 G4), (aIc cI g5 8 G5), (aIc cI g6 8 G6), (aIc cI g7 8 G7), (aIc cI g8 8 G8), (aIc cI g10 64 G10), (aIc cI g12 10 G12), (aIc cI g13 10 G13), (aIc cI g19 8 a_g19_18), (aIc cI g20 8 a_g20_18), (aIc cI g21 8 a_g21_18), (aIc cI g22 8 a_g22_18), (aIc cI g23 8 a_g23_18), (aIc cI g24 8 a_g24_18), (aIc cI g25 8 a_g25_18), (aIc cI g26 8 a_g26_18), (aIc cI g27 8 a_g27_18), (aIc cI g28 8 a_g28_18), (aIc cI g33 8 a_g33_18), (aIc cI g34 8 a_g34_18), (aIc cI g35 8 a_g35_18), (aIc cI g36 8 a_g36_18), (aJc cJ g37 8 a_g37_18)] → va_S A s.heap H locs → lv_has ls 7 [(5, .int (nI i18)), (3, .long h3_18), (0, .ref g), (1, .int (nI lj)), (2, .int (nI pj))] → W p l e { frames := 9, cells := 0, slots := 0, locals := 211 } s m [.ref g, .int p0, .int p1].toArray below meth c H locs 0 0 (MQ below (cQl D (fun r u => ∃ (G19p G20p G21p G22p G23p G24p G25p G26p G27p G28p G33p G34p G35p G36p : Nat → Int32) (G37p : Nat → Int64) (gi29p gi30p gi18p : Int32) (mvp ttp : Nat) (gi0p : Int32), (LE G19p) ∧ (LO G20p) ∧ (LW G25p) ∧ (SH G27p ttp) ∧ (ttp ≤ 1000000) ∧ (mvp ≤ 8) ∧ u = [(oX8 g gi0p (nI mn) g2 g3 g4 g5 g6 g7 g8 g9 g10 (nI ml) g12 g13 gi14 g15 g16 g17 gi18p g19 g20 g21 g22 g23 g24 g25 g26 g27 g28 gi29p gi30p (nI mvp) (nI ttp) g33 g34 g35 g36 g37 g38 g39 gi40 g41 g42 gi43 g44 g45), (aIc cI g2 8 G2), (aIc cI g3 8 G3), (aIc cI g4 8 G4), (aIc cI g5 8 G5), (aIc cI g6 8 G6), (aIc cI g7 8 G7), (aIc cI g8 8 G8), (aIc cI g10 64 G10), (aIc cI g12 10 G12), (aIc cI g13 10 G13), (aIc cI g19 8 G19p), (aIc cI g20 8 G20p), (aIc cI g21 8 G21p), (aIc cI g22 8 G22p), (aIc cI g23 8 G23p), (aIc cI g24 8 G24p), (aIc cI g25 8 G25p), (aIc cI g26 8 G26p), (aIc cI g27 8 G27p), (aIc cI g28 8 G28p), (aIc cI g33 8 G33p), (aIc cI g34 8 G34p), (aIc cI g35 8 G35p), (aIc cI g36 8 G36p), (aJc cJ g37 8 G37p)]) A) [.ref g, .int p0, .int p1].toArray s 0 0 A) (F0 m 18 ls []) := by
      intro zz
      induction zz with
      | zero => intro i18 h3_18 a_g19_18 a_g20_18 a_g21_18 a_g22_18 a_g23_18 a_g24_18 a_g25_18 a_g26_18 a_g27_18 a_g28_18 a_g33_18 a_g34_18 a_g35_18 a_g36_18 a_g37_18 f8_29_18 f8_30_18 f8_31_18 f8_32_18 f8_18_18 _ _ _ _ _ _ _; exact fun h => absurd h (Nat.not_lt_zero _)
      | succ zz ih18 =>
        intro i18 h3_18 a_g19_18 a_g20_18 a_g21_18 a_g22_18 a_g23_18 a_g24_18 a_g25_18 a_g26_18 a_g27_18 a_g28_18 a_g33_18 a_g34_18 a_g35_18 a_g36_18 a_g37_18 f8_29_18 f8_30_18 f8_31_18 f8_32_18 f8_18_18 hc5_18 hLE_18 hLO_18 hLW_18 hSH_18 htt_18 hmv_18 hmu18 H locs ls hP hD hS hl
        refine lv_iload hx hb dX8_shapley_18 (lv_at hl 0 rfl) ?_
        refine lv_aload_n hx hb dX8_shapley_20 rfl (lv_at hl 2 rfl) ?_
        refine k_iS (va_runV (As := []) (rest := [.int (nI i18)]) ⟨hx, hb, hml, hown, hts⟩ (m_X8_all l D cI cJ H.size g g2 g3 g4 g5 g6 g7 g8 g9 g10 g12 g13 g15 g16 g17 g19 g20 g21 g22 g23 g24 g25 g26 g27 g28 g33 g34 g35 g36 g37 g38 g39 g41 g42 g44 g45 mn ml f8_31_18 z23 gi14 f8_18_18 f8_29_18 f8_30_18 (nI f8_32_18) gi40 gi43 hmn) (cwV 0 hts gX8_shapley_X8_all rfl rfl rfl (by decide +kernel) ⟨Nat.le_of_ble_eq_true rfl, Nat.le_of_ble_eq_true rfl⟩) (k_preV hE hP hD [0] (by decide +kernel) rfl 0 rfl rfl) rfl rfl hl.1 rfl (lv_room (Nat.le_of_ble_eq_true rfl)) dX8_shapley_21 ⟨Nat.le_of_ble_eq_true rfl, Nat.le_of_ble_eq_true rfl⟩) hP hD hS hA [0] rfl (fun _ _ ⟨_, h9⟩ => h9) (fun r32 H locs hw33 hP hD hS => ?_)
        obtain ⟨rfl, -⟩ := hw33
        refine lv_icmp_gt (tgt := 94) hx hb dX8_shapley_24 (by decide) (fun c34 => ?_) (fun c34 => ?_)
        · skip
          have nc34 : 2 ^ mn - 1 < i18 := (nI_ltI (a := (2 ^ mn - 1)) (b := i18) (by omega) (by omega)).mp c34
          refine lv_lload_n hx hb dX8_shapley_94 rfl (lv_at hl 1 rfl) ?_
          refine k_lret (u := [(oX8 g z23 (nI mn) g2 g3 g4 g5 g6 g7 g8 g9 g10 (nI ml) g12 g13 gi14 g15 g16 g17 f8_18_18 g19 g20 g21 g22 g23 g24 g25 g26 g27 g28 f8_29_18 f8_30_18 (nI f8_31_18) (nI f8_32_18) g33 g34 g35 g36 g37 g38 g39 gi40 g41 g42 gi43 g44 g45), (aIc cI g2 8 G2), (aIc cI g3 8 G3), (aIc cI g4 8 G4), (aIc cI g5 8 G5), (aIc cI g6 8 G6), (aIc cI g7 8 G7), (aIc cI g8 8 G8), (aIc cI g10 64 G10), (aIc cI g12 10 G12), (aIc cI g13 10 G13), (aIc cI g19 8 a_g19_18), (aIc cI g20 8 a_g20_18), (aIc cI g21 8 a_g21_18), (aIc cI g22 8 a_g22_18), (aIc cI g23 8 a_g23_18), (aIc cI g24 8 a_g24_18), (aIc cI g25 8 a_g25_18), (aIc cI g26 8 a_g26_18), (aIc cI g27 8 a_g27_18), (aIc cI g28 8 a_g28_18), (aIc cI g33 8 a_g33_18), (aIc cI g34 8 a_g34_18), (aIc cI g35 8 a_g35_18), (aIc cI g36 8 a_g36_18), (aJc cJ g37 8 a_g37_18)]) hx hb hr hlk hP hD hS dX8_shapley_95 ?_
          exact ⟨a_g19_18, a_g20_18, a_g21_18, a_g22_18, a_g23_18, a_g24_18, a_g25_18, a_g26_18, a_g27_18, a_g28_18, a_g33_18, a_g34_18, a_g35_18, a_g36_18, a_g37_18, f8_29_18, f8_30_18, f8_18_18, f8_31_18, f8_32_18, z23, hLE_18, hLO_18, hLW_18, hSH_18, htt_18, hmv_18, rfl⟩
        · skip
          have nc34 : ¬ 2 ^ mn - 1 < i18 := fun q9 => c34 ((nI_ltI (a := (2 ^ mn - 1)) (b := i18) (by omega) (by omega)).mpr q9)
          refine lv_iload hx hb dX8_shapley_27 (lv_at hl 0 rfl) ?_
          refine lv_iload_n hx hb dX8_shapley_29 rfl (lv_at hl 4 rfl) ?_
          refine k_iS (va_runS (As := [.int (nI i18), .int (nI pj)]) (rest := []) ⟨hx, hb, hml, hown, hts⟩ (m_X8_isOn l D cI cJ H.size (nI i18) (nI pj)) (va_cwS 2 hts gX8_shapley_X8_isOn rfl rfl rfl (by decide +kernel) ⟨Nat.le_of_ble_eq_true rfl, Nat.le_of_ble_eq_true rfl⟩) (k_pre hE hP hD [] (by decide +kernel) rfl) rfl rfl hl.1 rfl (lv_room (Nat.le_of_ble_eq_true rfl)) dX8_shapley_30 ⟨Nat.le_of_ble_eq_true rfl, Nat.le_of_ble_eq_true rfl⟩) hP hD hS hA [] rfl (fun _ _ h9 => h9.2) (fun r35 H locs hw36 hP hD hS => ?_)
          obtain ⟨hw36, -⟩ := hw36
          refine lv_if_ne (tgt := 88) hx hb dX8_shapley_33 (by decide) (fun c37 => ?_) (fun c37 => ?_)
          · skip
            have hc37 : ((nI i18) >>> ((nI pj) &&& 31)) &&& 1 = 1 := bz_1 hw36 c37
            refine lv_iinc (v := (nI (i18 + 1))) (lv' := [(5, .int (nI (i18 + 1))), (3, .long h3_18), (0, .ref g), (1, .int (nI lj)), (2, .int (nI pj))]) hx hb dX8_shapley_88 hl (k := 0) rfl (nI_1 _) (by decide) rfl (fun ls hl => ?_)
            refine lv_goto (tgt := 18) hx hb dX8_shapley_91 (by decide) ?_
            exact ih18 (i18 + 1) h3_18 a_g19_18 a_g20_18 a_g21_18 a_g22_18 a_g23_18 a_g24_18 a_g25_18 a_g26_18 a_g27_18 a_g28_18 a_g33_18 a_g34_18 a_g35_18 a_g36_18 a_g37_18 f8_29_18 f8_30_18 f8_31_18 f8_32_18 f8_18_18 (by omega) hLE_18 hLO_18 hLW_18 hSH_18 htt_18 hmv_18 (by omega) _ _ _ hP hD hS (lv_sub hl [0, 1, 2, 3, 4] rfl)
          · skip
            have hc37 : ¬ (((nI i18) >>> ((nI pj) &&& 31)) &&& 1 = 1) := bz_0 hw36 c37
            refine lv_aload_n hx hb dX8_shapley_36 rfl (lv_at hl 2 rfl) ?_
            refine lv_iload_n hx hb dX8_shapley_37 rfl (lv_at hl 3 rfl) ?_
            refine lv_iload hx hb dX8_shapley_38 (lv_at hl 0 rfl) ?_
            refine lv_iconst (v := 1) hx hb dX8_shapley_40 (by decide) ?_
            refine lv_iload_n hx hb dX8_shapley_41 rfl (lv_at hl 4 rfl) ?_
            refine lv_ishl hx hb dX8_shapley_42 ?_
            refine lv_topi (fun v38 ev38 => ?_)
            refine lv_ior hx hb dX8_shapley_43 ?_
            refine lv_topi (fun v39 ev39 => ?_)
            refine k_i (va_runV (As := [.int (nI lj), .int v39]) (rest := []) ⟨hx, hb, hml, hown, hts⟩ (m_X8_totalOf l D cI cJ H.size g g2 g3 g4 g5 g6 g7 g8 g9 g10 g12 g13 g15 g16 g17 g19 g20 g21 g22 g23 g24 g25 g26 g27 g28 g33 g34 g35 g36 g37 g38 g39 g41 g42 g44 g45 lj mn ml f8_31_18 f8_32_18 z23 gi14 f8_18_18 f8_29_18 f8_30_18 gi40 gi43 v39 G2 G3 G4 G5 G6 G7 G8 G10 G12 G13 a_g19_18 a_g20_18 a_g21_18 a_g22_18 a_g23_18 a_g24_18 a_g25_18 a_g26_18 a_g27_18 a_g28_18 a_g33_18 a_g34_18 a_g35_18 a_g36_18 a_g37_18 li0 wo0 de0 ag0 hmn hmL hit hsu hliv hlib hwov hwob hdev hdeb hagv hagb hamt hLE_18 hLO_18 hLW_18 hSH_18 htt_18 hmv_18 (by omega)) (cwV 2 hts gX8_shapley_X8_totalOf rfl rfl rfl (by decide +kernel) ⟨Nat.le_of_ble_eq_true rfl, Nat.le_of_ble_eq_true rfl⟩) (k_preV hE hP hD [0, 1, 2, 3, 4, 5, 6, 7, 8, 9, 10, 11, 12, 13, 14, 15, 16, 17, 18, 19, 20, 21, 22, 23, 24, 25] (by decide +kernel) rfl 0 rfl rfl) rfl rfl hl.1 rfl (lv_room (Nat.le_of_ble_eq_true rfl)) dX8_shapley_44 ⟨Nat.le_of_ble_eq_true rfl, Nat.le_of_ble_eq_true rfl⟩) hP hD hS hA [0, 1, 2, 3, 4, 5, 6, 7, 8, 9, 10, 11, 12, 13, 14, 15, 16, 17, 18, 19, 20, 21, 22, 23, 24, 25] [] rfl (wr := []) rfl (by decide +kernel) (by decide +kernel) (fun r40 u H locs hw41 hP hD hS => ?_)
            obtain ⟨z42, z43, z44, z45, z46, z47, z48, z49, z50, z51, z52, z53, z54, z55, z56, z57, z58, z59, z60, z61, hz62, hz63, hz64, hz65, hz66, hz67, rfl⟩ := hw41
            refine k_re (w := [(oX8 g z23 (nI mn) g2 g3 g4 g5 g6 g7 g8 g9 g10 (nI ml) g12 g13 gi14 g15 g16 g17 z59 g19 g20 g21 g22 g23 g24 g25 g26 g27 g28 z57 z58 (nI z60) (nI z61) g33 g34 g35 g36 g37 g38 g39 gi40 g41 g42 gi43 g44 g45), (aIc cI g2 8 G2), (aIc cI g3 8 G3), (aIc cI g4 8 G4), (aIc cI g5 8 G5), (aIc cI g6 8 G6), (aIc cI g7 8 G7), (aIc cI g8 8 G8), (aIc cI g10 64 G10), (aIc cI g12 10 G12), (aIc cI g13 10 G13), (aIc cI g19 8 z42), (aIc cI g20 8 z43), (aIc cI g21 8 z44), (aIc cI g22 8 z45), (aIc cI g23 8 z46), (aIc cI g24 8 z47), (aIc cI g25 8 z48), (aIc cI g26 8 z49), (aIc cI g27 8 z50), (aIc cI g28 8 z51), (aIc cI g33 8 z52), (aIc cI g34 8 z53), (aIc cI g35 8 z54), (aIc cI g36 8 z55), (aJc cJ g37 8 z56)]) hP hD (fun hP hD => ?_)
            refine lv_aload_n hx hb dX8_shapley_47 rfl (lv_at hl 2 rfl) ?_
            refine lv_iload_n hx hb dX8_shapley_48 rfl (lv_at hl 3 rfl) ?_
            refine lv_iload hx hb dX8_shapley_49 (lv_at hl 0 rfl) ?_
            refine k_i (va_runV (As := [.int (nI lj), .int (nI i18)]) (rest := [.int r40]) ⟨hx, hb, hml, hown, hts⟩ (m_X8_totalOf l D cI cJ H.size g g2 g3 g4 g5 g6 g7 g8 g9 g10 g12 g13 g15 g16 g17 g19 g20 g21 g22 g23 g24 g25 g26 g27 g28 g33 g34 g35 g36 g37 g38 g39 g41 g42 g44 g45 lj mn ml z60 z61 z23 gi14 z59 z57 z58 gi40 gi43 (nI i18) G2 G3 G4 G5 G6 G7 G8 G10 G12 G13 z42 z43 z44 z45 z46 z47 z48 z49 z50 z51 z52 z53 z54 z55 z56 li0 wo0 de0 ag0 hmn hmL hit hsu hliv hlib hwov hwob hdev hdeb hagv hagb hamt hz62 hz63 hz64 hz65 hz66 hz67 (by omega)) (cwV 2 hts gX8_shapley_X8_totalOf rfl rfl rfl (by decide +kernel) ⟨Nat.le_of_ble_eq_true rfl, Nat.le_of_ble_eq_true rfl⟩) (k_preV hE hP hD [0, 1, 2, 3, 4, 5, 6, 7, 8, 9, 10, 11, 12, 13, 14, 15, 16, 17, 18, 19, 20, 21, 22, 23, 24, 25] (by decide +kernel) rfl 0 rfl rfl) rfl rfl hl.1 rfl (lv_room (Nat.le_of_ble_eq_true rfl)) dX8_shapley_51 ⟨Nat.le_of_ble_eq_true rfl, Nat.le_of_ble_eq_true rfl⟩) hP hD hS hA [0, 1, 2, 3, 4, 5, 6, 7, 8, 9, 10, 11, 12, 13, 14, 15, 16, 17, 18, 19, 20, 21, 22, 23, 24, 25] [] rfl (wr := []) rfl (by decide +kernel) (by decide +kernel) (fun r68 u H locs hw69 hP hD hS => ?_)
            obtain ⟨z70, z71, z72, z73, z74, z75, z76, z77, z78, z79, z80, z81, z82, z83, z84, z85, z86, z87, z88, z89, hz90, hz91, hz92, hz93, hz94, hz95, rfl⟩ := hw69
            refine k_re (w := [(oX8 g z23 (nI mn) g2 g3 g4 g5 g6 g7 g8 g9 g10 (nI ml) g12 g13 gi14 g15 g16 g17 z87 g19 g20 g21 g22 g23 g24 g25 g26 g27 g28 z85 z86 (nI z88) (nI z89) g33 g34 g35 g36 g37 g38 g39 gi40 g41 g42 gi43 g44 g45), (aIc cI g2 8 G2), (aIc cI g3 8 G3), (aIc cI g4 8 G4), (aIc cI g5 8 G5), (aIc cI g6 8 G6), (aIc cI g7 8 G7), (aIc cI g8 8 G8), (aIc cI g10 64 G10), (aIc cI g12 10 G12), (aIc cI g13 10 G13), (aIc cI g19 8 z70), (aIc cI g20 8 z71), (aIc cI g21 8 z72), (aIc cI g22 8 z73), (aIc cI g23 8 z74), (aIc cI g24 8 z75), (aIc cI g25 8 z76), (aIc cI g26 8 z77), (aIc cI g27 8 z78), (aIc cI g28 8 z79), (aIc cI g33 8 z80), (aIc cI g34 8 z81), (aIc cI g35 8 z82), (aIc cI g36 8 z83), (aJc cJ g37 8 z84)]) hP hD (fun hP hD => ?_)
            refine lv_isub hx hb dX8_shapley_54 ?_
            refine lv_topi (fun v96 ev96 => ?_)
            refine lv_istore (lv' := [(6, .int v96), (5, .int (nI i18)), (3, .long h3_18), (0, .ref g), (1, .int (nI lj)), (2, .int (nI pj))]) hx hb dX8_shapley_55 hl (by decide) rfl (fun ls hl => ?_)
            refine lv_lload_n hx hb dX8_shapley_57 rfl (lv_at hl 2 rfl) ?_
            refine lv_iload hx hb dX8_shapley_58 (lv_at hl 0 rfl) ?_
            refine lv_i2l hx hb dX8_shapley_60 rfl ?_
            refine lv_iload hx hb dX8_shapley_61 (lv_at hl 1 rfl) ?_
            refine k_iS (va_runS (As := [.int (nI i18)]) (rest := [.long (Int32.toInt64 v96), .long h3_18]) ⟨hx, hb, hml, hown, hts⟩ (m_X8_bits l D cI cJ H.size (nI i18)) (va_cwS 1 hts gX8_shapley_X8_bits rfl rfl rfl (by decide +kernel) ⟨Nat.le_of_ble_eq_true rfl, Nat.le_of_ble_eq_true rfl⟩) (k_pre hE hP hD [] (by decide +kernel) rfl) rfl rfl hl.1 rfl (lv_room (Nat.le_of_ble_eq_true rfl)) dX8_shapley_63 ⟨Nat.le_of_ble_eq_true rfl, Nat.le_of_ble_eq_true rfl⟩) hP hD hS hA [] rfl (fun _ _ ⟨_, _, _, h9⟩ => h9) (fun r97 H locs hw98 hP hD hS => ?_)
            obtain ⟨z99, hz100, rfl, -⟩ := hw98
            refine k_lS (va_runS (As := [.int (nI z99)]) (rest := [.long (Int32.toInt64 v96), .long h3_18]) ⟨hx, hb, hml, hown, hts⟩ (m_X8_orders l D cI cJ H.size (nI z99) (od_n (by omega))) (va_cwS 1 hts gX8_shapley_X8_orders rfl rfl rfl (by decide +kernel) ⟨Nat.le_of_ble_eq_true rfl, Nat.le_of_ble_eq_true rfl⟩) (k_pre hE hP hD [] (by decide +kernel) rfl) rfl rfl hl.1 rfl (lv_room (Nat.le_of_ble_eq_true rfl)) dX8_shapley_66 ⟨Nat.le_of_ble_eq_true rfl, Nat.le_of_ble_eq_true rfl⟩) hP hD hS hA [] rfl (fun _ _ h9 => h9) (fun r101 H locs hw102 hP hD hS => ?_)
            refine lv_lmul hx hb dX8_shapley_69 ?_
            refine lv_topl (fun v103 ev103 => ?_)
            refine lv_aload_n hx hb dX8_shapley_70 rfl (lv_at hl 3 rfl) ?_
            refine va_get (D := D) (ci := 8) (v := .int (nI mn)) (C := RX8) (T := TX8) (N := 46) hx hb hts hiX8 hown hE.1 hP 0 rfl rfl 1 (by decide) (hts _ (List.mem_cons_of_mem _ wd_176)) (fun _ h9 => h9) rfl dX8_shapley_71 ?_
            refine lv_iload hx hb dX8_shapley_74 (lv_at hl 1 rfl) ?_
            refine k_iS (va_runS (As := [.int (nI i18)]) (rest := [.int (nI mn), .long v103, .long h3_18]) ⟨hx, hb, hml, hown, hts⟩ (m_X8_bits l D cI cJ H.size (nI i18)) (va_cwS 1 hts gX8_shapley_X8_bits rfl rfl rfl (by decide +kernel) ⟨Nat.le_of_ble_eq_true rfl, Nat.le_of_ble_eq_true rfl⟩) (k_pre hE hP hD [] (by decide +kernel) rfl) rfl rfl hl.1 rfl (lv_room (Nat.le_of_ble_eq_true rfl)) dX8_shapley_76 ⟨Nat.le_of_ble_eq_true rfl, Nat.le_of_ble_eq_true rfl⟩) hP hD hS hA [] rfl (fun _ _ ⟨_, _, _, h9⟩ => h9) (fun r104 H locs hw105 hP hD hS => ?_)
            obtain ⟨z106, hz107, rfl, -⟩ := hw105
            refine lv_isub hx hb dX8_shapley_79 ?_
            refine lv_topi (fun v108 ev108 => ?_)
            refine lv_iconst (v := 1) hx hb dX8_shapley_80 (by decide) ?_
            refine lv_isub hx hb dX8_shapley_81 ?_
            refine lv_topi (fun v109 ev109 => ?_)
            refine k_lS (va_runS (As := [.int v109]) (rest := [.long v103, .long h3_18]) ⟨hx, hb, hml, hown, hts⟩ (m_X8_orders l D cI cJ H.size v109 (od_x hmn (by omega) ev108 ev109)) (va_cwS 1 hts gX8_shapley_X8_orders rfl rfl rfl (by decide +kernel) ⟨Nat.le_of_ble_eq_true rfl, Nat.le_of_ble_eq_true rfl⟩) (k_pre hE hP hD [] (by decide +kernel) rfl) rfl rfl hl.1 rfl (lv_room (Nat.le_of_ble_eq_true rfl)) dX8_shapley_82 ⟨Nat.le_of_ble_eq_true rfl, Nat.le_of_ble_eq_true rfl⟩) hP hD hS hA [] rfl (fun _ _ h9 => h9) (fun r110 H locs hw111 hP hD hS => ?_)
            refine lv_lmul hx hb dX8_shapley_85 ?_
            refine lv_topl (fun v112 ev112 => ?_)
            refine lv_ladd hx hb dX8_shapley_86 ?_
            refine lv_topl (fun v113 ev113 => ?_)
            refine lv_lstore_n (lv' := [(3, .long v113), (6, .int v96), (5, .int (nI i18)), (0, .ref g), (1, .int (nI lj)), (2, .int (nI pj))]) hx hb dX8_shapley_87 rfl hl (by decide) rfl (fun ls hl => ?_)
            refine lv_iinc (v := (nI (i18 + 1))) (lv' := [(5, .int (nI (i18 + 1))), (3, .long v113), (6, .int v96), (0, .ref g), (1, .int (nI lj)), (2, .int (nI pj))]) hx hb dX8_shapley_88 hl (k := 2) rfl (nI_1 _) (by decide) rfl (fun ls hl => ?_)
            refine lv_goto (tgt := 18) hx hb dX8_shapley_91 (by decide) ?_
            exact ih18 (i18 + 1) v113 z70 z71 z72 z73 z74 z75 z76 z77 z78 z79 z80 z81 z82 z83 z84 z85 z86 z88 z89 z87 (by omega) hz90 hz91 hz92 hz93 hz94 hz95 (by omega) _ _ _ hP hD hS (lv_sub hl [0, 1, 3, 4, 5] rfl)
    exact J18 _ 0 0 z3 z4 z5 z6 z7 z8 z9 z10 z11 z12 z13 z14 z15 z16 z17 z18 z19 z21 z22 z20 (by omega) hz24 hz25 hz26 hz27 hz28 hz29 (Nat.lt_succ_self _) _ _ _ hP hD hS (lv_sub hl [0, 1, 2, 3, 4] rfl)
  · skip
    refine lv_ldc2 (v := (-1)) hx hb hown (hts _ (List.mem_cons_of_mem _ wd_225)) dX8_shapley_9 ?_
    refine k_lret (u := [(oX8 g z23 (nI mn) g2 g3 g4 g5 g6 g7 g8 g9 g10 (nI ml) g12 g13 gi14 g15 g16 g17 z20 g19 g20 g21 g22 g23 g24 g25 g26 g27 g28 z18 z19 (nI z21) (nI z22) g33 g34 g35 g36 g37 g38 g39 gi40 g41 g42 gi43 g44 g45), (aIc cI g2 8 G2), (aIc cI g3 8 G3), (aIc cI g4 8 G4), (aIc cI g5 8 G5), (aIc cI g6 8 G6), (aIc cI g7 8 G7), (aIc cI g8 8 G8), (aIc cI g10 64 G10), (aIc cI g12 10 G12), (aIc cI g13 10 G13), (aIc cI g19 8 z3), (aIc cI g20 8 z4), (aIc cI g21 8 z5), (aIc cI g22 8 z6), (aIc cI g23 8 z7), (aIc cI g24 8 z8), (aIc cI g25 8 z9), (aIc cI g26 8 z10), (aIc cI g27 8 z11), (aIc cI g28 8 z12), (aIc cI g33 8 z13), (aIc cI g34 8 z14), (aIc cI g35 8 z15), (aIc cI g36 8 z16), (aJc cJ g37 8 z17)]) hx hb hr hlk hP hD hS dX8_shapley_12 ?_
    exact ⟨z3, z4, z5, z6, z7, z8, z9, z10, z11, z12, z13, z14, z15, z16, z17, z18, z19, z20, z21, z22, z23, hz24, hz25, hz26, hz27, hz28, hz29, rfl⟩

