theorem dX8_recovery_0 : decode cX8_recovery 0 = .ok (.aload_n 0, 1) := by decide +kernel
theorem dX8_recovery_1 : decode cX8_recovery 1 = .ok (.iload_n 1, 1) := by decide +kernel
theorem dX8_recovery_2 : decode cX8_recovery 2 = .ok (.lload_n 2, 1) := by decide +kernel
theorem dX8_recovery_3 : decode cX8_recovery 3 = .ok (.invokevirtual 287, 3) := by decide +kernel
theorem dX8_recovery_6 : decode cX8_recovery 6 = .ok (.ifCond .ne 5, 3) := by decide +kernel
theorem dX8_recovery_9 : decode cX8_recovery 9 = .ok (.iconst (-1), 1) := by decide +kernel
theorem dX8_recovery_10 : decode cX8_recovery 10 = .ok (.ireturn, 1) := by decide +kernel
theorem dX8_recovery_11 : decode cX8_recovery 11 = .ok (.aload_n 0, 1) := by decide +kernel
theorem dX8_recovery_12 : decode cX8_recovery 12 = .ok (.invokevirtual 297, 3) := by decide +kernel
theorem dX8_recovery_15 : decode cX8_recovery 15 = .ok (.iload 4, 2) := by decide +kernel
theorem dX8_recovery_17 : decode cX8_recovery 17 = .ok (.iconst (-1), 1) := by decide +kernel
theorem dX8_recovery_18 : decode cX8_recovery 18 = .ok (.if_icmp .ne 8, 3) := by decide +kernel
theorem dX8_recovery_21 : decode cX8_recovery 21 = .ok (.aload_n 0, 1) := by decide +kernel
theorem dX8_recovery_22 : decode cX8_recovery 22 = .ok (.getfield 291, 3) := by decide +kernel
theorem dX8_recovery_25 : decode cX8_recovery 25 = .ok (.ireturn, 1) := by decide +kernel
theorem dX8_recovery_26 : decode cX8_recovery 26 = .ok (.iload 4, 2) := by decide +kernel
theorem dX8_recovery_28 : decode cX8_recovery 28 = .ok (.i2l, 1) := by decide +kernel
theorem dX8_recovery_29 : decode cX8_recovery 29 = .ok (.lconst 0, 1) := by decide +kernel
theorem dX8_recovery_30 : decode cX8_recovery 30 = .ok (.aload_n 0, 1) := by decide +kernel
theorem dX8_recovery_31 : decode cX8_recovery 31 = .ok (.getfield 291, 3) := by decide +kernel
theorem dX8_recovery_34 : decode cX8_recovery 34 = .ok (.iconst 1, 1) := by decide +kernel
theorem dX8_recovery_35 : decode cX8_recovery 35 = .ok (.isub, 1) := by decide +kernel
theorem dX8_recovery_36 : decode cX8_recovery 36 = .ok (.i2l, 1) := by decide +kernel
theorem dX8_recovery_37 : decode cX8_recovery 37 = .ok (.invokestatic 123, 3) := by decide +kernel
theorem dX8_recovery_40 : decode cX8_recovery 40 = .ok (.ifCond .eq 31, 3) := by decide +kernel
theorem dX8_recovery_43 : decode cX8_recovery 43 = .ok (.iload 5, 2) := by decide +kernel
theorem dX8_recovery_45 : decode cX8_recovery 45 = .ok (.i2l, 1) := by decide +kernel
theorem dX8_recovery_46 : decode cX8_recovery 46 = .ok (.lconst 0, 1) := by decide +kernel
theorem dX8_recovery_47 : decode cX8_recovery 47 = .ok (.ldc2_w 300, 3) := by decide +kernel
theorem dX8_recovery_50 : decode cX8_recovery 50 = .ok (.invokestatic 123, 3) := by decide +kernel
theorem dX8_recovery_53 : decode cX8_recovery 53 = .ok (.ifCond .eq 18, 3) := by decide +kernel
theorem dX8_recovery_56 : decode cX8_recovery 56 = .ok (.aload_n 0, 1) := by decide +kernel
theorem dX8_recovery_57 : decode cX8_recovery 57 = .ok (.getfield 107, 3) := by decide +kernel
theorem dX8_recovery_60 : decode cX8_recovery 60 = .ok (.iconst 3, 1) := by decide +kernel
theorem dX8_recovery_61 : decode cX8_recovery 61 = .ok (.iload 4, 2) := by decide +kernel
theorem dX8_recovery_63 : decode cX8_recovery 63 = .ok (.imul, 1) := by decide +kernel
theorem dX8_recovery_64 : decode cX8_recovery 64 = .ok (.iload 5, 2) := by decide +kernel
theorem dX8_recovery_66 : decode cX8_recovery 66 = .ok (.iadd, 1) := by decide +kernel
theorem dX8_recovery_67 : decode cX8_recovery 67 = .ok (.iaload, 1) := by decide +kernel
theorem dX8_recovery_68 : decode cX8_recovery 68 = .ok (.goto 4, 3) := by decide +kernel
theorem dX8_recovery_71 : decode cX8_recovery 71 = .ok (.iconst (-1), 1) := by decide +kernel
theorem dX8_recovery_72 : decode cX8_recovery 72 = .ok (.ireturn, 1) := by decide +kernel
theorem gX8_recovery_X8_claims : GoodIn wtX8_recovery (wsV RX8 287 RX8 yX8_claims wtX8_claims) := tb_good (tb_v0 wd_752 wd_753 wd_754 wd_5 wd_755)
theorem gX8_recovery_X8_in : GoodIn wtX8_recovery (va_wsS RX8 123 yX8_in wtX8_in) := tb_good (tb_s0 wd_177 wd_178 wd_5 wd_179)
theorem gX8_recovery_X8_recovers : GoodIn wtX8_recovery (wsV RX8 297 RX8 yX8_recovers wtX8_recovers) := tb_good (tb_v0 wd_791 wd_792 wd_793 wd_5 wd_794)
set_option maxHeartbeats 4000000 in
set_option maxRecDepth 100000 in
theorem m_X8_recovery (l : Launch) (D : va_G) (cI cJ : ClassId) (sz : Nat) (g g2 g3 g4 g5 g6 g7 g8 g9 g10 g12 g13 g15 g16 g17 g19 g20 g21 g22 g23 g24 g25 g26 g27 g28 g33 g34 g35 g36 g37 g38 g39 g41 g42 g44 g45 mn ml mv tt : Nat) (gi0 gi14 gi18 gi29 gi30 gi40 gi43 p0 p2 p3 : Int32) (p1 : Int64) (G2 G3 G4 G5 G6 G7 G8 G10 G12 G13 G19 G20 G21 G22 G23 G24 G25 G26 G27 G28 G33 G34 G35 G36 : Nat → Int32) (G37 : Nat → Int64) (G39 G41 G42 : Nat → Int32) (li0 wo0 de0 ag0 : Nat → Nat) (hmn : mn ≤ 8) (hmL : ml ≤ 10) (hit : ∀ k, k < 10 → ∃ j : Nat, j < 8 ∧ G12 k = nI j) (hsu : ∀ k, k < 64 → ∃ j : Nat, j ≤ 1000001 ∧ G10 k = nI j) (hliv : nv G2 li0) (hlib : ∀ k, k < 8 → li0 k ≤ 1000000) (hwov : nv G5 wo0) (hwob : ∀ k, k < 8 → wo0 k ≤ 9000000) (hdev : nv G4 de0) (hdeb : ∀ k, k < 8 → de0 k ≤ 99999) (hagv : nv G3 ag0) (hagb : ∀ k, k < 8 → ag0 k ≤ 9000000) (hamt : ∀ k, k < 10 → ∃ j : Nat, j < 1000001 ∧ G13 k = nI j) (hLE : LE G19) (hLO : LO G20) (hLW : LW G25) (hSH : SH G27 tt) (htt : tt ≤ 1000000) (hmv : mv ≤ 8) : Met l yX8_recovery wtX8_recovery { frames := 9, cells := 0, slots := 0, locals := 216 } (cPc D cI cJ [.ref g, .int p0, .long p1, .int p2, .int p3] sz [(oX8 g gi0 (nI mn) g2 g3 g4 g5 g6 g7 g8 g9 g10 (nI ml) g12 g13 gi14 g15 g16 g17 gi18 g19 g20 g21 g22 g23 g24 g25 g26 g27 g28 gi29 gi30 (nI mv) (nI tt) g33 g34 g35 g36 g37 g38 g39 gi40 g41 g42 gi43 g44 g45), (aIc cI g2 8 G2), (aIc cI g3 8 G3), (aIc cI g4 8 G4), (aIc cI g5 8 G5), (aIc cI g6 8 G6), (aIc cI g7 8 G7), (aIc cI g8 8 G8), (aIc cI g10 64 G10), (aIc cI g12 10 G12), (aIc cI g13 10 G13), (aIc cI g19 8 G19), (aIc cI g20 8 G20), (aIc cI g21 8 G21), (aIc cI g22 8 G22), (aIc cI g23 8 G23), (aIc cI g24 8 G24), (aIc cI g25 8 G25), (aIc cI g26 8 G26), (aIc cI g27 8 G27), (aIc cI g28 8 G28), (aIc cI g33 8 G33), (aIc cI g34 8 G34), (aIc cI g35 8 G35), (aIc cI g36 8 G36), (aJc cJ g37 8 G37), (aIc cI g39 8 G39), (aIc cI g41 9 G41), (aIc cI g42 192 G42)]) (cQi D (fun r u => ∃ (G19p G20p G21p G22p G23p G24p G25p G26p G27p G28p G33p G34p G35p G36p : Nat → Int32) (G37p : Nat → Int64) (gi29p gi30p gi18p : Int32) (mvp ttp : Nat) (gi0p : Int32) (G39p : Nat → Int32) (gi40p : Int32) (G41p G42p : Nat → Int32) (gi43p : Int32), (LE G19p) ∧ (LO G20p) ∧ (LW G25p) ∧ (SH G27p ttp) ∧ (ttp ≤ 1000000) ∧ (mvp ≤ 8) ∧ u = [(oX8 g gi0p (nI mn) g2 g3 g4 g5 g6 g7 g8 g9 g10 (nI ml) g12 g13 gi14 g15 g16 g17 gi18p g19 g20 g21 g22 g23 g24 g25 g26 g27 g28 gi29p gi30p (nI mvp) (nI ttp) g33 g34 g35 g36 g37 g38 g39 gi40p g41 g42 gi43p g44 g45), (aIc cI g2 8 G2), (aIc cI g3 8 G3), (aIc cI g4 8 G4), (aIc cI g5 8 G5), (aIc cI g6 8 G6), (aIc cI g7 8 G7), (aIc cI g8 8 G8), (aIc cI g10 64 G10), (aIc cI g12 10 G12), (aIc cI g13 10 G13), (aIc cI g19 8 G19p), (aIc cI g20 8 G20p), (aIc cI g21 8 G21p), (aIc cI g22 8 G22p), (aIc cI g23 8 G23p), (aIc cI g24 8 G24p), (aIc cI g25 8 G25p), (aIc cI g26 8 G26p), (aIc cI g27 8 G27p), (aIc cI g28 8 G28p), (aIc cI g33 8 G33p), (aIc cI g34 8 G34p), (aIc cI g35 8 G35p), (aIc cI g36 8 G36p), (aJc cJ g37 8 G37p), (aIc cI g39 8 G39p), (aIc cI g41 9 G41p), (aIc cI g42 192 G42p)]) (va_A [(oX8 g gi0 (nI mn) g2 g3 g4 g5 g6 g7 g8 g9 g10 (nI ml) g12 g13 gi14 g15 g16 g17 gi18 g19 g20 g21 g22 g23 g24 g25 g26 g27 g28 gi29 gi30 (nI mv) (nI tt) g33 g34 g35 g36 g37 g38 g39 gi40 g41 g42 gi43 g44 g45), (aIc cI g2 8 G2), (aIc cI g3 8 G3), (aIc cI g4 8 G4), (aIc cI g5 8 G5), (aIc cI g6 8 G6), (aIc cI g7 8 G7), (aIc cI g8 8 G8), (aIc cI g10 64 G10), (aIc cI g12 10 G12), (aIc cI g13 10 G13), (aIc cI g19 8 G19), (aIc cI g20 8 G20), (aIc cI g21 8 G21), (aIc cI g22 8 G22), (aIc cI g23 8 G23), (aIc cI g24 8 G24), (aIc cI g25 8 G25), (aIc cI g26 8 G26), (aIc cI g27 8 G27), (aIc cI g28 8 G28), (aIc cI g33 8 G33), (aIc cI g34 8 G34), (aIc cI g35 8 G35), (aIc cI g36 8 G36), (aJc cJ g37 8 G37), (aIc cI g39 8 G39), (aIc cI g41 9 G41), (aIc cI g42 192 G42)] sz)) 0 0 (va_A [(oX8 g gi0 (nI mn) g2 g3 g4 g5 g6 g7 g8 g9 g10 (nI ml) g12 g13 gi14 g15 g16 g17 gi18 g19 g20 g21 g22 g23 g24 g25 g26 g27 g28 gi29 gi30 (nI mv) (nI tt) g33 g34 g35 g36 g37 g38 g39 gi40 g41 g42 gi43 g44 g45), (aIc cI g2 8 G2), (aIc cI g3 8 G3), (aIc cI g4 8 G4), (aIc cI g5 8 G5), (aIc cI g6 8 G6), (aIc cI g7 8 G7), (aIc cI g8 8 G8), (aIc cI g10 64 G10), (aIc cI g12 10 G12), (aIc cI g13 10 G13), (aIc cI g19 8 G19), (aIc cI g20 8 G20), (aIc cI g21 8 G21), (aIc cI g22 8 G22), (aIc cI g23 8 G23), (aIc cI g24 8 G24), (aIc cI g25 8 G25), (aIc cI g26 8 G26), (aIc cI g27 8 G27), (aIc cI g28 8 G28), (aIc cI g33 8 G33), (aIc cI g34 8 G34), (aIc cI g35 8 G35), (aIc cI g36 8 G36), (aJc cJ g37 8 G37), (aIc cI g39 8 G39), (aIc cI g41 9 G41), (aIc cI g42 192 G42)] sz) := by
  refine k_ofW (Qc := cQi D (fun r u => ∃ (G19p G20p G21p G22p G23p G24p G25p G26p G27p G28p G33p G34p G35p G36p : Nat → Int32) (G37p : Nat → Int64) (gi29p gi30p gi18p : Int32) (mvp ttp : Nat) (gi0p : Int32) (G39p : Nat → Int32) (gi40p : Int32) (G41p G42p : Nat → Int32) (gi43p : Int32), (LE G19p) ∧ (LO G20p) ∧ (LW G25p) ∧ (SH G27p ttp) ∧ (ttp ≤ 1000000) ∧ (mvp ≤ 8) ∧ u = [(oX8 g gi0p (nI mn) g2 g3 g4 g5 g6 g7 g8 g9 g10 (nI ml) g12 g13 gi14 g15 g16 g17 gi18p g19 g20 g21 g22 g23 g24 g25 g26 g27 g28 gi29p gi30p (nI mvp) (nI ttp) g33 g34 g35 g36 g37 g38 g39 gi40p g41 g42 gi43p g44 g45), (aIc cI g2 8 G2), (aIc cI g3 8 G3), (aIc cI g4 8 G4), (aIc cI g5 8 G5), (aIc cI g6 8 G6), (aIc cI g7 8 G7), (aIc cI g8 8 G8), (aIc cI g10 64 G10), (aIc cI g12 10 G12), (aIc cI g13 10 G13), (aIc cI g19 8 G19p), (aIc cI g20 8 G20p), (aIc cI g21 8 G21p), (aIc cI g22 8 G22p), (aIc cI g23 8 G23p), (aIc cI g24 8 G24p), (aIc cI g25 8 G25p), (aIc cI g26 8 G26p), (aIc cI g27 8 G27p), (aIc cI g28 8 G28p), (aIc cI g33 8 G33p), (aIc cI g34 8 G34p), (aIc cI g35 8 G35p), (aIc cI g36 8 G36p), (aJc cJ g37 8 G37p), (aIc cI g39 8 G39p), (aIc cI g41 9 G41p), (aIc cI g42 192 G42p)])) (by decide) rfl (Nat.le_of_ble_eq_true rfl) ?_
  intro p e s m below meth c A ls hx hb hr hml hts hown hlk hnm hsz hE hP hD hS hA hl
  have hown : s.vm.findClass RX8 = some m.cls := hown
  have hiX8 : ∀ w ∈ u_ws RX8 TX8 46, w ∈ wtX8_recovery := fun w h => List.mem_cons_of_mem _ (iuX8 w h)
  have hl : lv_has ls 6 [(0, .ref g), (1, .int p0), (2, .long p1), (4, .int p2), (5, .int p3)] := hl
  refine lv_aload_n hx hb dX8_recovery_0 rfl (lv_at hl 0 rfl) ?_
  refine lv_iload_n hx hb dX8_recovery_1 rfl (lv_at hl 1 rfl) ?_
  refine lv_lload_n hx hb dX8_recovery_2 rfl (lv_at hl 2 rfl) ?_
  refine k_i (va_runV (As := [.int p0, .long p1]) (rest := []) ⟨hx, hb, hml, hown, hts⟩ (m_X8_claims l D cI cJ (s.heap).size g g2 g3 g4 g5 g6 g7 g8 g9 g10 g12 g13 g15 g16 g17 g19 g20 g21 g22 g23 g24 g25 g26 g27 g28 g33 g34 g35 g36 g37 g38 g39 g41 g42 g44 g45 mn ml mv tt gi0 gi14 gi18 gi29 gi30 gi40 gi43 p0 p1 G2 G3 G4 G5 G6 G7 G8 G10 G12 G13 G19 G20 G21 G22 G23 G24 G25 G26 G27 G28 G33 G34 G35 G36 G37 G39 li0 wo0 de0 ag0 hmn hmL hit hsu hliv hlib hwov hwob hdev hdeb hagv hagb hamt hLE hLO hLW hSH htt hmv) (cwV 2 hts gX8_recovery_X8_claims rfl rfl rfl (by decide +kernel) ⟨Nat.le_of_ble_eq_true rfl, Nat.le_of_ble_eq_true rfl⟩) (k_preV hE hP hD [0, 1, 2, 3, 4, 5, 6, 7, 8, 9, 10, 11, 12, 13, 14, 15, 16, 17, 18, 19, 20, 21, 22, 23, 24, 25, 26] (by decide +kernel) rfl 0 rfl rfl) rfl rfl hl.1 rfl (lv_room (Nat.le_of_ble_eq_true rfl)) dX8_recovery_3 ⟨Nat.le_of_ble_eq_true rfl, Nat.le_of_ble_eq_true rfl⟩) hP hD hS hA [0, 1, 2, 3, 4, 5, 6, 7, 8, 9, 10, 11, 12, 13, 14, 15, 16, 17, 18, 19, 20, 21, 22, 23, 24, 25, 26] [27, 28] rfl (wr := [(aIc cI g41 9 G41), (aIc cI g42 192 G42)]) rfl (by decide +kernel) (by decide +kernel) (fun r1 u H locs hw2 hP hD hS => ?_)
  obtain ⟨z3, z4, z5, z6, z7, z8, z9, z10, z11, z12, z13, z14, z15, z16, z17, z18, z19, z20, z21, z22, z23, z24, z25, hz26, hz27, hz28, hz29, hz30, hz31, hz32, rfl⟩ := hw2
  refine k_re (w := [(aIc cI g41 9 G41), (aIc cI g42 192 G42), (oX8 g z23 (nI mn) g2 g3 g4 g5 g6 g7 g8 g9 g10 (nI ml) g12 g13 gi14 g15 g16 g17 z20 g19 g20 g21 g22 g23 g24 g25 g26 g27 g28 z18 z19 (nI z21) (nI z22) g33 g34 g35 g36 g37 g38 g39 z25 g41 g42 gi43 g44 g45), (aIc cI g2 8 G2), (aIc cI g3 8 G3), (aIc cI g4 8 G4), (aIc cI g5 8 G5), (aIc cI g6 8 G6), (aIc cI g7 8 G7), (aIc cI g8 8 G8), (aIc cI g10 64 G10), (aIc cI g12 10 G12), (aIc cI g13 10 G13), (aIc cI g19 8 z3), (aIc cI g20 8 z4), (aIc cI g21 8 z5), (aIc cI g22 8 z6), (aIc cI g23 8 z7), (aIc cI g24 8 z8), (aIc cI g25 8 z9), (aIc cI g26 8 z10), (aIc cI g27 8 z11), (aIc cI g28 8 z12), (aIc cI g33 8 z13), (aIc cI g34 8 z14), (aIc cI g35 8 z15), (aIc cI g36 8 z16), (aJc cJ g37 8 z17), (aIc cI g39 8 z24)]) hP hD (fun hP hD => ?_)
  refine lv_if_ne (tgt := 11) hx hb dX8_recovery_6 (by decide) (fun c33 => ?_) (fun c33 => ?_)
  · skip
    obtain ⟨pd9, pa9, epa9, hp91, hp92, hp93⟩ := (hz32.resolve_left c33).2
    subst epa9
    refine lv_aload_n hx hb dX8_recovery_11 rfl (lv_at hl 0 rfl) ?_
    refine k_v (va_runV (As := []) (rest := []) ⟨hx, hb, hml, hown, hts⟩ (m_X8_recovers l D cI cJ H.size g g2 g3 g4 g5 g6 g7 g8 g9 g10 g12 g13 g15 g16 g17 g19 g20 g21 g22 g23 g24 g25 g26 g27 g28 g33 g34 g35 g36 g37 g38 g39 g41 g42 g44 g45 mn ml z21 z22 pa9 z23 gi14 z20 z18 z19 gi43 z11 z24 G41 G42 ⟨pd9, hp91, hp92, hp93⟩ hz29 hz30) (cwV 0 hts gX8_recovery_X8_recovers rfl rfl rfl (by decide +kernel) ⟨Nat.le_of_ble_eq_true rfl, Nat.le_of_ble_eq_true rfl⟩) (k_preV hE hP hD [2, 21, 28, 0, 1] (by decide +kernel) rfl 2 rfl rfl) rfl rfl hl.1 rfl (lv_room (Nat.le_of_ble_eq_true rfl)) dX8_recovery_12 ⟨Nat.le_of_ble_eq_true rfl, Nat.le_of_ble_eq_true rfl⟩) hP hD hS hA [2, 21, 28, 0, 1] [3, 4, 5, 6, 7, 8, 9, 10, 11, 12, 13, 14, 15, 16, 17, 18, 19, 20, 22, 23, 24, 25, 26, 27] rfl (wr := [(aIc cI g2 8 G2), (aIc cI g3 8 G3), (aIc cI g4 8 G4), (aIc cI g5 8 G5), (aIc cI g6 8 G6), (aIc cI g7 8 G7), (aIc cI g8 8 G8), (aIc cI g10 64 G10), (aIc cI g12 10 G12), (aIc cI g13 10 G13), (aIc cI g19 8 z3), (aIc cI g20 8 z4), (aIc cI g21 8 z5), (aIc cI g22 8 z6), (aIc cI g23 8 z7), (aIc cI g24 8 z8), (aIc cI g25 8 z9), (aIc cI g26 8 z10), (aIc cI g28 8 z12), (aIc cI g33 8 z13), (aIc cI g34 8 z14), (aIc cI g35 8 z15), (aIc cI g36 8 z16), (aJc cJ g37 8 z17)]) rfl (by decide +kernel) (by decide +kernel) (fun u H locs hw34 hP hD hS => ?_)
    obtain ⟨z35, z36, z37, hz38, rfl⟩ := hw34
    refine k_re (w := [(aIc cI g2 8 G2), (aIc cI g3 8 G3), (aIc cI g4 8 G4), (aIc cI g5 8 G5), (aIc cI g6 8 G6), (aIc cI g7 8 G7), (aIc cI g8 8 G8), (aIc cI g10 64 G10), (aIc cI g12 10 G12), (aIc cI g13 10 G13), (aIc cI g19 8 z3), (aIc cI g20 8 z4), (aIc cI g21 8 z5), (aIc cI g22 8 z6), (aIc cI g23 8 z7), (aIc cI g24 8 z8), (aIc cI g25 8 z9), (aIc cI g26 8 z10), (aIc cI g28 8 z12), (aIc cI g33 8 z13), (aIc cI g34 8 z14), (aIc cI g35 8 z15), (aIc cI g36 8 z16), (aJc cJ g37 8 z17), (oX8 g z23 (nI mn) g2 g3 g4 g5 g6 g7 g8 g9 g10 (nI ml) g12 g13 gi14 g15 g16 g17 z20 g19 g20 g21 g22 g23 g24 g25 g26 g27 g28 z18 z19 (nI z21) (nI z22) g33 g34 g35 g36 g37 g38 g39 (nI pa9) g41 g42 (nI z37) g44 g45), (aIc cI g27 8 z11), (aIc cI g39 8 z24), (aIc cI g41 9 z35), (aIc cI g42 192 z36)]) hP hD (fun hP hD => ?_)
    refine lv_iload hx hb dX8_recovery_15 (lv_at hl 3 rfl) ?_
    refine lv_iconst (v := (-1)) hx hb dX8_recovery_17 (by decide) ?_
    refine lv_icmp_ne (tgt := 26) hx hb dX8_recovery_18 (by decide) (fun c39 => ?_) (fun c39 => ?_)
    · skip
      refine lv_iload hx hb dX8_recovery_26 (lv_at hl 3 rfl) ?_
      refine lv_i2l hx hb dX8_recovery_28 rfl ?_
      refine lv_lconst (v := 0) hx hb dX8_recovery_29 (by decide) ?_
      refine lv_aload_n hx hb dX8_recovery_30 rfl (lv_at hl 0 rfl) ?_
      refine va_get (D := D) (ci := 8) (v := .int (nI z37)) (C := RX8) (T := TX8) (N := 46) hx hb hts hiX8 hown hE.1 hP 24 rfl rfl 43 (by decide) (hts _ (List.mem_cons_of_mem _ wd_789)) (fun _ h9 => h9) rfl dX8_recovery_31 ?_
      refine lv_iconst (v := 1) hx hb dX8_recovery_34 (by decide) ?_
      refine lv_isub hx hb dX8_recovery_35 ?_
      refine lv_topi (fun v40 ev40 => ?_)
      refine lv_i2l hx hb dX8_recovery_36 rfl ?_
      refine k_iS (va_runS (As := [.long (Int32.toInt64 p2), .long 0, .long (Int32.toInt64 v40)]) (rest := []) ⟨hx, hb, hml, hown, hts⟩ (m_X8_in l D cI cJ H.size (Int32.toInt64 p2) 0 (Int32.toInt64 v40)) (va_cwS 3 hts gX8_recovery_X8_in rfl rfl rfl (by decide +kernel) ⟨Nat.le_of_ble_eq_true rfl, Nat.le_of_ble_eq_true rfl⟩) (k_pre hE hP hD [] (by decide +kernel) rfl) rfl rfl hl.1 rfl (lv_room (Nat.le_of_ble_eq_true rfl)) dX8_recovery_37 ⟨Nat.le_of_ble_eq_true rfl, Nat.le_of_ble_eq_true rfl⟩) hP hD hS hA [] rfl (fun _ _ h9 => h9.2) (fun r41 H locs hw42 hP hD hS => ?_)
      obtain ⟨hw42, -⟩ := hw42
      have hw43 : r41 = bz (0 ≤ p2 ∧ p2 ≤ v40) := by rw [hw42]; exact bz_c (w3 (a := p2) (lo := 0) (hi := v40) (by decide) rfl)
      refine lv_if_eq (tgt := 71) hx hb dX8_recovery_40 (by decide) (fun c44 => ?_) (fun c44 => ?_)
      · skip
        have hc44 : ¬ (0 ≤ p2 ∧ p2 ≤ v40) := bz_0 hw43 c44
        refine lv_iconst (v := (-1)) hx hb dX8_recovery_71 (by decide) ?_
        refine k_iret (u := [(oX8 g z23 (nI mn) g2 g3 g4 g5 g6 g7 g8 g9 g10 (nI ml) g12 g13 gi14 g15 g16 g17 z20 g19 g20 g21 g22 g23 g24 g25 g26 g27 g28 z18 z19 (nI z21) (nI z22) g33 g34 g35 g36 g37 g38 g39 (nI pa9) g41 g42 (nI z37) g44 g45), (aIc cI g2 8 G2), (aIc cI g3 8 G3), (aIc cI g4 8 G4), (aIc cI g5 8 G5), (aIc cI g6 8 G6), (aIc cI g7 8 G7), (aIc cI g8 8 G8), (aIc cI g10 64 G10), (aIc cI g12 10 G12), (aIc cI g13 10 G13), (aIc cI g19 8 z3), (aIc cI g20 8 z4), (aIc cI g21 8 z5), (aIc cI g22 8 z6), (aIc cI g23 8 z7), (aIc cI g24 8 z8), (aIc cI g25 8 z9), (aIc cI g26 8 z10), (aIc cI g27 8 z11), (aIc cI g28 8 z12), (aIc cI g33 8 z13), (aIc cI g34 8 z14), (aIc cI g35 8 z15), (aIc cI g36 8 z16), (aJc cJ g37 8 z17), (aIc cI g39 8 z24), (aIc cI g41 9 z35), (aIc cI g42 192 z36)]) hx hb hr hlk (k_sub hP [24, 0, 1, 2, 3, 4, 5, 6, 7, 8, 9, 10, 11, 12, 13, 14, 15, 16, 17, 25, 18, 19, 20, 21, 22, 23, 26, 27, 28] rfl) (hD.sub [24, 0, 1, 2, 3, 4, 5, 6, 7, 8, 9, 10, 11, 12, 13, 14, 15, 16, 17, 25, 18, 19, 20, 21, 22, 23, 26, 27, 28] (by decide +kernel) rfl) hS dX8_recovery_72 ?_
        exact ⟨z3, z4, z5, z6, z7, z8, z9, z10, z11, z12, z13, z14, z15, z16, z17, z18, z19, z20, z21, z22, z23, z24, (nI pa9), z35, z36, (nI z37), hz26, hz27, hz28, hz29, hz30, hz31, rfl⟩
      · skip
        have hc44 : 0 ≤ p2 ∧ p2 ≤ v40 := bz_1 hw43 c44
        refine lv_iload hx hb dX8_recovery_43 (lv_at hl 4 rfl) ?_
        refine lv_i2l hx hb dX8_recovery_45 rfl ?_
        refine lv_lconst (v := 0) hx hb dX8_recovery_46 (by decide) ?_
        refine lv_ldc2 (v := 2) hx hb hown (hts _ (List.mem_cons_of_mem _ wd_790)) dX8_recovery_47 ?_
        refine k_iS (va_runS (As := [.long (Int32.toInt64 p3), .long 0, .long 2]) (rest := []) ⟨hx, hb, hml, hown, hts⟩ (m_X8_in l D cI cJ H.size (Int32.toInt64 p3) 0 2) (va_cwS 3 hts gX8_recovery_X8_in rfl rfl rfl (by decide +kernel) ⟨Nat.le_of_ble_eq_true rfl, Nat.le_of_ble_eq_true rfl⟩) (k_pre hE hP hD [] (by decide +kernel) rfl) rfl rfl hl.1 rfl (lv_room (Nat.le_of_ble_eq_true rfl)) dX8_recovery_50 ⟨Nat.le_of_ble_eq_true rfl, Nat.le_of_ble_eq_true rfl⟩) hP hD hS hA [] rfl (fun _ _ h9 => h9.2) (fun r45 H locs hw46 hP hD hS => ?_)
        obtain ⟨hw46, -⟩ := hw46
        have hw47 : r45 = bz (0 ≤ p3 ∧ p3 ≤ 2) := by rw [hw46]; exact bz_c (w3 (a := p3) (lo := 0) (hi := 2) (by decide) (by decide))
        refine lv_if_eq (tgt := 71) hx hb dX8_recovery_53 (by decide) (fun c48 => ?_) (fun c48 => ?_)
        · skip
          have hc48 : ¬ (0 ≤ p3 ∧ p3 ≤ 2) := bz_0 hw47 c48
          refine lv_iconst (v := (-1)) hx hb dX8_recovery_71 (by decide) ?_
          refine k_iret (u := [(oX8 g z23 (nI mn) g2 g3 g4 g5 g6 g7 g8 g9 g10 (nI ml) g12 g13 gi14 g15 g16 g17 z20 g19 g20 g21 g22 g23 g24 g25 g26 g27 g28 z18 z19 (nI z21) (nI z22) g33 g34 g35 g36 g37 g38 g39 (nI pa9) g41 g42 (nI z37) g44 g45), (aIc cI g2 8 G2), (aIc cI g3 8 G3), (aIc cI g4 8 G4), (aIc cI g5 8 G5), (aIc cI g6 8 G6), (aIc cI g7 8 G7), (aIc cI g8 8 G8), (aIc cI g10 64 G10), (aIc cI g12 10 G12), (aIc cI g13 10 G13), (aIc cI g19 8 z3), (aIc cI g20 8 z4), (aIc cI g21 8 z5), (aIc cI g22 8 z6), (aIc cI g23 8 z7), (aIc cI g24 8 z8), (aIc cI g25 8 z9), (aIc cI g26 8 z10), (aIc cI g27 8 z11), (aIc cI g28 8 z12), (aIc cI g33 8 z13), (aIc cI g34 8 z14), (aIc cI g35 8 z15), (aIc cI g36 8 z16), (aJc cJ g37 8 z17), (aIc cI g39 8 z24), (aIc cI g41 9 z35), (aIc cI g42 192 z36)]) hx hb hr hlk (k_sub hP [24, 0, 1, 2, 3, 4, 5, 6, 7, 8, 9, 10, 11, 12, 13, 14, 15, 16, 17, 25, 18, 19, 20, 21, 22, 23, 26, 27, 28] rfl) (hD.sub [24, 0, 1, 2, 3, 4, 5, 6, 7, 8, 9, 10, 11, 12, 13, 14, 15, 16, 17, 25, 18, 19, 20, 21, 22, 23, 26, 27, 28] (by decide +kernel) rfl) hS dX8_recovery_72 ?_
          exact ⟨z3, z4, z5, z6, z7, z8, z9, z10, z11, z12, z13, z14, z15, z16, z17, z18, z19, z20, z21, z22, z23, z24, (nI pa9), z35, z36, (nI z37), hz26, hz27, hz28, hz29, hz30, hz31, rfl⟩
        · skip
          have hc48 : 0 ≤ p3 ∧ p3 ≤ 2 := bz_1 hw47 c48
          obtain ⟨kj, hkj, ekj⟩ := wi_n (n := z37) (by omega) (by rw [← ev40]; exact hc44)
          rw [ekj] at hl
          obtain ⟨wj, hwj, ewj⟩ := wi_k (k := 0) (c := 2) (by decide) (by decide) hc48
          rw [ewj] at hl
          refine lv_aload_n hx hb dX8_recovery_56 rfl (lv_at hl 0 rfl) ?_
          refine va_get (D := D) (ci := 8) (v := .ref g42) (C := RX8) (T := TX8) (N := 46) hx hb hts hiX8 hown hE.1 hP 24 rfl rfl 42 (by decide) (hts _ (List.mem_cons_of_mem _ wd_148)) (fun _ h9 => h9) rfl dX8_recovery_57 ?_
          refine lv_iconst (v := 3) hx hb dX8_recovery_60 (by decide) ?_
          refine lv_iload hx hb dX8_recovery_61 (lv_at hl 3 rfl) ?_
          refine lv_imul hx hb dX8_recovery_63 ?_
          refine lv_topi (fun v49 ev49 => ?_)
          obtain rfl : v49 = (nI (3 * kj)) := by rw [ev49]; exact pk_mul 3 kj
          refine lv_iload hx hb dX8_recovery_64 (lv_at hl 4 rfl) ?_
          refine lv_iadd hx hb dX8_recovery_66 ?_
          refine lv_topi (fun v50 ev50 => ?_)
          obtain rfl : v50 = (nI (3 * kj + wj)) := by rw [ev50]; exact nI_add (3 * kj) wj
          refine va_iald hx hb hE.1 hP 28 0 rfl rfl (vp_in_nI (n := 3 * kj + wj) (by omega) (by decide)) dX8_recovery_67 ?_
          refine lv_topi (fun v51 ev51 => ?_)
          refine lv_goto (tgt := 72) hx hb dX8_recovery_68 (by decide) ?_
          refine k_iret (u := [(oX8 g z23 (nI mn) g2 g3 g4 g5 g6 g7 g8 g9 g10 (nI ml) g12 g13 gi14 g15 g16 g17 z20 g19 g20 g21 g22 g23 g24 g25 g26 g27 g28 z18 z19 (nI z21) (nI z22) g33 g34 g35 g36 g37 g38 g39 (nI pa9) g41 g42 (nI z37) g44 g45), (aIc cI g2 8 G2), (aIc cI g3 8 G3), (aIc cI g4 8 G4), (aIc cI g5 8 G5), (aIc cI g6 8 G6), (aIc cI g7 8 G7), (aIc cI g8 8 G8), (aIc cI g10 64 G10), (aIc cI g12 10 G12), (aIc cI g13 10 G13), (aIc cI g19 8 z3), (aIc cI g20 8 z4), (aIc cI g21 8 z5), (aIc cI g22 8 z6), (aIc cI g23 8 z7), (aIc cI g24 8 z8), (aIc cI g25 8 z9), (aIc cI g26 8 z10), (aIc cI g27 8 z11), (aIc cI g28 8 z12), (aIc cI g33 8 z13), (aIc cI g34 8 z14), (aIc cI g35 8 z15), (aIc cI g36 8 z16), (aJc cJ g37 8 z17), (aIc cI g39 8 z24), (aIc cI g41 9 z35), (aIc cI g42 192 z36)]) hx hb hr hlk (k_sub hP [24, 0, 1, 2, 3, 4, 5, 6, 7, 8, 9, 10, 11, 12, 13, 14, 15, 16, 17, 25, 18, 19, 20, 21, 22, 23, 26, 27, 28] rfl) (hD.sub [24, 0, 1, 2, 3, 4, 5, 6, 7, 8, 9, 10, 11, 12, 13, 14, 15, 16, 17, 25, 18, 19, 20, 21, 22, 23, 26, 27, 28] (by decide +kernel) rfl) hS dX8_recovery_72 ?_
          exact ⟨z3, z4, z5, z6, z7, z8, z9, z10, z11, z12, z13, z14, z15, z16, z17, z18, z19, z20, z21, z22, z23, z24, (nI pa9), z35, z36, (nI z37), hz26, hz27, hz28, hz29, hz30, hz31, rfl⟩
    · skip
      refine lv_aload_n hx hb dX8_recovery_21 rfl (lv_at hl 0 rfl) ?_
      refine va_get (D := D) (ci := 8) (v := .int (nI z37)) (C := RX8) (T := TX8) (N := 46) hx hb hts hiX8 hown hE.1 hP 24 rfl rfl 43 (by decide) (hts _ (List.mem_cons_of_mem _ wd_789)) (fun _ h9 => h9) rfl dX8_recovery_22 ?_
      refine k_iret (u := [(oX8 g z23 (nI mn) g2 g3 g4 g5 g6 g7 g8 g9 g10 (nI ml) g12 g13 gi14 g15 g16 g17 z20 g19 g20 g21 g22 g23 g24 g25 g26 g27 g28 z18 z19 (nI z21) (nI z22) g33 g34 g35 g36 g37 g38 g39 (nI pa9) g41 g42 (nI z37) g44 g45), (aIc cI g2 8 G2), (aIc cI g3 8 G3), (aIc cI g4 8 G4), (aIc cI g5 8 G5), (aIc cI g6 8 G6), (aIc cI g7 8 G7), (aIc cI g8 8 G8), (aIc cI g10 64 G10), (aIc cI g12 10 G12), (aIc cI g13 10 G13), (aIc cI g19 8 z3), (aIc cI g20 8 z4), (aIc cI g21 8 z5), (aIc cI g22 8 z6), (aIc cI g23 8 z7), (aIc cI g24 8 z8), (aIc cI g25 8 z9), (aIc cI g26 8 z10), (aIc cI g27 8 z11), (aIc cI g28 8 z12), (aIc cI g33 8 z13), (aIc cI g34 8 z14), (aIc cI g35 8 z15), (aIc cI g36 8 z16), (aJc cJ g37 8 z17), (aIc cI g39 8 z24), (aIc cI g41 9 z35), (aIc cI g42 192 z36)]) hx hb hr hlk (k_sub hP [24, 0, 1, 2, 3, 4, 5, 6, 7, 8, 9, 10, 11, 12, 13, 14, 15, 16, 17, 25, 18, 19, 20, 21, 22, 23, 26, 27, 28] rfl) (hD.sub [24, 0, 1, 2, 3, 4, 5, 6, 7, 8, 9, 10, 11, 12, 13, 14, 15, 16, 17, 25, 18, 19, 20, 21, 22, 23, 26, 27, 28] (by decide +kernel) rfl) hS dX8_recovery_25 ?_
      exact ⟨z3, z4, z5, z6, z7, z8, z9, z10, z11, z12, z13, z14, z15, z16, z17, z18, z19, z20, z21, z22, z23, z24, (nI pa9), z35, z36, (nI z37), hz26, hz27, hz28, hz29, hz30, hz31, rfl⟩
  · skip
    refine lv_iconst (v := (-1)) hx hb dX8_recovery_9 (by decide) ?_
    refine k_iret (u := [(oX8 g z23 (nI mn) g2 g3 g4 g5 g6 g7 g8 g9 g10 (nI ml) g12 g13 gi14 g15 g16 g17 z20 g19 g20 g21 g22 g23 g24 g25 g26 g27 g28 z18 z19 (nI z21) (nI z22) g33 g34 g35 g36 g37 g38 g39 z25 g41 g42 gi43 g44 g45), (aIc cI g2 8 G2), (aIc cI g3 8 G3), (aIc cI g4 8 G4), (aIc cI g5 8 G5), (aIc cI g6 8 G6), (aIc cI g7 8 G7), (aIc cI g8 8 G8), (aIc cI g10 64 G10), (aIc cI g12 10 G12), (aIc cI g13 10 G13), (aIc cI g19 8 z3), (aIc cI g20 8 z4), (aIc cI g21 8 z5), (aIc cI g22 8 z6), (aIc cI g23 8 z7), (aIc cI g24 8 z8), (aIc cI g25 8 z9), (aIc cI g26 8 z10), (aIc cI g27 8 z11), (aIc cI g28 8 z12), (aIc cI g33 8 z13), (aIc cI g34 8 z14), (aIc cI g35 8 z15), (aIc cI g36 8 z16), (aJc cJ g37 8 z17), (aIc cI g39 8 z24), (aIc cI g41 9 G41), (aIc cI g42 192 G42)]) hx hb hr hlk (k_sub hP [2, 3, 4, 5, 6, 7, 8, 9, 10, 11, 12, 13, 14, 15, 16, 17, 18, 19, 20, 21, 22, 23, 24, 25, 26, 27, 28, 0, 1] rfl) (hD.sub [2, 3, 4, 5, 6, 7, 8, 9, 10, 11, 12, 13, 14, 15, 16, 17, 18, 19, 20, 21, 22, 23, 24, 25, 26, 27, 28, 0, 1] (by decide +kernel) rfl) hS dX8_recovery_10 ?_
    exact ⟨z3, z4, z5, z6, z7, z8, z9, z10, z11, z12, z13, z14, z15, z16, z17, z18, z19, z20, z21, z22, z23, z24, z25, G41, G42, gi43, hz26, hz27, hz28, hz29, hz30, hz31, rfl⟩

