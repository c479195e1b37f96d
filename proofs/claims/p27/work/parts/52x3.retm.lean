set_option maxHeartbeats 4000000 in
set_option maxRecDepth 100000 in
theorem e_X8_returned (l : Launch) (D : va_G) (cI cJ : ClassId) (sz : Nat) (g g2 g3 g4 g5 g6 g7 g8 g9 g10 g12 g13 g15 g16 g17 g19 g20 g21 g22 g23 g24 g25 g26 g27 g28 g33 g34 g35 g36 g37 g38 g39 g41 g42 g44 g45 mn ml mv : Nat) (gi0 gi14 gi18 gi29 gi30 gi32 gi40 gi43 p0 p1 : Int32) (G2 G6 G9 G15 : Nat → Int32) (li0 : Nat → Nat) (hmn : mn ≤ 8) (hliv : nv G2 li0) (hlib : ∀ k, k < 8 → li0 k ≤ 1000000) (hl1 : ∀ k, k < mn → 1 ≤ li0 k) : Met l yX8_returned wtX8_returned { frames := 2, cells := 0, slots := 0, locals := 46 } (cPc D cI cJ [.ref g, .int p0, .int p1] sz [(oX8 g gi0 (nI mn) g2 g3 g4 g5 g6 g7 g8 g9 g10 (nI ml) g12 g13 gi14 g15 g16 g17 gi18 g19 g20 g21 g22 g23 g24 g25 g26 g27 g28 gi29 gi30 (nI mv) gi32 g33 g34 g35 g36 g37 g38 g39 gi40 g41 g42 gi43 g44 g45), (aIc cI g2 8 G2), (aIc cI g6 8 G6), (aIc cI g9 8 G9), (aIc cI g15 8 G15)]) (cQi D (fun r u => ∃ (gi0p : Int32), r = (A_re mn li0 G6 G9 G15 p0 p1) ∧ u = [(oX8 g gi0p (nI mn) g2 g3 g4 g5 g6 g7 g8 g9 g10 (nI ml) g12 g13 gi14 g15 g16 g17 gi18 g19 g20 g21 g22 g23 g24 g25 g26 g27 g28 gi29 gi30 (nI mv) gi32 g33 g34 g35 g36 g37 g38 g39 gi40 g41 g42 gi43 g44 g45), (aIc cI g2 8 G2), (aIc cI g6 8 G6), (aIc cI g9 8 G9), (aIc cI g15 8 G15)]) (va_A [(oX8 g gi0 (nI mn) g2 g3 g4 g5 g6 g7 g8 g9 g10 (nI ml) g12 g13 gi14 g15 g16 g17 gi18 g19 g20 g21 g22 g23 g24 g25 g26 g27 g28 gi29 gi30 (nI mv) gi32 g33 g34 g35 g36 g37 g38 g39 gi40 g41 g42 gi43 g44 g45), (aIc cI g2 8 G2), (aIc cI g6 8 G6), (aIc cI g9 8 G9), (aIc cI g15 8 G15)] sz)) 0 0 (va_A [(oX8 g gi0 (nI mn) g2 g3 g4 g5 g6 g7 g8 g9 g10 (nI ml) g12 g13 gi14 g15 g16 g17 gi18 g19 g20 g21 g22 g23 g24 g25 g26 g27 g28 gi29 gi30 (nI mv) gi32 g33 g34 g35 g36 g37 g38 g39 gi40 g41 g42 gi43 g44 g45), (aIc cI g2 8 G2), (aIc cI g6 8 G6), (aIc cI g9 8 G9), (aIc cI g15 8 G15)] sz) := by
  refine k_ofW (Qc := cQi D (fun r u => ∃ (gi0p : Int32), r = (A_re mn li0 G6 G9 G15 p0 p1) ∧ u = [(oX8 g gi0p (nI mn) g2 g3 g4 g5 g6 g7 g8 g9 g10 (nI ml) g12 g13 gi14 g15 g16 g17 gi18 g19 g20 g21 g22 g23 g24 g25 g26 g27 g28 gi29 gi30 (nI mv) gi32 g33 g34 g35 g36 g37 g38 g39 gi40 g41 g42 gi43 g44 g45), (aIc cI g2 8 G2), (aIc cI g6 8 G6), (aIc cI g9 8 G9), (aIc cI g15 8 G15)])) (by decide) rfl (Nat.le_of_ble_eq_true rfl) ?_
  intro p e s m below meth c A ls hx hb hr hml hts hown hlk hnm hsz hE hP hD hS hA hl
  have hown : s.vm.findClass RX8 = some m.cls := hown
  have hiX8 : ∀ w ∈ u_ws RX8 TX8 46, w ∈ wtX8_returned := fun w h => List.mem_cons_of_mem _ (iuX8 w h)
  have hl : lv_has ls 7 [(0, .ref g), (1, .int p0), (2, .int p1)] := hl
  refine lv_aload_n hx hb dX8_returned_0 rfl (lv_at hl 0 rfl) ?_
  refine lv_iconst (v := 0) hx hb dX8_returned_1 (by decide) ?_
  refine va_put (D := D) (ci := 8) (v := .int 0) (ty := .int) (C := RX8) (T := TX8) (N := 46) hx hb hts hiX8 tyX8 tyX8_ok nmX8 hown hE.1 hP hD hS 0 rfl rfl 0 (by decide) (hts _ (List.mem_cons_of_mem _ wd_171)) (fun _ h9 => h9) rfl (by decide +kernel) rfl rfl (Nat.le_of_ble_eq_true rfl) dX8_returned_2 (fun H locs hP hD hS => ?_)
  refine k_re (w := [(oX8 g 0 (nI mn) g2 g3 g4 g5 g6 g7 g8 g9 g10 (nI ml) g12 g13 gi14 g15 g16 g17 gi18 g19 g20 g21 g22 g23 g24 g25 g26 g27 g28 gi29 gi30 (nI mv) gi32 g33 g34 g35 g36 g37 g38 g39 gi40 g41 g42 gi43 g44 g45), (aIc cI g2 8 G2), (aIc cI g6 8 G6), (aIc cI g9 8 G9), (aIc cI g15 8 G15)]) hP hD (fun hP hD => ?_)
  refine lv_iload_n hx hb dX8_returned_5 rfl (lv_at hl 2 rfl) ?_
  refine k_iS (va_runS (As := [.int p1]) (rest := []) ⟨hx, hb, hml, hown, hts⟩ (m_X8_isItem l D cI cJ H.size p1) (va_cwS 1 hts gX8_returned_X8_isItem rfl rfl rfl (by decide +kernel) ⟨Nat.le_of_ble_eq_true rfl, Nat.le_of_ble_eq_true rfl⟩) (k_pre hE hP hD [] (by decide +kernel) rfl) rfl rfl hl.1 rfl (lv_room (Nat.le_of_ble_eq_true rfl)) dX8_returned_6 ⟨Nat.le_of_ble_eq_true rfl, Nat.le_of_ble_eq_true rfl⟩) hP hD hS hA [] rfl (fun _ _ h9 => h9.2) (fun r1 H locs hw2 hP hD hS => ?_)
  obtain ⟨hw2, -⟩ := hw2
  refine lv_if_eq (tgt := 47) hx hb dX8_returned_9 (by decide) (fun c3 => ?_) (fun c3 => ?_)
  · skip
    have hc3 : ¬ (0 ≤ p1 ∧ p1 ≤ 7) := bz_0 hw2 c3
    refine lv_iconst (v := (-1)) hx hb dX8_returned_47 (by decide) ?_
    refine k_iret (u := [(oX8 g 0 (nI mn) g2 g3 g4 g5 g6 g7 g8 g9 g10 (nI ml) g12 g13 gi14 g15 g16 g17 gi18 g19 g20 g21 g22 g23 g24 g25 g26 g27 g28 gi29 gi30 (nI mv) gi32 g33 g34 g35 g36 g37 g38 g39 gi40 g41 g42 gi43 g44 g45), (aIc cI g2 8 G2), (aIc cI g6 8 G6), (aIc cI g9 8 G9), (aIc cI g15 8 G15)]) hx hb hr hlk hP hD hS dX8_returned_48 ?_
    exact ⟨0, (a_re_1 hc3), rfl⟩
  · skip
    have hc3 : 0 ≤ p1 ∧ p1 ≤ 7 := bz_1 hw2 c3
    obtain ⟨ij, hij, eij⟩ := wi_07 hc3
    rw [eij] at hl
    refine lv_aload_n hx hb dX8_returned_12 rfl (lv_at hl 0 rfl) ?_
    refine va_get (D := D) (ci := 8) (v := .ref g15) (C := RX8) (T := TX8) (N := 46) hx hb hts hiX8 hown hE.1 hP 0 rfl rfl 15 (by decide) (hts _ (List.mem_cons_of_mem _ wd_127)) (fun _ h9 => h9) rfl dX8_returned_13 ?_
    refine lv_iload_n hx hb dX8_returned_16 rfl (lv_at hl 2 rfl) ?_
    refine va_iald hx hb hE.1 hP 4 0 rfl rfl (vp_in_nI (n := ij) (by omega) (by decide)) dX8_returned_17 ?_
    refine lv_topi (fun v4 ev4 => ?_)
    refine lv_if_eq (tgt := 47) hx hb dX8_returned_18 (by decide) (fun c5 => ?_) (fun c5 => ?_)
    · skip
      refine lv_iconst (v := (-1)) hx hb dX8_returned_47 (by decide) ?_
      refine k_iret (u := [(oX8 g 0 (nI mn) g2 g3 g4 g5 g6 g7 g8 g9 g10 (nI ml) g12 g13 gi14 g15 g16 g17 gi18 g19 g20 g21 g22 g23 g24 g25 g26 g27 g28 gi29 gi30 (nI mv) gi32 g33 g34 g35 g36 g37 g38 g39 gi40 g41 g42 gi43 g44 g45), (aIc cI g2 8 G2), (aIc cI g6 8 G6), (aIc cI g9 8 G9), (aIc cI g15 8 G15)]) hx hb hr hlk hP hD hS dX8_returned_48 ?_
      exact ⟨0, (a_re_2 eij ev4 c5), rfl⟩
    · skip
      refine lv_iload_n hx hb dX8_returned_21 rfl (lv_at hl 1 rfl) ?_
      refine lv_iconst (v := (-1)) hx hb dX8_returned_22 (by decide) ?_
      refine lv_icmp_eq (tgt := 49) hx hb dX8_returned_23 (by decide) (fun c6 => ?_) (fun c6 => ?_)
      · skip
        refine lv_aload_n hx hb dX8_returned_49 rfl (lv_at hl 0 rfl) ?_
        refine lv_iload_n hx hb dX8_returned_50 rfl (lv_at hl 2 rfl) ?_
        refine k_lS (va_runV (As := [.int (nI ij)]) (rest := []) ⟨hx, hb, hml, hown, hts⟩ (m_X8_limitsOf l D cI cJ H.size g g2 g3 g4 g5 g6 g7 g8 g9 g10 g12 g13 g15 g16 g17 g19 g20 g21 g22 g23 g24 g25 g26 g27 g28 g33 g34 g35 g36 g37 g38 g39 g41 g42 g44 g45 ij mn ml mv 0 gi14 gi18 gi29 gi30 gi32 gi40 gi43 G2 G6 li0 hmn (by omega) hliv hlib) (cwV 1 hts gX8_returned_X8_limitsOf rfl rfl rfl (by decide +kernel) ⟨Nat.le_of_ble_eq_true rfl, Nat.le_of_ble_eq_true rfl⟩) (k_preV hE hP hD [0, 1, 2] (by decide +kernel) rfl 0 rfl rfl) rfl rfl hl.1 rfl (lv_room (Nat.le_of_ble_eq_true rfl)) dX8_returned_51 ⟨Nat.le_of_ble_eq_true rfl, Nat.le_of_ble_eq_true rfl⟩) hP hD hS hA [0, 1, 2] rfl (fun _ _ ⟨_, h9⟩ => h9) (fun r7 H locs hw8 hP hD hS => ?_)
        obtain ⟨rfl, -⟩ := hw8
        refine lv_lstore_n (lv' := [(3, .long (lN (sm (LF li0 li0 G6 ij) mn))), (0, .ref g), (1, .int p0), (2, .int (nI ij))]) hx hb dX8_returned_54 rfl hl (by decide) rfl (fun ls hl => ?_)
        refine lv_lload_n hx hb dX8_returned_55 rfl (lv_at hl 0 rfl) ?_
        refine lv_aload_n hx hb dX8_returned_56 rfl (lv_at hl 1 rfl) ?_
        refine va_get (D := D) (ci := 8) (v := .ref g15) (C := RX8) (T := TX8) (N := 46) hx hb hts hiX8 hown hE.1 hP 0 rfl rfl 15 (by decide) (hts _ (List.mem_cons_of_mem _ wd_127)) (fun _ h9 => h9) rfl dX8_returned_57 ?_
        refine lv_iload_n hx hb dX8_returned_60 rfl (lv_at hl 3 rfl) ?_
        refine va_iald hx hb hE.1 hP 4 0 rfl rfl (vp_in_nI (n := ij) (by omega) (by decide)) dX8_returned_61 ?_
        refine lv_topi (fun v9 ev9 => ?_)
        refine lv_i2l hx hb dX8_returned_62 rfl ?_
        refine k_lcmp_le (tgt := 79) hx hb dX8_returned_63 dX8_returned_64 (by decide) (fun c10 => ?_) (fun c10 => ?_)
        · skip
          refine lv_lconst (v := 0) hx hb dX8_returned_79 (by decide) ?_
          refine lv_lstore (lv' := [(5, .long 0), (3, .long (lN (sm (LF li0 li0 G6 ij) mn))), (0, .ref g), (1, .int p0), (2, .int (nI ij))]) hx hb dX8_returned_80 hl (by decide) rfl (fun ls hl => ?_)
          refine lv_iload_n hx hb dX8_returned_82 rfl (lv_at hl 3 rfl) ?_
          refine lv_iconst (v := (-1)) hx hb dX8_returned_83 (by decide) ?_
          refine lv_icmp_ne (tgt := 93) hx hb dX8_returned_84 (by decide) (fun c11 => absurd c6 c11) (fun c11a => ?_)
          refine lv_lload hx hb dX8_returned_87 (lv_at hl 0 rfl) ?_
          refine lv_l2i hx hb dX8_returned_89 rfl ?_
          refine lv_topi (fun v12 ev12 => ?_)
          refine lv_goto (tgt := 106) hx hb dX8_returned_90 (by decide) ?_
          refine k_iret (u := [(oX8 g 0 (nI mn) g2 g3 g4 g5 g6 g7 g8 g9 g10 (nI ml) g12 g13 gi14 g15 g16 g17 gi18 g19 g20 g21 g22 g23 g24 g25 g26 g27 g28 gi29 gi30 (nI mv) gi32 g33 g34 g35 g36 g37 g38 g39 gi40 g41 g42 gi43 g44 g45), (aIc cI g2 8 G2), (aIc cI g6 8 G6), (aIc cI g9 8 G9), (aIc cI g15 8 G15)]) hx hb hr hlk hP hD hS dX8_returned_106 ?_
          exact ⟨0, (a_re_o hc3 eij hij ev4 c5 c6 (ov_m1 (congrArg Int32.toInt64 ev9) c10) ev12), rfl⟩
        · skip
          refine lv_lload_n hx hb dX8_returned_67 rfl (lv_at hl 0 rfl) ?_
          refine lv_aload_n hx hb dX8_returned_68 rfl (lv_at hl 1 rfl) ?_
          refine va_get (D := D) (ci := 8) (v := .ref g15) (C := RX8) (T := TX8) (N := 46) hx hb hts hiX8 hown hE.1 hP 0 rfl rfl 15 (by decide) (hts _ (List.mem_cons_of_mem _ wd_127)) (fun _ h9 => h9) rfl dX8_returned_69 ?_
          refine lv_iload_n hx hb dX8_returned_72 rfl (lv_at hl 3 rfl) ?_
          refine va_iald hx hb hE.1 hP 4 0 rfl rfl (vp_in_nI (n := ij) (by omega) (by decide)) dX8_returned_73 ?_
          refine lv_topi (fun v13 ev13 => ?_)
          refine lv_i2l hx hb dX8_returned_74 rfl ?_
          refine lv_lsub hx hb dX8_returned_75 ?_
          refine lv_topl (fun v14 ev14 => ?_)
          refine lv_goto (tgt := 80) hx hb dX8_returned_76 (by decide) ?_
          refine lv_lstore (lv' := [(5, .long v14), (3, .long (lN (sm (LF li0 li0 G6 ij) mn))), (0, .ref g), (1, .int p0), (2, .int (nI ij))]) hx hb dX8_returned_80 hl (by decide) rfl (fun ls hl => ?_)
          refine lv_iload_n hx hb dX8_returned_82 rfl (lv_at hl 3 rfl) ?_
          refine lv_iconst (v := (-1)) hx hb dX8_returned_83 (by decide) ?_
          refine lv_icmp_ne (tgt := 93) hx hb dX8_returned_84 (by decide) (fun c15 => absurd c6 c15) (fun c15a => ?_)
          refine lv_lload hx hb dX8_returned_87 (lv_at hl 0 rfl) ?_
          refine lv_l2i hx hb dX8_returned_89 rfl ?_
          refine lv_topi (fun v16 ev16 => ?_)
          refine lv_goto (tgt := 106) hx hb dX8_returned_90 (by decide) ?_
          refine k_iret (u := [(oX8 g 0 (nI mn) g2 g3 g4 g5 g6 g7 g8 g9 g10 (nI ml) g12 g13 gi14 g15 g16 g17 gi18 g19 g20 g21 g22 g23 g24 g25 g26 g27 g28 gi29 gi30 (nI mv) gi32 g33 g34 g35 g36 g37 g38 g39 gi40 g41 g42 gi43 g44 g45), (aIc cI g2 8 G2), (aIc cI g6 8 G6), (aIc cI g9 8 G9), (aIc cI g15 8 G15)]) hx hb hr hlk hP hD hS dX8_returned_106 ?_
          exact ⟨0, (a_re_o hc3 eij hij ev4 c5 c6 (ov_m2 (congrArg Int32.toInt64 ev9) c10 (congrArg Int32.toInt64 ev13) ev14) ev16), rfl⟩
      · skip
        refine lv_aload_n hx hb dX8_returned_26 rfl (lv_at hl 0 rfl) ?_
        refine lv_iload_n hx hb dX8_returned_27 rfl (lv_at hl 1 rfl) ?_
        refine k_iS (va_runV (As := [.int p0]) (rest := []) ⟨hx, hb, hml, hown, hts⟩ (m_X8_isPolicy l D cI cJ H.size g g2 g3 g4 g5 g6 g7 g8 g9 g10 g12 g13 g15 g16 g17 g19 g20 g21 g22 g23 g24 g25 g26 g27 g28 g33 g34 g35 g36 g37 g38 g39 g41 g42 g44 g45 mn ml mv 0 gi14 gi18 gi29 gi30 gi32 gi40 gi43 p0) (cwV 1 hts gX8_returned_X8_isPolicy rfl rfl rfl (by decide +kernel) ⟨Nat.le_of_ble_eq_true rfl, Nat.le_of_ble_eq_true rfl⟩) (k_preV hE hP hD [0] (by decide +kernel) rfl 0 rfl rfl) rfl rfl hl.1 rfl (lv_room (Nat.le_of_ble_eq_true rfl)) dX8_returned_28 ⟨Nat.le_of_ble_eq_true rfl, Nat.le_of_ble_eq_true rfl⟩) hP hD hS hA [0] rfl (fun _ _ ⟨_, h9⟩ => h9) (fun r17 H locs hw18 hP hD hS => ?_)
        obtain ⟨hb19, -⟩ := hw18
        refine lv_if_eq (tgt := 47) hx hb dX8_returned_31 (by decide) (fun c20 => ?_) (fun c20 => ?_)
        · skip
          have hc20 : ¬ (0 ≤ p0 ∧ p0 ≤ nI mn - 1) := bz_0 hb19 c20
          refine lv_iconst (v := (-1)) hx hb dX8_returned_47 (by decide) ?_
          refine k_iret (u := [(oX8 g 0 (nI mn) g2 g3 g4 g5 g6 g7 g8 g9 g10 (nI ml) g12 g13 gi14 g15 g16 g17 gi18 g19 g20 g21 g22 g23 g24 g25 g26 g27 g28 gi29 gi30 (nI mv) gi32 g33 g34 g35 g36 g37 g38 g39 gi40 g41 g42 gi43 g44 g45), (aIc cI g2 8 G2), (aIc cI g6 8 G6), (aIc cI g9 8 G9), (aIc cI g15 8 G15)]) hx hb hr hlk hP hD hS dX8_returned_48 ?_
          exact ⟨0, (a_re_3 c6 hc20), rfl⟩
        · skip
          have hc20 : 0 ≤ p0 ∧ p0 ≤ nI mn - 1 := bz_1 hb19 c20
          obtain ⟨pj, hpj, epj⟩ := wi_n (by omega) hc20
          rw [epj] at hl
          refine lv_aload_n hx hb dX8_returned_34 rfl (lv_at hl 0 rfl) ?_
          refine va_get (D := D) (ci := 8) (v := .ref g6) (C := RX8) (T := TX8) (N := 46) hx hb hts hiX8 hown hE.1 hP 0 rfl rfl 6 (by decide) (hts _ (List.mem_cons_of_mem _ wd_120)) (fun _ h9 => h9) rfl dX8_returned_35 ?_
          refine lv_iload_n hx hb dX8_returned_38 rfl (lv_at hl 1 rfl) ?_
          refine va_iald hx hb hE.1 hP 2 0 rfl rfl (vp_in_nI (n := pj) (by omega) (by decide)) dX8_returned_39 ?_
          refine lv_topi (fun v21 ev21 => ?_)
          refine lv_iload_n hx hb dX8_returned_40 rfl (lv_at hl 2 rfl) ?_
          refine k_iS (va_runS (As := [.int v21, .int (nI ij)]) (rest := []) ⟨hx, hb, hml, hown, hts⟩ (m_X8_isOn l D cI cJ H.size v21 (nI ij)) (va_cwS 2 hts gX8_returned_X8_isOn rfl rfl rfl (by decide +kernel) ⟨Nat.le_of_ble_eq_true rfl, Nat.le_of_ble_eq_true rfl⟩) (k_pre hE hP hD [] (by decide +kernel) rfl) rfl rfl hl.1 rfl (lv_room (Nat.le_of_ble_eq_true rfl)) dX8_returned_41 ⟨Nat.le_of_ble_eq_true rfl, Nat.le_of_ble_eq_true rfl⟩) hP hD hS hA [] rfl (fun _ _ h9 => h9.2) (fun r22 H locs hw23 hP hD hS => ?_)
          obtain ⟨hw23, -⟩ := hw23
          refine lv_if_ne (tgt := 49) hx hb dX8_returned_44 (by decide) (fun c24 => ?_) (fun c24 => ?_)
          · skip
            have hc24 : (v21 >>> ((nI ij) &&& 31)) &&& 1 = 1 := bz_1 hw23 c24
            refine lv_aload_n hx hb dX8_returned_49 rfl (lv_at hl 0 rfl) ?_
            refine lv_iload_n hx hb dX8_returned_50 rfl (lv_at hl 2 rfl) ?_
            refine k_lS (va_runV (As := [.int (nI ij)]) (rest := []) ⟨hx, hb, hml, hown, hts⟩ (m_X8_limitsOf l D cI cJ H.size g g2 g3 g4 g5 g6 g7 g8 g9 g10 g12 g13 g15 g16 g17 g19 g20 g21 g22 g23 g24 g25 g26 g27 g28 g33 g34 g35 g36 g37 g38 g39 g41 g42 g44 g45 ij mn ml mv 0 gi14 gi18 gi29 gi30 gi32 gi40 gi43 G2 G6 li0 hmn (by omega) hliv hlib) (cwV 1 hts gX8_returned_X8_limitsOf rfl rfl rfl (by decide +kernel) ⟨Nat.le_of_ble_eq_true rfl, Nat.le_of_ble_eq_true rfl⟩) (k_preV hE hP hD [0, 1, 2] (by decide +kernel) rfl 0 rfl rfl) rfl rfl hl.1 rfl (lv_room (Nat.le_of_ble_eq_true rfl)) dX8_returned_51 ⟨Nat.le_of_ble_eq_true rfl, Nat.le_of_ble_eq_true rfl⟩) hP hD hS hA [0, 1, 2] rfl (fun _ _ ⟨_, h9⟩ => h9) (fun r25 H locs hw26 hP hD hS => ?_)
            obtain ⟨rfl, -⟩ := hw26
            refine lv_lstore_n (lv' := [(3, .long (lN (sm (LF li0 li0 G6 ij) mn))), (0, .ref g), (1, .int (nI pj)), (2, .int (nI ij))]) hx hb dX8_returned_54 rfl hl (by decide) rfl (fun ls hl => ?_)
            refine lv_lload_n hx hb dX8_returned_55 rfl (lv_at hl 0 rfl) ?_
            refine lv_aload_n hx hb dX8_returned_56 rfl (lv_at hl 1 rfl) ?_
            refine va_get (D := D) (ci := 8) (v := .ref g15) (C := RX8) (T := TX8) (N := 46) hx hb hts hiX8 hown hE.1 hP 0 rfl rfl 15 (by decide) (hts _ (List.mem_cons_of_mem _ wd_127)) (fun _ h9 => h9) rfl dX8_returned_57 ?_
            refine lv_iload_n hx hb dX8_returned_60 rfl (lv_at hl 3 rfl) ?_
            refine va_iald hx hb hE.1 hP 4 0 rfl rfl (vp_in_nI (n := ij) (by omega) (by decide)) dX8_returned_61 ?_
            refine lv_topi (fun v27 ev27 => ?_)
            refine lv_i2l hx hb dX8_returned_62 rfl ?_
            refine k_lcmp_le (tgt := 79) hx hb dX8_returned_63 dX8_returned_64 (by decide) (fun c28 => ?_) (fun c28 => ?_)
            · skip
              refine lv_lconst (v := 0) hx hb dX8_returned_79 (by decide) ?_
              refine lv_lstore (lv' := [(5, .long 0), (3, .long (lN (sm (LF li0 li0 G6 ij) mn))), (0, .ref g), (1, .int (nI pj)), (2, .int (nI ij))]) hx hb dX8_returned_80 hl (by decide) rfl (fun ls hl => ?_)
              refine lv_iload_n hx hb dX8_returned_82 rfl (lv_at hl 3 rfl) ?_
              refine lv_iconst (v := (-1)) hx hb dX8_returned_83 (by decide) ?_
              refine lv_icmp_ne (tgt := 93) hx hb dX8_returned_84 (by decide) (fun c29a => ?_) (fun c29 => absurd c29 (ni_m1 (by omega)))
              refine lv_aload_n hx hb dX8_returned_93 rfl (lv_at hl 2 rfl) ?_
              refine va_get (D := D) (ci := 8) (v := .ref g9) (C := RX8) (T := TX8) (N := 46) hx hb hts hiX8 hown hE.1 hP 0 rfl rfl 9 (by decide) (hts _ (List.mem_cons_of_mem _ wd_123)) (fun _ h9 => h9) rfl dX8_returned_94 ?_
              refine lv_iload_n hx hb dX8_returned_97 rfl (lv_at hl 3 rfl) ?_
              refine va_iald hx hb hE.1 hP 3 0 rfl rfl (vp_in_nI (n := pj) (by omega) (by decide)) dX8_returned_98 ?_
              refine lv_topi (fun v30 ev30 => ?_)
              refine lv_i2l hx hb dX8_returned_99 rfl ?_
              refine lv_lload hx hb dX8_returned_100 (lv_at hl 0 rfl) ?_
              refine lv_lmul hx hb dX8_returned_102 ?_
              refine lv_topl (fun v31 ev31 => ?_)
              refine lv_lload_n hx hb dX8_returned_103 rfl (lv_at hl 1 rfl) ?_
              have hbo := (fq_bt (Y := G6) (p := pj) (q := ij) (by omega) (by omega) ev21).mp hc24
              have hge := sm_get (LF li0 li0 G6 ij) (k := pj) (n := mn) (by omega)
              rw [lf_on hbo] at hge
              have hl19 := hl1 pj (by omega)
              have hsb := sm_bound (f := LF li0 li0 G6 ij) (c := 1000000) (n := mn) (fun k hk => lf_le (hlib k (by omega)))
              refine lv_ldiv hx hb dX8_returned_104 (lN_ne (by omega) (by omega)) ?_
              refine lv_topl (fun v32 ev32 => ?_)
              refine lv_l2i hx hb dX8_returned_105 rfl ?_
              refine lv_topi (fun v33 ev33 => ?_)
              refine k_iret (u := [(oX8 g 0 (nI mn) g2 g3 g4 g5 g6 g7 g8 g9 g10 (nI ml) g12 g13 gi14 g15 g16 g17 gi18 g19 g20 g21 g22 g23 g24 g25 g26 g27 g28 gi29 gi30 (nI mv) gi32 g33 g34 g35 g36 g37 g38 g39 gi40 g41 g42 gi43 g44 g45), (aIc cI g2 8 G2), (aIc cI g6 8 G6), (aIc cI g9 8 G9), (aIc cI g15 8 G15)]) hx hb hr hlk hP hD hS dX8_returned_106 ?_
              exact ⟨0, (a_re_y hc3 eij hij ev4 c5 c6 hc20 epj (by omega) ((fq_bt (Y := G6) (by omega) (by omega) ev21).mp hc24) (ov_m1 (congrArg Int32.toInt64 ev27) c28) ev30 rfl ev31 ev32 ev33), rfl⟩
            · skip
              refine lv_lload_n hx hb dX8_returned_67 rfl (lv_at hl 0 rfl) ?_
              refine lv_aload_n hx hb dX8_returned_68 rfl (lv_at hl 1 rfl) ?_
              refine va_get (D := D) (ci := 8) (v := .ref g15) (C := RX8) (T := TX8) (N := 46) hx hb hts hiX8 hown hE.1 hP 0 rfl rfl 15 (by decide) (hts _ (List.mem_cons_of_mem _ wd_127)) (fun _ h9 => h9) rfl dX8_returned_69 ?_
              refine lv_iload_n hx hb dX8_returned_72 rfl (lv_at hl 3 rfl) ?_
              refine va_iald hx hb hE.1 hP 4 0 rfl rfl (vp_in_nI (n := ij) (by omega) (by decide)) dX8_returned_73 ?_
              refine lv_topi (fun v34 ev34 => ?_)
              refine lv_i2l hx hb dX8_returned_74 rfl ?_
              refine lv_lsub hx hb dX8_returned_75 ?_
              refine lv_topl (fun v35 ev35 => ?_)
              refine lv_goto (tgt := 80) hx hb dX8_returned_76 (by decide) ?_
              refine lv_lstore (lv' := [(5, .long v35), (3, .long (lN (sm (LF li0 li0 G6 ij) mn))), (0, .ref g), (1, .int (nI pj)), (2, .int (nI ij))]) hx hb dX8_returned_80 hl (by decide) rfl (fun ls hl => ?_)
              refine lv_iload_n hx hb dX8_returned_82 rfl (lv_at hl 3 rfl) ?_
              refine lv_iconst (v := (-1)) hx hb dX8_returned_83 (by decide) ?_
              refine lv_icmp_ne (tgt := 93) hx hb dX8_returned_84 (by decide) (fun c36a => ?_) (fun c36 => absurd c36 (ni_m1 (by omega)))
              refine lv_aload_n hx hb dX8_returned_93 rfl (lv_at hl 2 rfl) ?_
              refine va_get (D := D) (ci := 8) (v := .ref g9) (C := RX8) (T := TX8) (N := 46) hx hb hts hiX8 hown hE.1 hP 0 rfl rfl 9 (by decide) (hts _ (List.mem_cons_of_mem _ wd_123)) (fun _ h9 => h9) rfl dX8_returned_94 ?_
              refine lv_iload_n hx hb dX8_returned_97 rfl (lv_at hl 3 rfl) ?_
              refine va_iald hx hb hE.1 hP 3 0 rfl rfl (vp_in_nI (n := pj) (by omega) (by decide)) dX8_returned_98 ?_
              refine lv_topi (fun v37 ev37 => ?_)
              refine lv_i2l hx hb dX8_returned_99 rfl ?_
              refine lv_lload hx hb dX8_returned_100 (lv_at hl 0 rfl) ?_
              refine lv_lmul hx hb dX8_returned_102 ?_
              refine lv_topl (fun v38 ev38 => ?_)
              refine lv_lload_n hx hb dX8_returned_103 rfl (lv_at hl 1 rfl) ?_
              have hbo := (fq_bt (Y := G6) (p := pj) (q := ij) (by omega) (by omega) ev21).mp hc24
              have hge := sm_get (LF li0 li0 G6 ij) (k := pj) (n := mn) (by omega)
              rw [lf_on hbo] at hge
              have hl19 := hl1 pj (by omega)
              have hsb := sm_bound (f := LF li0 li0 G6 ij) (c := 1000000) (n := mn) (fun k hk => lf_le (hlib k (by omega)))
              refine lv_ldiv hx hb dX8_returned_104 (lN_ne (by omega) (by omega)) ?_
              refine lv_topl (fun v39 ev39 => ?_)
              refine lv_l2i hx hb dX8_returned_105 rfl ?_
              refine lv_topi (fun v40 ev40 => ?_)
              refine k_iret (u := [(oX8 g 0 (nI mn) g2 g3 g4 g5 g6 g7 g8 g9 g10 (nI ml) g12 g13 gi14 g15 g16 g17 gi18 g19 g20 g21 g22 g23 g24 g25 g26 g27 g28 gi29 gi30 (nI mv) gi32 g33 g34 g35 g36 g37 g38 g39 gi40 g41 g42 gi43 g44 g45), (aIc cI g2 8 G2), (aIc cI g6 8 G6), (aIc cI g9 8 G9), (aIc cI g15 8 G15)]) hx hb hr hlk hP hD hS dX8_returned_106 ?_
              exact ⟨0, (a_re_y hc3 eij hij ev4 c5 c6 hc20 epj (by omega) ((fq_bt (Y := G6) (by omega) (by omega) ev21).mp hc24) (ov_m2 (congrArg Int32.toInt64 ev27) c28 (congrArg Int32.toInt64 ev34) ev35) ev37 rfl ev38 ev39 ev40), rfl⟩
          · skip
            have hc24 : ¬ ((v21 >>> ((nI ij) &&& 31)) &&& 1 = 1) := bz_0 hw23 c24
            refine lv_iconst (v := (-1)) hx hb dX8_returned_47 (by decide) ?_
            refine k_iret (u := [(oX8 g 0 (nI mn) g2 g3 g4 g5 g6 g7 g8 g9 g10 (nI ml) g12 g13 gi14 g15 g16 g17 gi18 g19 g20 g21 g22 g23 g24 g25 g26 g27 g28 gi29 gi30 (nI mv) gi32 g33 g34 g35 g36 g37 g38 g39 gi40 g41 g42 gi43 g44 g45), (aIc cI g2 8 G2), (aIc cI g6 8 G6), (aIc cI g9 8 G9), (aIc cI g15 8 G15)]) hx hb hr hlk hP hD hS dX8_returned_48 ?_
            exact ⟨0, (a_re_4 c6 epj eij (by omega) hij (fun q9 => hc24 ((fq_bt (Y := G6) (by omega) (by omega) ev21).mpr q9))), rfl⟩

