theorem dX7_returned_0 : decode cX7_returned 0 = .ok (.aload_n 0, 1) := by decide +kernel
theorem dX7_returned_1 : decode cX7_returned 1 = .ok (.iload_n 1, 1) := by decide +kernel
theorem dX7_returned_2 : decode cX7_returned 2 = .ok (.invokevirtual 228, 3) := by decide +kernel
theorem dX7_returned_5 : decode cX7_returned 5 = .ok (.ifCond .eq 22, 3) := by decide +kernel
theorem dX7_returned_8 : decode cX7_returned 8 = .ok (.iload_n 2, 1) := by decide +kernel
theorem dX7_returned_9 : decode cX7_returned 9 = .ok (.invokestatic 91, 3) := by decide +kernel
theorem dX7_returned_12 : decode cX7_returned 12 = .ok (.ifCond .eq 15, 3) := by decide +kernel
theorem dX7_returned_15 : decode cX7_returned 15 = .ok (.aload_n 0, 1) := by decide +kernel
theorem dX7_returned_16 : decode cX7_returned 16 = .ok (.getfield 20, 3) := by decide +kernel
theorem dX7_returned_19 : decode cX7_returned 19 = .ok (.getfield 97, 3) := by decide +kernel
theorem dX7_returned_22 : decode cX7_returned 22 = .ok (.iload_n 2, 1) := by decide +kernel
theorem dX7_returned_23 : decode cX7_returned 23 = .ok (.iaload, 1) := by decide +kernel
theorem dX7_returned_24 : decode cX7_returned 24 = .ok (.ifCond .ne 5, 3) := by decide +kernel
theorem dX7_returned_27 : decode cX7_returned 27 = .ok (.iconst (-1), 1) := by decide +kernel
theorem dX7_returned_28 : decode cX7_returned 28 = .ok (.ireturn, 1) := by decide +kernel
theorem dX7_returned_29 : decode cX7_returned 29 = .ok (.aload_n 0, 1) := by decide +kernel
theorem dX7_returned_30 : decode cX7_returned 30 = .ok (.getfield 20, 3) := by decide +kernel
theorem dX7_returned_33 : decode cX7_returned 33 = .ok (.iload_n 2, 1) := by decide +kernel
theorem dX7_returned_34 : decode cX7_returned 34 = .ok (.invokevirtual 303, 3) := by decide +kernel
theorem dX7_returned_37 : decode cX7_returned 37 = .ok (.i2l, 1) := by decide +kernel
theorem dX7_returned_38 : decode cX7_returned 38 = .ok (.lstore_n 3, 1) := by decide +kernel
theorem dX7_returned_39 : decode cX7_returned 39 = .ok (.lload_n 3, 1) := by decide +kernel
theorem dX7_returned_40 : decode cX7_returned 40 = .ok (.aload_n 0, 1) := by decide +kernel
theorem dX7_returned_41 : decode cX7_returned 41 = .ok (.getfield 20, 3) := by decide +kernel
theorem dX7_returned_44 : decode cX7_returned 44 = .ok (.getfield 97, 3) := by decide +kernel
theorem dX7_returned_47 : decode cX7_returned 47 = .ok (.iload_n 2, 1) := by decide +kernel
theorem dX7_returned_48 : decode cX7_returned 48 = .ok (.iaload, 1) := by decide +kernel
theorem dX7_returned_49 : decode cX7_returned 49 = .ok (.i2l, 1) := by decide +kernel
theorem dX7_returned_50 : decode cX7_returned 50 = .ok (.lsub, 1) := by decide +kernel
theorem dX7_returned_51 : decode cX7_returned 51 = .ok (.lconst 0, 1) := by decide +kernel
theorem dX7_returned_52 : decode cX7_returned 52 = .ok (.invokestatic 306, 3) := by decide +kernel
theorem dX7_returned_55 : decode cX7_returned 55 = .ok (.lstore 5, 2) := by decide +kernel
theorem dX7_returned_57 : decode cX7_returned 57 = .ok (.iload_n 1, 1) := by decide +kernel
theorem dX7_returned_58 : decode cX7_returned 58 = .ok (.iconst (-1), 1) := by decide +kernel
theorem dX7_returned_59 : decode cX7_returned 59 = .ok (.if_icmp .ne 7, 3) := by decide +kernel
theorem dX7_returned_62 : decode cX7_returned 62 = .ok (.lload 5, 2) := by decide +kernel
theorem dX7_returned_64 : decode cX7_returned 64 = .ok (.l2i, 1) := by decide +kernel
theorem dX7_returned_65 : decode cX7_returned 65 = .ok (.ireturn, 1) := by decide +kernel
theorem dX7_returned_66 : decode cX7_returned 66 = .ok (.aload_n 0, 1) := by decide +kernel
theorem dX7_returned_67 : decode cX7_returned 67 = .ok (.getfield 20, 3) := by decide +kernel
theorem dX7_returned_70 : decode cX7_returned 70 = .ok (.getfield 71, 3) := by decide +kernel
theorem dX7_returned_73 : decode cX7_returned 73 = .ok (.iload_n 1, 1) := by decide +kernel
theorem dX7_returned_74 : decode cX7_returned 74 = .ok (.iaload, 1) := by decide +kernel
theorem dX7_returned_75 : decode cX7_returned 75 = .ok (.iload_n 2, 1) := by decide +kernel
theorem dX7_returned_76 : decode cX7_returned 76 = .ok (.invokestatic 267, 3) := by decide +kernel
theorem dX7_returned_79 : decode cX7_returned 79 = .ok (.ifCond .eq 9, 3) := by decide +kernel
theorem dX7_returned_82 : decode cX7_returned 82 = .ok (.lload_n 3, 1) := by decide +kernel
theorem dX7_returned_83 : decode cX7_returned 83 = .ok (.lconst 0, 1) := by decide +kernel
theorem dX7_returned_84 : decode cX7_returned 84 = .ok (.lcmp, 1) := by decide +kernel
theorem dX7_returned_85 : decode cX7_returned 85 = .ok (.ifCond .ne 5, 3) := by decide +kernel
theorem dX7_returned_88 : decode cX7_returned 88 = .ok (.iconst (-1), 1) := by decide +kernel
theorem dX7_returned_89 : decode cX7_returned 89 = .ok (.ireturn, 1) := by decide +kernel
theorem dX7_returned_90 : decode cX7_returned 90 = .ok (.aload_n 0, 1) := by decide +kernel
theorem dX7_returned_91 : decode cX7_returned 91 = .ok (.getfield 20, 3) := by decide +kernel
theorem dX7_returned_94 : decode cX7_returned 94 = .ok (.getfield 100, 3) := by decide +kernel
theorem dX7_returned_97 : decode cX7_returned 97 = .ok (.iload_n 1, 1) := by decide +kernel
theorem dX7_returned_98 : decode cX7_returned 98 = .ok (.iaload, 1) := by decide +kernel
theorem dX7_returned_99 : decode cX7_returned 99 = .ok (.i2l, 1) := by decide +kernel
theorem dX7_returned_100 : decode cX7_returned 100 = .ok (.lload 5, 2) := by decide +kernel
theorem dX7_returned_102 : decode cX7_returned 102 = .ok (.lmul, 1) := by decide +kernel
theorem dX7_returned_103 : decode cX7_returned 103 = .ok (.lload_n 3, 1) := by decide +kernel
theorem dX7_returned_104 : decode cX7_returned 104 = .ok (.ldiv, 1) := by decide +kernel
theorem dX7_returned_105 : decode cX7_returned 105 = .ok (.l2i, 1) := by decide +kernel
theorem dX7_returned_106 : decode cX7_returned 106 = .ok (.ireturn, 1) := by decide +kernel
theorem gX7_returned_X0_limitsOn : GoodIn wtX7_returned (wsV RX7 303 RX0 yX0_limitsOn wtX0_limitsOn) := tb_good (tb_v0 wd_873 wd_874 wd_875 wd_39 wd_876)
theorem gX7_returned_X7_has : GoodIn wtX7_returned (va_wsS RX7 267 yX7_has wtX7_has) := tb_good (tb_s0 wd_814 wd_311 wd_2 wd_312)
theorem gX7_returned_X7_isItem : GoodIn wtX7_returned (va_wsS RX7 91 yX7_isItem wtX7_isItem) := tb_good (tb_s0 wd_218 wd_219 wd_2 wd_220)
theorem gX7_returned_X7_isPolicyOrNone : GoodIn wtX7_returned (wsV RX7 228 RX7 yX7_isPolicyOrNone wtX7_isPolicyOrNone) := tb_good (tb_v0 wd_725 wd_726 wd_727 wd_2 wd_728)
set_option maxHeartbeats 4000000 in
set_option maxRecDepth 100000 in
theorem m_X7_returned (l : Launch) (D : va_G) (cI cJ : ClassId) (sz : Nat) (x x0 x1 x2 x3 x4 x5 b0 b1 b2 b3 b4 b5 b6 b7 b8 b9 b10 b11 np nl : Nat) (bi14 p0 p1 : Int32) (B0 B4 B7 B9 : Nat → Int32) (hnp : np ≤ 8) (hnl : nl ≤ 10) : Met l yX7_returned wtX7_returned { frames := 3, cells := 0, slots := 0, locals := 64 } (cPc D cI cJ [.ref x, .int p0, .int p1] sz [(oX7 x x0 x1 x2 x3 x4 x5), (oX0 x0 b0 b1 b2 b3 b4 b5 b6 b7 b8 b9 b10 b11 (nI np) (nI nl) bi14), (aIc cI b0 8 B0), (aIc cI b4 8 B4), (aIc cI b7 8 B7), (aIc cI b9 8 B9)]) (cQi D (fun r u => u = [(oX7 x x0 x1 x2 x3 x4 x5), (oX0 x0 b0 b1 b2 b3 b4 b5 b6 b7 b8 b9 b10 b11 (nI np) (nI nl) bi14), (aIc cI b0 8 B0), (aIc cI b4 8 B4), (aIc cI b7 8 B7), (aIc cI b9 8 B9)]) (va_A [(oX7 x x0 x1 x2 x3 x4 x5), (oX0 x0 b0 b1 b2 b3 b4 b5 b6 b7 b8 b9 b10 b11 (nI np) (nI nl) bi14), (aIc cI b0 8 B0), (aIc cI b4 8 B4), (aIc cI b7 8 B7), (aIc cI b9 8 B9)] sz)) 0 0 (va_A [(oX7 x x0 x1 x2 x3 x4 x5), (oX0 x0 b0 b1 b2 b3 b4 b5 b6 b7 b8 b9 b10 b11 (nI np) (nI nl) bi14), (aIc cI b0 8 B0), (aIc cI b4 8 B4), (aIc cI b7 8 B7), (aIc cI b9 8 B9)] sz) := by
  refine k_ofW (Qc := cQi D (fun r u => u = [(oX7 x x0 x1 x2 x3 x4 x5), (oX0 x0 b0 b1 b2 b3 b4 b5 b6 b7 b8 b9 b10 b11 (nI np) (nI nl) bi14), (aIc cI b0 8 B0), (aIc cI b4 8 B4), (aIc cI b7 8 B7), (aIc cI b9 8 B9)])) (by decide) rfl (Nat.le_of_ble_eq_true rfl) ?_
  intro p e s m below meth c A ls hx hb hr hml hts hown hlk hnm hsz hE hP hD hS hA hl
  have hown : s.vm.findClass RX7 = some m.cls := hown
  have hiX7 : ∀ w ∈ u_ws RX7 TX7 6, w ∈ wtX7_returned := fun w h => List.mem_cons_of_mem _ (iuX7 w h)
  have hiX0 : ∀ w ∈ u_ws RX0 TX0 15, w ∈ wtX7_returned := fun w h => List.mem_cons_of_mem _ (iuX0 w h)
  have hl : lv_has ls 7 [(0, .ref x), (1, .int p0), (2, .int p1)] := hl
  refine lv_aload_n hx hb dX7_returned_0 rfl (lv_at hl 0 rfl) ?_
  refine lv_iload_n hx hb dX7_returned_1 rfl (lv_at hl 1 rfl) ?_
  refine k_iS (va_runV (As := [.int p0]) (rest := []) ⟨hx, hb, hml, hown, hts⟩ (m_X7_isPolicyOrNone l D cI cJ (s.heap).size x x0 x1 x2 x3 x4 x5 b0 b1 b2 b3 b4 b5 b6 b7 b8 b9 b10 b11 (nI np) (nI nl) bi14 p0) (cwV 1 hts gX7_returned_X7_isPolicyOrNone rfl rfl rfl (by decide +kernel) ⟨Nat.le_of_ble_eq_true rfl, Nat.le_of_ble_eq_true rfl⟩) (k_preV hE hP hD [0, 1] (by decide +kernel) rfl 0 rfl rfl) rfl rfl hl.1 rfl (lv_room (Nat.le_of_ble_eq_true rfl)) dX7_returned_2 ⟨Nat.le_of_ble_eq_true rfl, Nat.le_of_ble_eq_true rfl⟩) hP hD hS hA [0, 1] rfl (fun _ _ h9 => h9.2) (fun r1 H locs hw2 hP hD hS => ?_)
  obtain ⟨hw2, -⟩ := hw2
  refine lv_if_eq (tgt := 27) hx hb dX7_returned_5 (by decide) (fun c3 => ?_) (fun c3 => ?_)
  · skip
    have hc3 : ¬ (p0 = (-1) ∨ (0 ≤ p0 ∧ p0 ≤ (nI np) - 1)) := bz_0 hw2 c3
    refine lv_iconst (v := (-1)) hx hb dX7_returned_27 (by decide) ?_
    refine k_iret (u := [(oX7 x x0 x1 x2 x3 x4 x5), (oX0 x0 b0 b1 b2 b3 b4 b5 b6 b7 b8 b9 b10 b11 (nI np) (nI nl) bi14), (aIc cI b0 8 B0), (aIc cI b4 8 B4), (aIc cI b7 8 B7), (aIc cI b9 8 B9)]) hx hb hr hlk hP hD hS dX7_returned_28 ?_
    exact rfl
  · skip
    have hc3 : p0 = (-1) ∨ (0 ≤ p0 ∧ p0 ≤ (nI np) - 1) := bz_1 hw2 c3
    refine lv_iload_n hx hb dX7_returned_8 rfl (lv_at hl 2 rfl) ?_
    refine k_iS (va_runS (As := [.int p1]) (rest := []) ⟨hx, hb, hml, hown, hts⟩ (m_X7_isItem l D cI cJ H.size p1) (va_cwS 1 hts gX7_returned_X7_isItem rfl rfl rfl (by decide +kernel) ⟨Nat.le_of_ble_eq_true rfl, Nat.le_of_ble_eq_true rfl⟩) (k_pre hE hP hD [] (by decide +kernel) rfl) rfl rfl hl.1 rfl (lv_room (Nat.le_of_ble_eq_true rfl)) dX7_returned_9 ⟨Nat.le_of_ble_eq_true rfl, Nat.le_of_ble_eq_true rfl⟩) hP hD hS hA [] rfl (fun _ _ h9 => h9.2) (fun r4 H locs hw5 hP hD hS => ?_)
    obtain ⟨hw5, -⟩ := hw5
    refine lv_if_eq (tgt := 27) hx hb dX7_returned_12 (by decide) (fun c6 => ?_) (fun c6 => ?_)
    · skip
      have hc6 : ¬ (0 ≤ p1 ∧ p1 ≤ 7) := bz_0 hw5 c6
      refine lv_iconst (v := (-1)) hx hb dX7_returned_27 (by decide) ?_
      refine k_iret (u := [(oX7 x x0 x1 x2 x3 x4 x5), (oX0 x0 b0 b1 b2 b3 b4 b5 b6 b7 b8 b9 b10 b11 (nI np) (nI nl) bi14), (aIc cI b0 8 B0), (aIc cI b4 8 B4), (aIc cI b7 8 B7), (aIc cI b9 8 B9)]) hx hb hr hlk hP hD hS dX7_returned_28 ?_
      exact rfl
    · skip
      have hc6 : 0 ≤ p1 ∧ p1 ≤ 7 := bz_1 hw5 c6
      refine lv_aload_n hx hb dX7_returned_15 rfl (lv_at hl 0 rfl) ?_
      refine va_get (D := D) (ci := 7) (v := .ref x0) (C := RX7) (T := TX7) (N := 6) hx hb hts hiX7 hown hE.1 hP 0 rfl rfl 0 (by decide) (hts _ (List.mem_cons_of_mem _ wd_19)) (fun _ h9 => h9) rfl dX7_returned_16 ?_
      refine va_get (D := D) (ci := 0) (v := .ref b9) (C := RX0) (T := TX0) (N := 15) hx hb hts hiX0 hown hE.1 hP 1 rfl rfl 9 (by decide) (hts _ (List.mem_cons_of_mem _ wd_234)) (fun _ h9 => h9) rfl dX7_returned_19 ?_
      refine lv_iload_n hx hb dX7_returned_22 rfl (lv_at hl 2 rfl) ?_
      refine va_iald hx hb hE.1 hP 5 0 rfl rfl (vi_8 hc6) dX7_returned_23 ?_
      refine lv_topi (fun v7 ev7 => ?_)
      refine lv_if_ne (tgt := 29) hx hb dX7_returned_24 (by decide) (fun c8 => ?_) (fun c8 => ?_)
      · skip
        refine lv_aload_n hx hb dX7_returned_29 rfl (lv_at hl 0 rfl) ?_
        refine va_get (D := D) (ci := 7) (v := .ref x0) (C := RX7) (T := TX7) (N := 6) hx hb hts hiX7 hown hE.1 hP 0 rfl rfl 0 (by decide) (hts _ (List.mem_cons_of_mem _ wd_19)) (fun _ h9 => h9) rfl dX7_returned_30 ?_
        refine lv_iload_n hx hb dX7_returned_33 rfl (lv_at hl 2 rfl) ?_
        refine k_iS (va_runV (As := [.int p1]) (rest := []) ⟨hx, hb, hml, hown, hts⟩ (m_X0_limitsOn l D cI cJ H.size x0 b0 b1 b2 b3 b4 b5 b6 b7 b8 b9 b10 b11 np nl bi14 p1 B0 B4 (by omega) (by omega)) (cwV 1 hts gX7_returned_X0_limitsOn rfl rfl rfl (by decide +kernel) ⟨Nat.le_of_ble_eq_true rfl, Nat.le_of_ble_eq_true rfl⟩) (k_preV hE hP hD [1, 2, 3] (by decide +kernel) rfl 1 rfl rfl) rfl rfl hl.1 rfl (lv_room (Nat.le_of_ble_eq_true rfl)) dX7_returned_34 ⟨Nat.le_of_ble_eq_true rfl, Nat.le_of_ble_eq_true rfl⟩) hP hD hS hA [1, 2, 3] rfl (fun _ _ h9 => h9) (fun r9 H locs hw10 hP hD hS => ?_)
        refine lv_i2l hx hb dX7_returned_37 rfl ?_
        refine lv_topl (fun v11 ev11 => ?_)
        refine lv_lstore_n (lv' := [(3, .long v11), (0, .ref x), (1, .int p0), (2, .int p1)]) hx hb dX7_returned_38 rfl hl (by decide) rfl (fun ls hl => ?_)
        refine lv_lload_n hx hb dX7_returned_39 rfl (lv_at hl 0 rfl) ?_
        refine lv_aload_n hx hb dX7_returned_40 rfl (lv_at hl 1 rfl) ?_
        refine va_get (D := D) (ci := 7) (v := .ref x0) (C := RX7) (T := TX7) (N := 6) hx hb hts hiX7 hown hE.1 hP 0 rfl rfl 0 (by decide) (hts _ (List.mem_cons_of_mem _ wd_19)) (fun _ h9 => h9) rfl dX7_returned_41 ?_
        refine va_get (D := D) (ci := 0) (v := .ref b9) (C := RX0) (T := TX0) (N := 15) hx hb hts hiX0 hown hE.1 hP 1 rfl rfl 9 (by decide) (hts _ (List.mem_cons_of_mem _ wd_234)) (fun _ h9 => h9) rfl dX7_returned_44 ?_
        refine lv_iload_n hx hb dX7_returned_47 rfl (lv_at hl 3 rfl) ?_
        refine va_iald hx hb hE.1 hP 5 0 rfl rfl (vi_8 hc6) dX7_returned_48 ?_
        refine lv_topi (fun v12 ev12 => ?_)
        refine lv_i2l hx hb dX7_returned_49 rfl ?_
        refine lv_topl (fun v13 ev13 => ?_)
        refine lv_lsub hx hb dX7_returned_50 ?_
        refine lv_topl (fun v14 ev14 => ?_)
        refine lv_lconst (v := 0) hx hb dX7_returned_51 (by decide) ?_
        refine va_mmax_long hx hb (by rw [hml]; exact hl.1.symm) hown (hts _ (List.mem_cons_of_mem _ wd_870)) (hts _ (List.mem_cons_of_mem _ wd_871)) (hts _ (List.mem_cons_of_mem _ wd_324)) (hts _ (List.mem_cons_of_mem _ wd_872)) (Nat.le_of_ble_eq_true rfl) (Nat.le_of_ble_eq_true rfl) (Nat.le_of_ble_eq_true rfl) (Nat.le_of_ble_eq_true rfl) dX7_returned_52 ?_
        refine lv_topl (fun v15 ev15 => ?_)
        refine lv_lstore (lv' := [(5, .long v15), (3, .long v11), (0, .ref x), (1, .int p0), (2, .int p1)]) hx hb dX7_returned_55 hl (by decide) rfl (fun ls hl => ?_)
        refine lv_iload_n hx hb dX7_returned_57 rfl (lv_at hl 3 rfl) ?_
        refine lv_iconst (v := (-1)) hx hb dX7_returned_58 (by decide) ?_
        refine lv_icmp_ne (tgt := 66) hx hb dX7_returned_59 (by decide) (fun c16 => ?_) (fun c16 => ?_)
        · skip
          obtain ⟨pj, hpj, epj⟩ := wi_n (by omega) (hc3.resolve_left c16)
          rw [epj] at hl
          refine lv_aload_n hx hb dX7_returned_66 rfl (lv_at hl 2 rfl) ?_
          refine va_get (D := D) (ci := 7) (v := .ref x0) (C := RX7) (T := TX7) (N := 6) hx hb hts hiX7 hown hE.1 hP 0 rfl rfl 0 (by decide) (hts _ (List.mem_cons_of_mem _ wd_19)) (fun _ h9 => h9) rfl dX7_returned_67 ?_
          refine va_get (D := D) (ci := 0) (v := .ref b4) (C := RX0) (T := TX0) (N := 15) hx hb hts hiX0 hown hE.1 hP 1 rfl rfl 4 (by decide) (hts _ (List.mem_cons_of_mem _ wd_163)) (fun _ h9 => h9) rfl dX7_returned_70 ?_
          refine lv_iload_n hx hb dX7_returned_73 rfl (lv_at hl 3 rfl) ?_
          refine va_iald hx hb hE.1 hP 3 0 rfl rfl (vp_in_nI (n := pj) (by omega) (by decide)) dX7_returned_74 ?_
          refine lv_topi (fun v17 ev17 => ?_)
          refine lv_iload_n hx hb dX7_returned_75 rfl (lv_at hl 4 rfl) ?_
          refine k_iS (va_runS (As := [.int v17, .int p1]) (rest := []) ⟨hx, hb, hml, hown, hts⟩ (m_X7_has l D cI cJ H.size v17 p1) (va_cwS 2 hts gX7_returned_X7_has rfl rfl rfl (by decide +kernel) ⟨Nat.le_of_ble_eq_true rfl, Nat.le_of_ble_eq_true rfl⟩) (k_pre hE hP hD [] (by decide +kernel) rfl) rfl rfl hl.1 rfl (lv_room (Nat.le_of_ble_eq_true rfl)) dX7_returned_76 ⟨Nat.le_of_ble_eq_true rfl, Nat.le_of_ble_eq_true rfl⟩) hP hD hS hA [] rfl (fun _ _ h9 => h9.2) (fun r18 H locs hw19 hP hD hS => ?_)
          obtain ⟨hw19, -⟩ := hw19
          refine lv_if_eq (tgt := 88) hx hb dX7_returned_79 (by decide) (fun c20 => ?_) (fun c20 => ?_)
          · skip
            have hc20 : ¬ (¬ (v17 >>> (p1 &&& 31)) &&& 1 = 0) := bz_0 hw19 c20
            refine lv_iconst (v := (-1)) hx hb dX7_returned_88 (by decide) ?_
            refine k_iret (u := [(oX7 x x0 x1 x2 x3 x4 x5), (oX0 x0 b0 b1 b2 b3 b4 b5 b6 b7 b8 b9 b10 b11 (nI np) (nI nl) bi14), (aIc cI b0 8 B0), (aIc cI b4 8 B4), (aIc cI b7 8 B7), (aIc cI b9 8 B9)]) hx hb hr hlk hP hD hS dX7_returned_89 ?_
            exact rfl
          · skip
            have hc20 : ¬ (v17 >>> (p1 &&& 31)) &&& 1 = 0 := bz_1 hw19 c20
            refine lv_lload_n hx hb dX7_returned_82 rfl (lv_at hl 1 rfl) ?_
            refine lv_lconst (v := 0) hx hb dX7_returned_83 (by decide) ?_
            refine k_lcmp_ne (tgt := 90) hx hb dX7_returned_84 dX7_returned_85 (by decide) (fun c21 => ?_) (fun c21 => ?_)
            · skip
              refine lv_aload_n hx hb dX7_returned_90 rfl (lv_at hl 2 rfl) ?_
              refine va_get (D := D) (ci := 7) (v := .ref x0) (C := RX7) (T := TX7) (N := 6) hx hb hts hiX7 hown hE.1 hP 0 rfl rfl 0 (by decide) (hts _ (List.mem_cons_of_mem _ wd_19)) (fun _ h9 => h9) rfl dX7_returned_91 ?_
              refine va_get (D := D) (ci := 0) (v := .ref b7) (C := RX0) (T := TX0) (N := 15) hx hb hts hiX0 hown hE.1 hP 1 rfl rfl 7 (by decide) (hts _ (List.mem_cons_of_mem _ wd_235)) (fun _ h9 => h9) rfl dX7_returned_94 ?_
              refine lv_iload_n hx hb dX7_returned_97 rfl (lv_at hl 3 rfl) ?_
              refine va_iald hx hb hE.1 hP 4 0 rfl rfl (vp_in_nI (n := pj) (by omega) (by decide)) dX7_returned_98 ?_
              refine lv_topi (fun v22 ev22 => ?_)
              refine lv_i2l hx hb dX7_returned_99 rfl ?_
              refine lv_topl (fun v23 ev23 => ?_)
              refine lv_lload hx hb dX7_returned_100 (lv_at hl 0 rfl) ?_
              refine lv_lmul hx hb dX7_returned_102 ?_
              refine lv_topl (fun v24 ev24 => ?_)
              refine lv_lload_n hx hb dX7_returned_103 rfl (lv_at hl 1 rfl) ?_
              refine lv_ldiv hx hb dX7_returned_104 c21 ?_
              refine lv_topl (fun v25 ev25 => ?_)
              refine lv_l2i hx hb dX7_returned_105 rfl ?_
              refine lv_topi (fun v26 ev26 => ?_)
              refine k_iret (u := [(oX7 x x0 x1 x2 x3 x4 x5), (oX0 x0 b0 b1 b2 b3 b4 b5 b6 b7 b8 b9 b10 b11 (nI np) (nI nl) bi14), (aIc cI b0 8 B0), (aIc cI b4 8 B4), (aIc cI b7 8 B7), (aIc cI b9 8 B9)]) hx hb hr hlk hP hD hS dX7_returned_106 ?_
              exact rfl
            · skip
              refine lv_iconst (v := (-1)) hx hb dX7_returned_88 (by decide) ?_
              refine k_iret (u := [(oX7 x x0 x1 x2 x3 x4 x5), (oX0 x0 b0 b1 b2 b3 b4 b5 b6 b7 b8 b9 b10 b11 (nI np) (nI nl) bi14), (aIc cI b0 8 B0), (aIc cI b4 8 B4), (aIc cI b7 8 B7), (aIc cI b9 8 B9)]) hx hb hr hlk hP hD hS dX7_returned_89 ?_
              exact rfl
        · skip
          refine lv_lload hx hb dX7_returned_62 (lv_at hl 0 rfl) ?_
          refine lv_l2i hx hb dX7_returned_64 rfl ?_
          refine lv_topi (fun v27 ev27 => ?_)
          refine k_iret (u := [(oX7 x x0 x1 x2 x3 x4 x5), (oX0 x0 b0 b1 b2 b3 b4 b5 b6 b7 b8 b9 b10 b11 (nI np) (nI nl) bi14), (aIc cI b0 8 B0), (aIc cI b4 8 B4), (aIc cI b7 8 B7), (aIc cI b9 8 B9)]) hx hb hr hlk hP hD hS dX7_returned_65 ?_
          exact rfl
      · skip
        refine lv_iconst (v := (-1)) hx hb dX7_returned_27 (by decide) ?_
        refine k_iret (u := [(oX7 x x0 x1 x2 x3 x4 x5), (oX0 x0 b0 b1 b2 b3 b4 b5 b6 b7 b8 b9 b10 b11 (nI np) (nI nl) bi14), (aIc cI b0 8 B0), (aIc cI b4 8 B4), (aIc cI b7 8 B7), (aIc cI b9 8 B9)]) hx hb hr hlk hP hD hS dX7_returned_28 ?_
        exact rfl
theorem dX7_recovery_0 : decode cX7_recovery 0 = .ok (.aload_n 0, 1) := by decide +kernel
theorem dX7_recovery_1 : decode cX7_recovery 1 = .ok (.iload_n 1, 1) := by decide +kernel
theorem dX7_recovery_2 : decode cX7_recovery 2 = .ok (.invokevirtual 137, 3) := by decide +kernel
theorem dX7_recovery_5 : decode cX7_recovery 5 = .ok (.ifCond .eq 31, 3) := by decide +kernel
theorem dX7_recovery_8 : decode cX7_recovery 8 = .ok (.iload 5, 2) := by decide +kernel
theorem dX7_recovery_10 : decode cX7_recovery 10 = .ok (.iconst 0, 1) := by decide +kernel
theorem dX7_recovery_11 : decode cX7_recovery 11 = .ok (.iconst 2, 1) := by decide +kernel
theorem dX7_recovery_12 : decode cX7_recovery 12 = .ok (.invokestatic 47, 3) := by decide +kernel
theorem dX7_recovery_15 : decode cX7_recovery 15 = .ok (.ifCond .eq 21, 3) := by decide +kernel
theorem dX7_recovery_18 : decode cX7_recovery 18 = .ok (.aload_n 0, 1) := by decide +kernel
theorem dX7_recovery_19 : decode cX7_recovery 19 = .ok (.getfield 31, 3) := by decide +kernel
theorem dX7_recovery_22 : decode cX7_recovery 22 = .ok (.lload_n 2, 1) := by decide +kernel
theorem dX7_recovery_23 : decode cX7_recovery 23 = .ok (.aload_n 0, 1) := by decide +kernel
theorem dX7_recovery_24 : decode cX7_recovery 24 = .ok (.getfield 20, 3) := by decide +kernel
theorem dX7_recovery_27 : decode cX7_recovery 27 = .ok (.getfield 53, 3) := by decide +kernel
theorem dX7_recovery_30 : decode cX7_recovery 30 = .ok (.invokevirtual 231, 3) := by decide +kernel
theorem dX7_recovery_33 : decode cX7_recovery 33 = .ok (.ifCond .ne 5, 3) := by decide +kernel
theorem dX7_recovery_36 : decode cX7_recovery 36 = .ok (.iconst (-1), 1) := by decide +kernel
theorem dX7_recovery_37 : decode cX7_recovery 37 = .ok (.ireturn, 1) := by decide +kernel
theorem dX7_recovery_38 : decode cX7_recovery 38 = .ok (.aload_n 0, 1) := by decide +kernel
theorem dX7_recovery_39 : decode cX7_recovery 39 = .ok (.iload_n 1, 1) := by decide +kernel
theorem dX7_recovery_40 : decode cX7_recovery 40 = .ok (.invokevirtual 140, 3) := by decide +kernel
theorem dX7_recovery_43 : decode cX7_recovery 43 = .ok (.aload_n 0, 1) := by decide +kernel
theorem dX7_recovery_44 : decode cX7_recovery 44 = .ok (.getfield 31, 3) := by decide +kernel
theorem dX7_recovery_47 : decode cX7_recovery 47 = .ok (.aload_n 0, 1) := by decide +kernel
theorem dX7_recovery_48 : decode cX7_recovery 48 = .ok (.getfield 10, 3) := by decide +kernel
theorem dX7_recovery_51 : decode cX7_recovery 51 = .ok (.invokevirtual 235, 3) := by decide +kernel
theorem dX7_recovery_54 : decode cX7_recovery 54 = .ok (.aload_n 0, 1) := by decide +kernel
theorem dX7_recovery_55 : decode cX7_recovery 55 = .ok (.getfield 31, 3) := by decide +kernel
theorem dX7_recovery_58 : decode cX7_recovery 58 = .ok (.aload_n 0, 1) := by decide +kernel
theorem dX7_recovery_59 : decode cX7_recovery 59 = .ok (.getfield 10, 3) := by decide +kernel
theorem dX7_recovery_62 : decode cX7_recovery 62 = .ok (.getfield 180, 3) := by decide +kernel
theorem dX7_recovery_65 : decode cX7_recovery 65 = .ok (.aload_n 0, 1) := by decide +kernel
theorem dX7_recovery_66 : decode cX7_recovery 66 = .ok (.getfield 10, 3) := by decide +kernel
theorem dX7_recovery_69 : decode cX7_recovery 69 = .ok (.getfield 148, 3) := by decide +kernel
theorem dX7_recovery_72 : decode cX7_recovery 72 = .ok (.invokevirtual 245, 3) := by decide +kernel
theorem dX7_recovery_75 : decode cX7_recovery 75 = .ok (.iload 4, 2) := by decide +kernel
theorem dX7_recovery_77 : decode cX7_recovery 77 = .ok (.iconst (-1), 1) := by decide +kernel
theorem dX7_recovery_78 : decode cX7_recovery 78 = .ok (.if_icmp .ne 11, 3) := by decide +kernel
theorem dX7_recovery_81 : decode cX7_recovery 81 = .ok (.aload_n 0, 1) := by decide +kernel
theorem dX7_recovery_82 : decode cX7_recovery 82 = .ok (.getfield 31, 3) := by decide +kernel
theorem dX7_recovery_85 : decode cX7_recovery 85 = .ok (.getfield 249, 3) := by decide +kernel
theorem dX7_recovery_88 : decode cX7_recovery 88 = .ok (.ireturn, 1) := by decide +kernel
theorem dX7_recovery_89 : decode cX7_recovery 89 = .ok (.iload 4, 2) := by decide +kernel
theorem dX7_recovery_91 : decode cX7_recovery 91 = .ok (.iconst 0, 1) := by decide +kernel
theorem dX7_recovery_92 : decode cX7_recovery 92 = .ok (.aload_n 0, 1) := by decide +kernel
theorem dX7_recovery_93 : decode cX7_recovery 93 = .ok (.getfield 31, 3) := by decide +kernel
theorem dX7_recovery_96 : decode cX7_recovery 96 = .ok (.getfield 249, 3) := by decide +kernel
theorem dX7_recovery_99 : decode cX7_recovery 99 = .ok (.iconst 1, 1) := by decide +kernel
theorem dX7_recovery_100 : decode cX7_recovery 100 = .ok (.isub, 1) := by decide +kernel
theorem dX7_recovery_101 : decode cX7_recovery 101 = .ok (.invokestatic 47, 3) := by decide +kernel
theorem dX7_recovery_104 : decode cX7_recovery 104 = .ok (.ifCond .ne 5, 3) := by decide +kernel
theorem dX7_recovery_107 : decode cX7_recovery 107 = .ok (.iconst (-1), 1) := by decide +kernel
theorem dX7_recovery_108 : decode cX7_recovery 108 = .ok (.ireturn, 1) := by decide +kernel
theorem dX7_recovery_109 : decode cX7_recovery 109 = .ok (.iload 5, 2) := by decide +kernel
theorem dX7_recovery_111 : decode cX7_recovery 111 = .ok (.lookupswitch 47 #[(0, 25), (1, 36)], 25) := by decide +kernel
theorem dX7_recovery_136 : decode cX7_recovery 136 = .ok (.aload_n 0, 1) := by decide +kernel
theorem dX7_recovery_137 : decode cX7_recovery 137 = .ok (.getfield 31, 3) := by decide +kernel
theorem dX7_recovery_140 : decode cX7_recovery 140 = .ok (.getfield 252, 3) := by decide +kernel
theorem dX7_recovery_143 : decode cX7_recovery 143 = .ok (.iload 4, 2) := by decide +kernel
theorem dX7_recovery_145 : decode cX7_recovery 145 = .ok (.iaload, 1) := by decide +kernel
theorem dX7_recovery_146 : decode cX7_recovery 146 = .ok (.ireturn, 1) := by decide +kernel
theorem dX7_recovery_147 : decode cX7_recovery 147 = .ok (.aload_n 0, 1) := by decide +kernel
theorem dX7_recovery_148 : decode cX7_recovery 148 = .ok (.getfield 31, 3) := by decide +kernel
theorem dX7_recovery_151 : decode cX7_recovery 151 = .ok (.getfield 255, 3) := by decide +kernel
theorem dX7_recovery_154 : decode cX7_recovery 154 = .ok (.iload 4, 2) := by decide +kernel
theorem dX7_recovery_156 : decode cX7_recovery 156 = .ok (.iaload, 1) := by decide +kernel
theorem dX7_recovery_157 : decode cX7_recovery 157 = .ok (.ireturn, 1) := by decide +kernel
theorem dX7_recovery_158 : decode cX7_recovery 158 = .ok (.aload_n 0, 1) := by decide +kernel
theorem dX7_recovery_159 : decode cX7_recovery 159 = .ok (.getfield 31, 3) := by decide +kernel
theorem dX7_recovery_162 : decode cX7_recovery 162 = .ok (.getfield 258, 3) := by decide +kernel
theorem dX7_recovery_165 : decode cX7_recovery 165 = .ok (.iload 4, 2) := by decide +kernel
theorem dX7_recovery_167 : decode cX7_recovery 167 = .ok (.iaload, 1) := by decide +kernel
theorem dX7_recovery_168 : decode cX7_recovery 168 = .ok (.ireturn, 1) := by decide +kernel
theorem gX7_recovery_X1_pay : GoodIn wtX7_recovery (wsV RX7 235 RX1 yX1_pay wtX1_pay) := tb_good (tb_v0 wd_735 wd_736 wd_737 wd_26 wd_738)
theorem gX7_recovery_X1_read : GoodIn wtX7_recovery (wsV RX7 231 RX1 yX1_read wtX1_read) := tb_good (tb_v0 wd_729 wd_730 wd_731 wd_26 wd_732)
theorem gX7_recovery_X1_recover : GoodIn wtX7_recovery (wsV RX7 245 RX1 yX1_recover wtX1_recover) := tb_good (tb_v0 wd_765 wd_766 wd_767 wd_26 wd_768)
theorem gX7_recovery_X7_isLoss : GoodIn wtX7_recovery (wsV RX7 137 RX7 yX7_isLoss wtX7_isLoss) := tb_good (tb_v0 wd_519 wd_520 wd_521 wd_2 wd_522)
theorem gX7_recovery_X7_settle : GoodIn wtX7_recovery (wsV RX7 140 RX7 yX7_settle wtX7_settle) := tb_good (tb_v0 wd_523 wd_524 wd_525 wd_2 wd_526)
theorem gX7_recovery_X7_within : GoodIn wtX7_recovery (va_wsS RX7 47 yX7_within wtX7_within) := tb_good (tb_s0 wd_164 wd_165 wd_2 wd_166)
set_option maxHeartbeats 4000000 in
set_option maxRecDepth 100000 in
theorem m_X7_recovery (l : Launch) (D : va_G) (cI cJ : ClassId) (sz : Nat) (x x0 x1 x2 x3 x4 x5 s1 s2 s5 s6 s7 s8 s9 s10 s11 b0 b1 b2 b3 b4 b5 b6 b7 b8 b9 b10 b11 w0 w1 w2 w3 w4 w8 d0 d1 d2 t0 t1 t2 t3 t6 t8 wn lv np nl pn pm : Nat) (si4 si12 si13 bi14 wi6 ti4 ti7 p0 p2 p3 : Int32) (p1 : Int64) (B0 B1 B2 B3 B4 B6 B8 B10 B11 S5 S6 S7 S8 S9 S10 S11 W0 W1 W2 W3 W4 W8 D0 D1 : Nat → Int32) (D2 : Nat → Int64) (B5 T0 T6 T1 T2 T3 T8 : Nat → Int32) (hwn : wn < 256) (hlv : lv ≤ 8) (hli : ∀ k, k < 10 → ∃ j : Nat, j < 8 ∧ B10 k = nI j) (hnp : np ≤ 8) (hnl : nl ≤ 10) (hpn : pn < 256) (hor : ∀ k, k < 8 → ∃ j : Nat, j < 8 ∧ T6 k = nI j) (hpm : pm ≤ 9) : Met l yX7_recovery wtX7_recovery { frames := 6, cells := 0, slots := 0, locals := 146 } (cPc D cI cJ [.ref x, .int p0, .long p1, .int p2, .int p3] sz [(oX7 x x0 x1 x2 x3 x4 x5), (oX4 x1 x0 s1 s2 (nI pn) si4 s5 s6 s7 s8 s9 s10 s11 si12 si13), (oX0 x0 b0 b1 b2 b3 b4 b5 b6 b7 b8 b9 b10 b11 (nI np) (nI nl) bi14), (oX6 s1 w0 w1 w2 w3 w4 (nI wn) wi6 (nI lv) w8), (oX2 s2 d0 d1 d2), (aIc cI b0 8 B0), (aIc cI b1 8 B1), (aIc cI b2 8 B2), (aIc cI b3 8 B3), (aIc cI b4 8 B4), (aIc cI b6 8 B6), (aIc cI b8 64 B8), (aIc cI b10 10 B10), (aIc cI b11 10 B11), (aIc cI s5 8 S5), (aIc cI s6 8 S6), (aIc cI s7 8 S7), (aIc cI s8 8 S8), (aIc cI s9 8 S9), (aIc cI s10 8 S10), (aIc cI s11 8 S11), (aIc cI w0 8 W0), (aIc cI w1 8 W1), (aIc cI w2 8 W2), (aIc cI w3 8 W3), (aIc cI w4 8 W4), (aIc cI w8 8 W8), (aIc cI d0 8 D0), (aIc cI d1 8 D1), (aJc cJ d2 8 D2), (aIc cI b5 8 B5), (oX1 x3 t0 t1 t2 t3 ti4 (nI pm) t6 ti7 t8), (aIc cI t0 8 T0), (aIc cI t6 8 T6), (aIc cI t1 9 T1), (aIc cI t2 9 T2), (aIc cI t3 9 T3), (aIc cI t8 9 T8)]) (cQi D (fun r u => ∃ (S5p S6p S7p S8p S9p S10p S11p W1p W2p W3p W4p W8p D0p D1p : Nat → Int32) (D2p : Nat → Int64) (si12p si13p wi6p : Int32) (lvp : Nat) (W0p : Nat → Int32) (si4p : Int32) (wnp pnp : Nat) (T0p T6p : Nat → Int32) (ti4p ti7p : Int32) (T1p T2p T3p T8p : Nat → Int32) (pmp : Nat), (lvp ≤ 8) ∧ (wnp < 256) ∧ (pnp < 256) ∧ (∀ k, k < 8 → ∃ j : Nat, j < 8 ∧ T6p k = nI j) ∧ (pmp ≤ 9) ∧ u = [(oX7 x x0 x1 x2 x3 x4 x5), (oX4 x1 x0 s1 s2 (nI pnp) si4p s5 s6 s7 s8 s9 s10 s11 si12p si13p), (oX0 x0 b0 b1 b2 b3 b4 b5 b6 b7 b8 b9 b10 b11 (nI np) (nI nl) bi14), (oX6 s1 w0 w1 w2 w3 w4 (nI wnp) wi6p (nI lvp) w8), (oX2 s2 d0 d1 d2), (aIc cI b0 8 B0), (aIc cI b1 8 B1), (aIc cI b2 8 B2), (aIc cI b3 8 B3), (aIc cI b4 8 B4), (aIc cI b6 8 B6), (aIc cI b8 64 B8), (aIc cI b10 10 B10), (aIc cI b11 10 B11), (aIc cI s5 8 S5p), (aIc cI s6 8 S6p), (aIc cI s7 8 S7p), (aIc cI s8 8 S8p), (aIc cI s9 8 S9p), (aIc cI s10 8 S10p), (aIc cI s11 8 S11p), (aIc cI w0 8 W0p), (aIc cI w1 8 W1p), (aIc cI w2 8 W2p), (aIc cI w3 8 W3p), (aIc cI w4 8 W4p), (aIc cI w8 8 W8p), (aIc cI d0 8 D0p), (aIc cI d1 8 D1p), (aJc cJ d2 8 D2p), (aIc cI b5 8 B5), (oX1 x3 t0 t1 t2 t3 ti4p (nI pmp) t6 ti7p t8), (aIc cI t0 8 T0p), (aIc cI t6 8 T6p), (aIc cI t1 9 T1p), (aIc cI t2 9 T2p), (aIc cI t3 9 T3p), (aIc cI t8 9 T8p)]) (va_A [(oX7 x x0 x1 x2 x3 x4 x5), (oX4 x1 x0 s1 s2 (nI pn) si4 s5 s6 s7 s8 s9 s10 s11 si12 si13), (oX0 x0 b0 b1 b2 b3 b4 b5 b6 b7 b8 b9 b10 b11 (nI np) (nI nl) bi14), (oX6 s1 w0 w1 w2 w3 w4 (nI wn) wi6 (nI lv) w8), (oX2 s2 d0 d1 d2), (aIc cI b0 8 B0), (aIc cI b1 8 B1), (aIc cI b2 8 B2), (aIc cI b3 8 B3), (aIc cI b4 8 B4), (aIc cI b6 8 B6), (aIc cI b8 64 B8), (aIc cI b10 10 B10), (aIc cI b11 10 B11), (aIc cI s5 8 S5), (aIc cI s6 8 S6), (aIc cI s7 8 S7), (aIc cI s8 8 S8), (aIc cI s9 8 S9), (aIc cI s10 8 S10), (aIc cI s11 8 S11), (aIc cI w0 8 W0), (aIc cI w1 8 W1), (aIc cI w2 8 W2), (aIc cI w3 8 W3), (aIc cI w4 8 W4), (aIc cI w8 8 W8), (aIc cI d0 8 D0), (aIc cI d1 8 D1), (aJc cJ d2 8 D2), (aIc cI b5 8 B5), (oX1 x3 t0 t1 t2 t3 ti4 (nI pm) t6 ti7 t8), (aIc cI t0 8 T0), (aIc cI t6 8 T6), (aIc cI t1 9 T1), (aIc cI t2 9 T2), (aIc cI t3 9 T3), (aIc cI t8 9 T8)] sz)) 0 0 (va_A [(oX7 x x0 x1 x2 x3 x4 x5), (oX4 x1 x0 s1 s2 (nI pn) si4 s5 s6 s7 s8 s9 s10 s11 si12 si13), (oX0 x0 b0 b1 b2 b3 b4 b5 b6 b7 b8 b9 b10 b11 (nI np) (nI nl) bi14), (oX6 s1 w0 w1 w2 w3 w4 (nI wn) wi6 (nI lv) w8), (oX2 s2 d0 d1 d2), (aIc cI b0 8 B0), (aIc cI b1 8 B1), (aIc cI b2 8 B2), (aIc cI b3 8 B3), (aIc cI b4 8 B4), (aIc cI b6 8 B6), (aIc cI b8 64 B8), (aIc cI b10 10 B10), (aIc cI b11 10 B11), (aIc cI s5 8 S5), (aIc cI s6 8 S6), (aIc cI s7 8 S7), (aIc cI s8 8 S8), (aIc cI s9 8 S9), (aIc cI s10 8 S10), (aIc cI s11 8 S11), (aIc cI w0 8 W0), (aIc cI w1 8 W1), (aIc cI w2 8 W2), (aIc cI w3 8 W3), (aIc cI w4 8 W4), (aIc cI w8 8 W8), (aIc cI d0 8 D0), (aIc cI d1 8 D1), (aJc cJ d2 8 D2), (aIc cI b5 8 B5), (oX1 x3 t0 t1 t2 t3 ti4 (nI pm) t6 ti7 t8), (aIc cI t0 8 T0), (aIc cI t6 8 T6), (aIc cI t1 9 T1), (aIc cI t2 9 T2), (aIc cI t3 9 T3), (aIc cI t8 9 T8)] sz) := by
  refine k_ofW (Qc := cQi D (fun r u => ∃ (S5p S6p S7p S8p S9p S10p S11p W1p W2p W3p W4p W8p D0p D1p : Nat → Int32) (D2p : Nat → Int64) (si12p si13p wi6p : Int32) (lvp : Nat) (W0p : Nat → Int32) (si4p : Int32) (wnp pnp : Nat) (T0p T6p : Nat → Int32) (ti4p ti7p : Int32) (T1p T2p T3p T8p : Nat → Int32) (pmp : Nat), (lvp ≤ 8) ∧ (wnp < 256) ∧ (pnp < 256) ∧ (∀ k, k < 8 → ∃ j : Nat, j < 8 ∧ T6p k = nI j) ∧ (pmp ≤ 9) ∧ u = [(oX7 x x0 x1 x2 x3 x4 x5), (oX4 x1 x0 s1 s2 (nI pnp) si4p s5 s6 s7 s8 s9 s10 s11 si12p si13p), (oX0 x0 b0 b1 b2 b3 b4 b5 b6 b7 b8 b9 b10 b11 (nI np) (nI nl) bi14), (oX6 s1 w0 w1 w2 w3 w4 (nI wnp) wi6p (nI lvp) w8), (oX2 s2 d0 d1 d2), (aIc cI b0 8 B0), (aIc cI b1 8 B1), (aIc cI b2 8 B2), (aIc cI b3 8 B3), (aIc cI b4 8 B4), (aIc cI b6 8 B6), (aIc cI b8 64 B8), (aIc cI b10 10 B10), (aIc cI b11 10 B11), (aIc cI s5 8 S5p), (aIc cI s6 8 S6p), (aIc cI s7 8 S7p), (aIc cI s8 8 S8p), (aIc cI s9 8 S9p), (aIc cI s10 8 S10p), (aIc cI s11 8 S11p), (aIc cI w0 8 W0p), (aIc cI w1 8 W1p), (aIc cI w2 8 W2p), (aIc cI w3 8 W3p), (aIc cI w4 8 W4p), (aIc cI w8 8 W8p), (aIc cI d0 8 D0p), (aIc cI d1 8 D1p), (aJc cJ d2 8 D2p), (aIc cI b5 8 B5), (oX1 x3 t0 t1 t2 t3 ti4p (nI pmp) t6 ti7p t8), (aIc cI t0 8 T0p), (aIc cI t6 8 T6p), (aIc cI t1 9 T1p), (aIc cI t2 9 T2p), (aIc cI t3 9 T3p), (aIc cI t8 9 T8p)])) (by decide) rfl (Nat.le_of_ble_eq_true rfl) ?_
  intro p e s m below meth c A ls hx hb hr hml hts hown hlk hnm hsz hE hP hD hS hA hl
  have hown : s.vm.findClass RX7 = some m.cls := hown
  have hiX7 : ∀ w ∈ u_ws RX7 TX7 6, w ∈ wtX7_recovery := fun w h => List.mem_cons_of_mem _ (iuX7 w h)
  have hiX0 : ∀ w ∈ u_ws RX0 TX0 15, w ∈ wtX7_recovery := fun w h => List.mem_cons_of_mem _ (iuX0 w h)
  have hiX4 : ∀ w ∈ u_ws RX4 TX4 14, w ∈ wtX7_recovery := fun w h => List.mem_cons_of_mem _ (iuX4 w h)
  have hiX1 : ∀ w ∈ u_ws RX1 TX1 9, w ∈ wtX7_recovery := fun w h => List.mem_cons_of_mem _ (iuX1 w h)
  have hl : lv_has ls 6 [(0, .ref x), (1, .int p0), (2, .long p1), (4, .int p2), (5, .int p3)] := hl
  refine lv_aload_n hx hb dX7_recovery_0 rfl (lv_at hl 0 rfl) ?_
  refine lv_iload_n hx hb dX7_recovery_1 rfl (lv_at hl 1 rfl) ?_
  refine k_iS (va_runV (As := [.int p0]) (rest := []) ⟨hx, hb, hml, hown, hts⟩ (m_X7_isLoss l D cI cJ (s.heap).size x x0 x1 x2 x3 x4 x5 b0 b1 b2 b3 b4 b5 b6 b7 b8 b9 b10 b11 (nI np) (nI nl) bi14 p0) (cwV 1 hts gX7_recovery_X7_isLoss rfl rfl rfl (by decide +kernel) ⟨Nat.le_of_ble_eq_true rfl, Nat.le_of_ble_eq_true rfl⟩) (k_preV hE hP hD [0, 2] (by decide +kernel) rfl 0 rfl rfl) rfl rfl hl.1 rfl (lv_room (Nat.le_of_ble_eq_true rfl)) dX7_recovery_2 ⟨Nat.le_of_ble_eq_true rfl, Nat.le_of_ble_eq_true rfl⟩) hP hD hS hA [0, 2] rfl (fun _ _ h9 => h9.2) (fun r1 H locs hw2 hP hD hS => ?_)
  obtain ⟨hw2, -⟩ := hw2
  refine lv_if_eq (tgt := 36) hx hb dX7_recovery_5 (by decide) (fun c3 => ?_) (fun c3 => ?_)
  · skip
    have hc3 : ¬ (0 ≤ p0 ∧ p0 ≤ (nI nl) - 1) := bz_0 hw2 c3
    refine lv_iconst (v := (-1)) hx hb dX7_recovery_36 (by decide) ?_
    refine k_iret (u := [(oX7 x x0 x1 x2 x3 x4 x5), (oX4 x1 x0 s1 s2 (nI pn) si4 s5 s6 s7 s8 s9 s10 s11 si12 si13), (oX0 x0 b0 b1 b2 b3 b4 b5 b6 b7 b8 b9 b10 b11 (nI np) (nI nl) bi14), (oX6 s1 w0 w1 w2 w3 w4 (nI wn) wi6 (nI lv) w8), (oX2 s2 d0 d1 d2), (aIc cI b0 8 B0), (aIc cI b1 8 B1), (aIc cI b2 8 B2), (aIc cI b3 8 B3), (aIc cI b4 8 B4), (aIc cI b6 8 B6), (aIc cI b8 64 B8), (aIc cI b10 10 B10), (aIc cI b11 10 B11), (aIc cI s5 8 S5), (aIc cI s6 8 S6), (aIc cI s7 8 S7), (aIc cI s8 8 S8), (aIc cI s9 8 S9), (aIc cI s10 8 S10), (aIc cI s11 8 S11), (aIc cI w0 8 W0), (aIc cI w1 8 W1), (aIc cI w2 8 W2), (aIc cI w3 8 W3), (aIc cI w4 8 W4), (aIc cI w8 8 W8), (aIc cI d0 8 D0), (aIc cI d1 8 D1), (aJc cJ d2 8 D2), (aIc cI b5 8 B5), (oX1 x3 t0 t1 t2 t3 ti4 (nI pm) t6 ti7 t8), (aIc cI t0 8 T0), (aIc cI t6 8 T6), (aIc cI t1 9 T1), (aIc cI t2 9 T2), (aIc cI t3 9 T3), (aIc cI t8 9 T8)]) hx hb hr hlk hP hD hS dX7_recovery_37 ?_
    exact ⟨S5, S6, S7, S8, S9, S10, S11, W1, W2, W3, W4, W8, D0, D1, D2, si12, si13, wi6, lv, W0, si4, wn, pn, T0, T6, ti4, ti7, T1, T2, T3, T8, pm, (by omega), (by omega), (by first | omega | exact ev_lt hnp), hor, (by omega), rfl⟩
  · skip
    have hc3 : 0 ≤ p0 ∧ p0 ≤ (nI nl) - 1 := bz_1 hw2 c3
    refine lv_iload hx hb dX7_recovery_8 (lv_at hl 4 rfl) ?_
    refine lv_iconst (v := 0) hx hb dX7_recovery_10 (by decide) ?_
    refine lv_iconst (v := 2) hx hb dX7_recovery_11 (by decide) ?_
    refine k_iS (va_runS (As := [.int p3, .int 0, .int 2]) (rest := []) ⟨hx, hb, hml, hown, hts⟩ (m_X7_within l D cI cJ H.size p3 0 2) (va_cwS 3 hts gX7_recovery_X7_within rfl rfl rfl (by decide +kernel) ⟨Nat.le_of_ble_eq_true rfl, Nat.le_of_ble_eq_true rfl⟩) (k_pre hE hP hD [] (by decide +kernel) rfl) rfl rfl hl.1 rfl (lv_room (Nat.le_of_ble_eq_true rfl)) dX7_recovery_12 ⟨Nat.le_of_ble_eq_true rfl, Nat.le_of_ble_eq_true rfl⟩) hP hD hS hA [] rfl (fun _ _ h9 => h9.2) (fun r4 H locs hw5 hP hD hS => ?_)
    obtain ⟨hw5, -⟩ := hw5
    refine lv_if_eq (tgt := 36) hx hb dX7_recovery_15 (by decide) (fun c6 => ?_) (fun c6 => ?_)
    · skip
      have hc6 : ¬ (0 ≤ p3 ∧ p3 ≤ 2) := bz_0 hw5 c6
      refine lv_iconst (v := (-1)) hx hb dX7_recovery_36 (by decide) ?_
      refine k_iret (u := [(oX7 x x0 x1 x2 x3 x4 x5), (oX4 x1 x0 s1 s2 (nI pn) si4 s5 s6 s7 s8 s9 s10 s11 si12 si13), (oX0 x0 b0 b1 b2 b3 b4 b5 b6 b7 b8 b9 b10 b11 (nI np) (nI nl) bi14), (oX6 s1 w0 w1 w2 w3 w4 (nI wn) wi6 (nI lv) w8), (oX2 s2 d0 d1 d2), (aIc cI b0 8 B0), (aIc cI b1 8 B1), (aIc cI b2 8 B2), (aIc cI b3 8 B3), (aIc cI b4 8 B4), (aIc cI b6 8 B6), (aIc cI b8 64 B8), (aIc cI b10 10 B10), (aIc cI b11 10 B11), (aIc cI s5 8 S5), (aIc cI s6 8 S6), (aIc cI s7 8 S7), (aIc cI s8 8 S8), (aIc cI s9 8 S9), (aIc cI s10 8 S10), (aIc cI s11 8 S11), (aIc cI w0 8 W0), (aIc cI w1 8 W1), (aIc cI w2 8 W2), (aIc cI w3 8 W3), (aIc cI w4 8 W4), (aIc cI w8 8 W8), (aIc cI d0 8 D0), (aIc cI d1 8 D1), (aJc cJ d2 8 D2), (aIc cI b5 8 B5), (oX1 x3 t0 t1 t2 t3 ti4 (nI pm) t6 ti7 t8), (aIc cI t0 8 T0), (aIc cI t6 8 T6), (aIc cI t1 9 T1), (aIc cI t2 9 T2), (aIc cI t3 9 T3), (aIc cI t8 9 T8)]) hx hb hr hlk hP hD hS dX7_recovery_37 ?_
      exact ⟨S5, S6, S7, S8, S9, S10, S11, W1, W2, W3, W4, W8, D0, D1, D2, si12, si13, wi6, lv, W0, si4, wn, pn, T0, T6, ti4, ti7, T1, T2, T3, T8, pm, (by omega), (by omega), (by first | omega | exact ev_lt hnp), hor, (by omega), rfl⟩
    · skip
      have hc6 : 0 ≤ p3 ∧ p3 ≤ 2 := bz_1 hw5 c6
      refine lv_aload_n hx hb dX7_recovery_18 rfl (lv_at hl 0 rfl) ?_
      refine va_get (D := D) (ci := 7) (v := .ref x3) (C := RX7) (T := TX7) (N := 6) hx hb hts hiX7 hown hE.1 hP 0 rfl rfl 3 (by decide) (hts _ (List.mem_cons_of_mem _ wd_27)) (fun _ h9 => h9) rfl dX7_recovery_19 ?_
      refine lv_lload_n hx hb dX7_recovery_22 rfl (lv_at hl 2 rfl) ?_
      refine lv_aload_n hx hb dX7_recovery_23 rfl (lv_at hl 0 rfl) ?_
      refine va_get (D := D) (ci := 7) (v := .ref x0) (C := RX7) (T := TX7) (N := 6) hx hb hts hiX7 hown hE.1 hP 0 rfl rfl 0 (by decide) (hts _ (List.mem_cons_of_mem _ wd_19)) (fun _ h9 => h9) rfl dX7_recovery_24 ?_
      refine va_get (D := D) (ci := 0) (v := .int (nI np)) (C := RX0) (T := TX0) (N := 15) hx hb hts hiX0 hown hE.1 hP 2 rfl rfl 12 (by decide) (hts _ (List.mem_cons_of_mem _ wd_158)) (fun _ h9 => h9) rfl dX7_recovery_27 ?_
      refine k_i (va_runV (As := [.long p1, .int (nI np)]) (rest := []) ⟨hx, hb, hml, hown, hts⟩ (m_X1_read l D cI cJ H.size x3 t0 t1 t2 t3 t6 t8 np pm ti4 ti7 p1 T6 (by omega) (by omega)) (cwV 2 hts gX7_recovery_X1_read rfl rfl rfl (by decide +kernel) ⟨Nat.le_of_ble_eq_true rfl, Nat.le_of_ble_eq_true rfl⟩) (k_preV hE hP hD [31, 33] (by decide +kernel) rfl 31 rfl rfl) rfl rfl hl.1 rfl (lv_room (Nat.le_of_ble_eq_true rfl)) dX7_recovery_30 ⟨Nat.le_of_ble_eq_true rfl, Nat.le_of_ble_eq_true rfl⟩) hP hD hS hA [31, 33] [0, 1, 2, 3, 4, 5, 6, 7, 8, 9, 10, 11, 12, 13, 14, 15, 16, 17, 18, 19, 20, 21, 22, 23, 24, 25, 26, 27, 28, 29, 30, 32, 34, 35, 36, 37] rfl (wr := [(oX7 x x0 x1 x2 x3 x4 x5), (oX4 x1 x0 s1 s2 (nI pn) si4 s5 s6 s7 s8 s9 s10 s11 si12 si13), (oX0 x0 b0 b1 b2 b3 b4 b5 b6 b7 b8 b9 b10 b11 (nI np) (nI nl) bi14), (oX6 s1 w0 w1 w2 w3 w4 (nI wn) wi6 (nI lv) w8), (oX2 s2 d0 d1 d2), (aIc cI b0 8 B0), (aIc cI b1 8 B1), (aIc cI b2 8 B2), (aIc cI b3 8 B3), (aIc cI b4 8 B4), (aIc cI b6 8 B6), (aIc cI b8 64 B8), (aIc cI b10 10 B10), (aIc cI b11 10 B11), (aIc cI s5 8 S5), (aIc cI s6 8 S6), (aIc cI s7 8 S7), (aIc cI s8 8 S8), (aIc cI s9 8 S9), (aIc cI s10 8 S10), (aIc cI s11 8 S11), (aIc cI w0 8 W0), (aIc cI w1 8 W1), (aIc cI w2 8 W2), (aIc cI w3 8 W3), (aIc cI w4 8 W4), (aIc cI w8 8 W8), (aIc cI d0 8 D0), (aIc cI d1 8 D1), (aJc cJ d2 8 D2), (aIc cI b5 8 B5), (aIc cI t0 8 T0), (aIc cI t1 9 T1), (aIc cI t2 9 T2), (aIc cI t3 9 T3), (aIc cI t8 9 T8)]) rfl (by decide +kernel) (by decide +kernel) (fun r7 u H locs hw8 hP hD hS => ?_)
      obtain ⟨z9, z10, hz11, hz12, rfl⟩ := hw8
      refine k_re (w := [(oX7 x x0 x1 x2 x3 x4 x5), (oX4 x1 x0 s1 s2 (nI pn) si4 s5 s6 s7 s8 s9 s10 s11 si12 si13), (oX0 x0 b0 b1 b2 b3 b4 b5 b6 b7 b8 b9 b10 b11 (nI np) (nI nl) bi14), (oX6 s1 w0 w1 w2 w3 w4 (nI wn) wi6 (nI lv) w8), (oX2 s2 d0 d1 d2), (aIc cI b0 8 B0), (aIc cI b1 8 B1), (aIc cI b2 8 B2), (aIc cI b3 8 B3), (aIc cI b4 8 B4), (aIc cI b6 8 B6), (aIc cI b8 64 B8), (aIc cI b10 10 B10), (aIc cI b11 10 B11), (aIc cI s5 8 S5), (aIc cI s6 8 S6), (aIc cI s7 8 S7), (aIc cI s8 8 S8), (aIc cI s9 8 S9), (aIc cI s10 8 S10), (aIc cI s11 8 S11), (aIc cI w0 8 W0), (aIc cI w1 8 W1), (aIc cI w2 8 W2), (aIc cI w3 8 W3), (aIc cI w4 8 W4), (aIc cI w8 8 W8), (aIc cI d0 8 D0), (aIc cI d1 8 D1), (aJc cJ d2 8 D2), (aIc cI b5 8 B5), (aIc cI t0 8 T0), (aIc cI t1 9 T1), (aIc cI t2 9 T2), (aIc cI t3 9 T3), (aIc cI t8 9 T8), (oX1 x3 t0 t1 t2 t3 ti4 (nI pm) t6 z10 t8), (aIc cI t6 8 z9)]) hP hD (fun hP hD => ?_)
      refine lv_if_ne (tgt := 38) hx hb dX7_recovery_33 (by decide) (fun c13 => ?_) (fun c13 => ?_)
      · skip
        obtain ⟨lj, hlj, elj⟩ := wi_n (by omega) hc3
        rw [elj] at hl
        refine lv_aload_n hx hb dX7_recovery_38 rfl (lv_at hl 0 rfl) ?_
        refine lv_iload_n hx hb dX7_recovery_39 rfl (lv_at hl 1 rfl) ?_
        refine k_v (va_runV (As := [.int (nI lj)]) (rest := []) ⟨hx, hb, hml, hown, hts⟩ (m_X7_settle l D cI cJ H.size x x0 x1 x2 x3 x4 x5 s1 s2 s5 s6 s7 s8 s9 s10 s11 b0 b1 b2 b3 b4 b5 b6 b7 b8 b9 b10 b11 w0 w1 w2 w3 w4 w8 d0 d1 d2 wn lv np nl pn si4 si12 si13 bi14 wi6 (nI lj) B0 B1 B2 B3 B4 B6 B8 B10 B11 S5 S6 S7 S8 S9 S10 S11 W0 W1 W2 W3 W4 W8 D0 D1 D2 B5 (by omega) (by omega) (by omega) (by omega) (by omega) (by omega)) (cwV 1 hts gX7_recovery_X7_settle rfl rfl rfl (by decide +kernel) ⟨Nat.le_of_ble_eq_true rfl, Nat.le_of_ble_eq_true rfl⟩) (k_preV hE hP hD [0, 1, 2, 3, 4, 5, 6, 7, 8, 9, 10, 11, 12, 13, 14, 15, 16, 17, 18, 19, 20, 21, 22, 23, 24, 25, 26, 27, 28, 29, 30] (by decide +kernel) rfl 0 rfl rfl) rfl rfl hl.1 rfl (lv_room (Nat.le_of_ble_eq_true rfl)) dX7_recovery_40 ⟨Nat.le_of_ble_eq_true rfl, Nat.le_of_ble_eq_true rfl⟩) hP hD hS hA [0, 1, 2, 3, 4, 5, 6, 7, 8, 9, 10, 11, 12, 13, 14, 15, 16, 17, 18, 19, 20, 21, 22, 23, 24, 25, 26, 27, 28, 29, 30] [31, 32, 33, 34, 35, 36, 37] rfl (wr := [(aIc cI t0 8 T0), (aIc cI t1 9 T1), (aIc cI t2 9 T2), (aIc cI t3 9 T3), (aIc cI t8 9 T8), (oX1 x3 t0 t1 t2 t3 ti4 (nI pm) t6 z10 t8), (aIc cI t6 8 z9)]) rfl (by decide +kernel) (by decide +kernel) (fun u H locs hw14 hP hD hS => ?_)
        obtain ⟨z15, z16, z17, z18, z19, z20, z21, z22, z23, z24, z25, z26, z27, z28, z29, z30, z31, z32, z33, z34, z35, z36, z37, hz38, hz39, hz40, rfl⟩ := hw14
        refine k_re (w := [(aIc cI t0 8 T0), (aIc cI t1 9 T1), (aIc cI t2 9 T2), (aIc cI t3 9 T3), (aIc cI t8 9 T8), (oX1 x3 t0 t1 t2 t3 ti4 (nI pm) t6 z10 t8), (aIc cI t6 8 z9), (oX7 x x0 x1 x2 x3 x4 x5), (oX4 x1 x0 s1 s2 (nI z37) z35 s5 s6 s7 s8 s9 s10 s11 z30 z31), (oX0 x0 b0 b1 b2 b3 b4 b5 b6 b7 b8 b9 b10 b11 (nI np) (nI nl) bi14), (oX6 s1 w0 w1 w2 w3 w4 (nI z36) z32 (nI z33) w8), (oX2 s2 d0 d1 d2), (aIc cI b0 8 B0), (aIc cI b1 8 B1), (aIc cI b2 8 B2), (aIc cI b3 8 B3), (aIc cI b4 8 B4), (aIc cI b6 8 B6), (aIc cI b8 64 B8), (aIc cI b10 10 B10), (aIc cI b11 10 B11), (aIc cI s5 8 z15), (aIc cI s6 8 z16), (aIc cI s7 8 z17), (aIc cI s8 8 z18), (aIc cI s9 8 z19), (aIc cI s10 8 z20), (aIc cI s11 8 z21), (aIc cI w0 8 z34), (aIc cI w1 8 z22), (aIc cI w2 8 z23), (aIc cI w3 8 z24), (aIc cI w4 8 z25), (aIc cI w8 8 z26), (aIc cI d0 8 z27), (aIc cI d1 8 z28), (aJc cJ d2 8 z29), (aIc cI b5 8 B5)]) hP hD (fun hP hD => ?_)
        refine lv_aload_n hx hb dX7_recovery_43 rfl (lv_at hl 0 rfl) ?_
        refine va_get (D := D) (ci := 7) (v := .ref x3) (C := RX7) (T := TX7) (N := 6) hx hb hts hiX7 hown hE.1 hP 7 rfl rfl 3 (by decide) (hts _ (List.mem_cons_of_mem _ wd_27)) (fun _ h9 => h9) rfl dX7_recovery_44 ?_
        refine lv_aload_n hx hb dX7_recovery_47 rfl (lv_at hl 0 rfl) ?_
        refine va_get (D := D) (ci := 7) (v := .ref x1) (C := RX7) (T := TX7) (N := 6) hx hb hts hiX7 hown hE.1 hP 7 rfl rfl 1 (by decide) (hts _ (List.mem_cons_of_mem _ wd_17)) (fun _ h9 => h9) rfl dX7_recovery_48 ?_
        refine k_v (va_runV (As := [.ref x1]) (rest := []) ⟨hx, hb, hml, hown, hts⟩ (m_X1_pay l D cI cJ H.size x3 t0 t1 t2 t3 t6 t8 x1 x0 s1 s2 s5 s6 s7 s8 s9 s10 s11 b0 b1 b2 b3 b4 b5 b6 b7 b8 b9 b10 b11 pm np nl z37 ti4 z10 z35 z30 z31 bi14 T0 z9 B5 z18 z20 hz12) (cwV 1 hts gX7_recovery_X1_pay rfl rfl rfl (by decide +kernel) ⟨Nat.le_of_ble_eq_true rfl, Nat.le_of_ble_eq_true rfl⟩) (k_preV hE hP hD [5, 0, 6, 8, 9, 37, 24, 26] (by decide +kernel) rfl 5 rfl rfl) rfl rfl hl.1 rfl (lv_room (Nat.le_of_ble_eq_true rfl)) dX7_recovery_51 ⟨Nat.le_of_ble_eq_true rfl, Nat.le_of_ble_eq_true rfl⟩) hP hD hS hA [5, 0, 6, 8, 9, 37, 24, 26] [1, 2, 3, 4, 7, 10, 11, 12, 13, 14, 15, 16, 17, 18, 19, 20, 21, 22, 23, 25, 27, 28, 29, 30, 31, 32, 33, 34, 35, 36] rfl (wr := [(aIc cI t1 9 T1), (aIc cI t2 9 T2), (aIc cI t3 9 T3), (aIc cI t8 9 T8), (oX7 x x0 x1 x2 x3 x4 x5), (oX6 s1 w0 w1 w2 w3 w4 (nI z36) z32 (nI z33) w8), (oX2 s2 d0 d1 d2), (aIc cI b0 8 B0), (aIc cI b1 8 B1), (aIc cI b2 8 B2), (aIc cI b3 8 B3), (aIc cI b4 8 B4), (aIc cI b6 8 B6), (aIc cI b8 64 B8), (aIc cI b10 10 B10), (aIc cI b11 10 B11), (aIc cI s5 8 z15), (aIc cI s6 8 z16), (aIc cI s7 8 z17), (aIc cI s9 8 z19), (aIc cI s11 8 z21), (aIc cI w0 8 z34), (aIc cI w1 8 z22), (aIc cI w2 8 z23), (aIc cI w3 8 z24), (aIc cI w4 8 z25), (aIc cI w8 8 z26), (aIc cI d0 8 z27), (aIc cI d1 8 z28), (aJc cJ d2 8 z29)]) rfl (by decide +kernel) (by decide +kernel) (fun u H locs hw41 hP hD hS => ?_)
        obtain ⟨z42, z43, rfl⟩ := hw41
        refine k_re (w := [(aIc cI t1 9 T1), (aIc cI t2 9 T2), (aIc cI t3 9 T3), (aIc cI t8 9 T8), (oX7 x x0 x1 x2 x3 x4 x5), (oX6 s1 w0 w1 w2 w3 w4 (nI z36) z32 (nI z33) w8), (oX2 s2 d0 d1 d2), (aIc cI b0 8 B0), (aIc cI b1 8 B1), (aIc cI b2 8 B2), (aIc cI b3 8 B3), (aIc cI b4 8 B4), (aIc cI b6 8 B6), (aIc cI b8 64 B8), (aIc cI b10 10 B10), (aIc cI b11 10 B11), (aIc cI s5 8 z15), (aIc cI s6 8 z16), (aIc cI s7 8 z17), (aIc cI s9 8 z19), (aIc cI s11 8 z21), (aIc cI w0 8 z34), (aIc cI w1 8 z22), (aIc cI w2 8 z23), (aIc cI w3 8 z24), (aIc cI w4 8 z25), (aIc cI w8 8 z26), (aIc cI d0 8 z27), (aIc cI d1 8 z28), (aJc cJ d2 8 z29), (oX1 x3 t0 t1 t2 t3 z43 (nI pm) t6 z10 t8), (aIc cI t0 8 z42), (aIc cI t6 8 z9), (oX4 x1 x0 s1 s2 (nI z37) z35 s5 s6 s7 s8 s9 s10 s11 z30 z31), (oX0 x0 b0 b1 b2 b3 b4 b5 b6 b7 b8 b9 b10 b11 (nI np) (nI nl) bi14), (aIc cI b5 8 B5), (aIc cI s8 8 z18), (aIc cI s10 8 z20)]) hP hD (fun hP hD => ?_)
        refine lv_aload_n hx hb dX7_recovery_54 rfl (lv_at hl 0 rfl) ?_
        refine va_get (D := D) (ci := 7) (v := .ref x3) (C := RX7) (T := TX7) (N := 6) hx hb hts hiX7 hown hE.1 hP 4 rfl rfl 3 (by decide) (hts _ (List.mem_cons_of_mem _ wd_27)) (fun _ h9 => h9) rfl dX7_recovery_55 ?_
        refine lv_aload_n hx hb dX7_recovery_58 rfl (lv_at hl 0 rfl) ?_
        refine va_get (D := D) (ci := 7) (v := .ref x1) (C := RX7) (T := TX7) (N := 6) hx hb hts hiX7 hown hE.1 hP 4 rfl rfl 1 (by decide) (hts _ (List.mem_cons_of_mem _ wd_17)) (fun _ h9 => h9) rfl dX7_recovery_59 ?_
        refine va_get (D := D) (ci := 4) (v := .ref s10) (C := RX4) (T := TX4) (N := 14) hx hb hts hiX4 hown hE.1 hP 33 rfl rfl 10 (by decide) (hts _ (List.mem_cons_of_mem _ wd_583)) (fun _ h9 => h9) rfl dX7_recovery_62 ?_
        refine lv_aload_n hx hb dX7_recovery_65 rfl (lv_at hl 0 rfl) ?_
        refine va_get (D := D) (ci := 7) (v := .ref x1) (C := RX7) (T := TX7) (N := 6) hx hb hts hiX7 hown hE.1 hP 4 rfl rfl 1 (by decide) (hts _ (List.mem_cons_of_mem _ wd_17)) (fun _ h9 => h9) rfl dX7_recovery_66 ?_
        refine va_get (D := D) (ci := 4) (v := .int z30) (C := RX4) (T := TX4) (N := 14) hx hb hts hiX4 hown hE.1 hP 33 rfl rfl 12 (by decide) (hts _ (List.mem_cons_of_mem _ wd_515)) (fun _ h9 => h9) rfl dX7_recovery_69 ?_
        refine k_v (va_runV (As := [.ref s10, .int z30]) (rest := []) ⟨hx, hb, hml, hown, hts⟩ (m_X1_recover l D cI cJ H.size x3 t0 t1 t2 t3 t6 t8 s10 pm z43 z10 z30 T1 T2 T3 T8 z42 z20) (cwV 2 hts gX7_recovery_X1_recover rfl rfl rfl (by decide +kernel) ⟨Nat.le_of_ble_eq_true rfl, Nat.le_of_ble_eq_true rfl⟩) (k_preV hE hP hD [30, 0, 1, 2, 3, 31, 37] (by decide +kernel) rfl 30 rfl rfl) rfl rfl hl.1 rfl (lv_room (Nat.le_of_ble_eq_true rfl)) dX7_recovery_72 ⟨Nat.le_of_ble_eq_true rfl, Nat.le_of_ble_eq_true rfl⟩) hP hD hS hA [30, 0, 1, 2, 3, 31, 37] [4, 5, 6, 7, 8, 9, 10, 11, 12, 13, 14, 15, 16, 17, 18, 19, 20, 21, 22, 23, 24, 25, 26, 27, 28, 29, 32, 33, 34, 35, 36] rfl (wr := [(oX7 x x0 x1 x2 x3 x4 x5), (oX6 s1 w0 w1 w2 w3 w4 (nI z36) z32 (nI z33) w8), (oX2 s2 d0 d1 d2), (aIc cI b0 8 B0), (aIc cI b1 8 B1), (aIc cI b2 8 B2), (aIc cI b3 8 B3), (aIc cI b4 8 B4), (aIc cI b6 8 B6), (aIc cI b8 64 B8), (aIc cI b10 10 B10), (aIc cI b11 10 B11), (aIc cI s5 8 z15), (aIc cI s6 8 z16), (aIc cI s7 8 z17), (aIc cI s9 8 z19), (aIc cI s11 8 z21), (aIc cI w0 8 z34), (aIc cI w1 8 z22), (aIc cI w2 8 z23), (aIc cI w3 8 z24), (aIc cI w4 8 z25), (aIc cI w8 8 z26), (aIc cI d0 8 z27), (aIc cI d1 8 z28), (aJc cJ d2 8 z29), (aIc cI t6 8 z9), (oX4 x1 x0 s1 s2 (nI z37) z35 s5 s6 s7 s8 s9 s10 s11 z30 z31), (oX0 x0 b0 b1 b2 b3 b4 b5 b6 b7 b8 b9 b10 b11 (nI np) (nI nl) bi14), (aIc cI b5 8 B5), (aIc cI s8 8 z18)]) rfl (by decide +kernel) (by decide +kernel) (fun u H locs hw44 hP hD hS => ?_)
        obtain ⟨z45, z46, z47, z48, z49, hz50, rfl⟩ := hw44
        refine k_re (w := [(oX7 x x0 x1 x2 x3 x4 x5), (oX6 s1 w0 w1 w2 w3 w4 (nI z36) z32 (nI z33) w8), (oX2 s2 d0 d1 d2), (aIc cI b0 8 B0), (aIc cI b1 8 B1), (aIc cI b2 8 B2), (aIc cI b3 8 B3), (aIc cI b4 8 B4), (aIc cI b6 8 B6), (aIc cI b8 64 B8), (aIc cI b10 10 B10), (aIc cI b11 10 B11), (aIc cI s5 8 z15), (aIc cI s6 8 z16), (aIc cI s7 8 z17), (aIc cI s9 8 z19), (aIc cI s11 8 z21), (aIc cI w0 8 z34), (aIc cI w1 8 z22), (aIc cI w2 8 z23), (aIc cI w3 8 z24), (aIc cI w4 8 z25), (aIc cI w8 8 z26), (aIc cI d0 8 z27), (aIc cI d1 8 z28), (aJc cJ d2 8 z29), (aIc cI t6 8 z9), (oX4 x1 x0 s1 s2 (nI z37) z35 s5 s6 s7 s8 s9 s10 s11 z30 z31), (oX0 x0 b0 b1 b2 b3 b4 b5 b6 b7 b8 b9 b10 b11 (nI np) (nI nl) bi14), (aIc cI b5 8 B5), (aIc cI s8 8 z18), (oX1 x3 t0 t1 t2 t3 z43 (nI z49) t6 z10 t8), (aIc cI t1 9 z45), (aIc cI t2 9 z46), (aIc cI t3 9 z47), (aIc cI t8 9 z48), (aIc cI t0 8 z42), (aIc cI s10 8 z20)]) hP hD (fun hP hD => ?_)
        refine lv_iload hx hb dX7_recovery_75 (lv_at hl 3 rfl) ?_
        refine lv_iconst (v := (-1)) hx hb dX7_recovery_77 (by decide) ?_
        refine lv_icmp_ne (tgt := 89) hx hb dX7_recovery_78 (by decide) (fun c51 => ?_) (fun c51 => ?_)
        · skip
          refine lv_iload hx hb dX7_recovery_89 (lv_at hl 3 rfl) ?_
          refine lv_iconst (v := 0) hx hb dX7_recovery_91 (by decide) ?_
          refine lv_aload_n hx hb dX7_recovery_92 rfl (lv_at hl 0 rfl) ?_
          refine va_get (D := D) (ci := 7) (v := .ref x3) (C := RX7) (T := TX7) (N := 6) hx hb hts hiX7 hown hE.1 hP 0 rfl rfl 3 (by decide) (hts _ (List.mem_cons_of_mem _ wd_27)) (fun _ h9 => h9) rfl dX7_recovery_93 ?_
          refine va_get (D := D) (ci := 1) (v := .int (nI z49)) (C := RX1) (T := TX1) (N := 9) hx hb hts hiX1 hown hE.1 hP 31 rfl rfl 5 (by decide) (hts _ (List.mem_cons_of_mem _ wd_761)) (fun _ h9 => h9) rfl dX7_recovery_96 ?_
          refine lv_iconst (v := 1) hx hb dX7_recovery_99 (by decide) ?_
          refine lv_isub hx hb dX7_recovery_100 ?_
          refine lv_topi (fun v52 ev52 => ?_)
          refine k_iS (va_runS (As := [.int p2, .int 0, .int v52]) (rest := []) ⟨hx, hb, hml, hown, hts⟩ (m_X7_within l D cI cJ H.size p2 0 v52) (va_cwS 3 hts gX7_recovery_X7_within rfl rfl rfl (by decide +kernel) ⟨Nat.le_of_ble_eq_true rfl, Nat.le_of_ble_eq_true rfl⟩) (k_pre hE hP hD [] (by decide +kernel) rfl) rfl rfl hl.1 rfl (lv_room (Nat.le_of_ble_eq_true rfl)) dX7_recovery_101 ⟨Nat.le_of_ble_eq_true rfl, Nat.le_of_ble_eq_true rfl⟩) hP hD hS hA [] rfl (fun _ _ h9 => h9.2) (fun r53 H locs hw54 hP hD hS => ?_)
          obtain ⟨hw54, -⟩ := hw54
          refine lv_if_ne (tgt := 109) hx hb dX7_recovery_104 (by decide) (fun c55 => ?_) (fun c55 => ?_)
          · skip
            have hc55 : 0 ≤ p2 ∧ p2 ≤ v52 := bz_1 hw54 c55
            obtain ⟨kj, hkj, ekj⟩ := wi_n (n := z49) (by omega) (by rw [← ev52]; exact hc55)
            rw [ekj] at hl
            refine lv_iload hx hb dX7_recovery_109 (lv_at hl 4 rfl) ?_
            by_cases c56 : p3 = 0
            · skip
              refine lv_lookup (tgt := 136) (off := 25) hx hb dX7_recovery_111 (by decide) (by rw [c56]; rfl) (by decide) ?_
              refine lv_aload_n hx hb dX7_recovery_136 rfl (lv_at hl 0 rfl) ?_
              refine va_get (D := D) (ci := 7) (v := .ref x3) (C := RX7) (T := TX7) (N := 6) hx hb hts hiX7 hown hE.1 hP 0 rfl rfl 3 (by decide) (hts _ (List.mem_cons_of_mem _ wd_27)) (fun _ h9 => h9) rfl dX7_recovery_137 ?_
              refine va_get (D := D) (ci := 1) (v := .ref t1) (C := RX1) (T := TX1) (N := 9) hx hb hts hiX1 hown hE.1 hP 31 rfl rfl 1 (by decide) (hts _ (List.mem_cons_of_mem _ wd_762)) (fun _ h9 => h9) rfl dX7_recovery_140 ?_
              refine lv_iload hx hb dX7_recovery_143 (lv_at hl 3 rfl) ?_
              refine va_iald hx hb hE.1 hP 32 0 rfl rfl (vp_in_nI (n := kj) (by omega) (by decide)) dX7_recovery_145 ?_
              refine lv_topi (fun v57 ev57 => ?_)
              refine k_iret (u := [(oX7 x x0 x1 x2 x3 x4 x5), (oX4 x1 x0 s1 s2 (nI z37) z35 s5 s6 s7 s8 s9 s10 s11 z30 z31), (oX0 x0 b0 b1 b2 b3 b4 b5 b6 b7 b8 b9 b10 b11 (nI np) (nI nl) bi14), (oX6 s1 w0 w1 w2 w3 w4 (nI z36) z32 (nI z33) w8), (oX2 s2 d0 d1 d2), (aIc cI b0 8 B0), (aIc cI b1 8 B1), (aIc cI b2 8 B2), (aIc cI b3 8 B3), (aIc cI b4 8 B4), (aIc cI b6 8 B6), (aIc cI b8 64 B8), (aIc cI b10 10 B10), (aIc cI b11 10 B11), (aIc cI s5 8 z15), (aIc cI s6 8 z16), (aIc cI s7 8 z17), (aIc cI s8 8 z18), (aIc cI s9 8 z19), (aIc cI s10 8 z20), (aIc cI s11 8 z21), (aIc cI w0 8 z34), (aIc cI w1 8 z22), (aIc cI w2 8 z23), (aIc cI w3 8 z24), (aIc cI w4 8 z25), (aIc cI w8 8 z26), (aIc cI d0 8 z27), (aIc cI d1 8 z28), (aJc cJ d2 8 z29), (aIc cI b5 8 B5), (oX1 x3 t0 t1 t2 t3 z43 (nI z49) t6 z10 t8), (aIc cI t0 8 z42), (aIc cI t6 8 z9), (aIc cI t1 9 z45), (aIc cI t2 9 z46), (aIc cI t3 9 z47), (aIc cI t8 9 z48)]) hx hb hr hlk (k_sub hP [0, 27, 28, 1, 2, 3, 4, 5, 6, 7, 8, 9, 10, 11, 12, 13, 14, 30, 15, 37, 16, 17, 18, 19, 20, 21, 22, 23, 24, 25, 29, 31, 36, 26, 32, 33, 34, 35] rfl) (hD.sub [0, 27, 28, 1, 2, 3, 4, 5, 6, 7, 8, 9, 10, 11, 12, 13, 14, 30, 15, 37, 16, 17, 18, 19, 20, 21, 22, 23, 24, 25, 29, 31, 36, 26, 32, 33, 34, 35] (by decide +kernel) rfl) hS dX7_recovery_146 ?_
              exact ⟨z15, z16, z17, z18, z19, z20, z21, z22, z23, z24, z25, z26, z27, z28, z29, z30, z31, z32, z33, z34, z35, z36, z37, z42, z9, z43, z10, z45, z46, z47, z48, z49, (by omega), (by omega), (by first | omega | exact ev_lt hnp), hz12, (by omega), rfl⟩
            by_cases c58 : p3 = 1
            · skip
              refine lv_lookup (tgt := 147) (off := 36) hx hb dX7_recovery_111 (by decide) (by rw [c58]; rfl) (by decide) ?_
              refine lv_aload_n hx hb dX7_recovery_147 rfl (lv_at hl 0 rfl) ?_
              refine va_get (D := D) (ci := 7) (v := .ref x3) (C := RX7) (T := TX7) (N := 6) hx hb hts hiX7 hown hE.1 hP 0 rfl rfl 3 (by decide) (hts _ (List.mem_cons_of_mem _ wd_27)) (fun _ h9 => h9) rfl dX7_recovery_148 ?_
              refine va_get (D := D) (ci := 1) (v := .ref t2) (C := RX1) (T := TX1) (N := 9) hx hb hts hiX1 hown hE.1 hP 31 rfl rfl 2 (by decide) (hts _ (List.mem_cons_of_mem _ wd_763)) (fun _ h9 => h9) rfl dX7_recovery_151 ?_
              refine lv_iload hx hb dX7_recovery_154 (lv_at hl 3 rfl) ?_
              refine va_iald hx hb hE.1 hP 33 0 rfl rfl (vp_in_nI (n := kj) (by omega) (by decide)) dX7_recovery_156 ?_
              refine lv_topi (fun v59 ev59 => ?_)
              refine k_iret (u := [(oX7 x x0 x1 x2 x3 x4 x5), (oX4 x1 x0 s1 s2 (nI z37) z35 s5 s6 s7 s8 s9 s10 s11 z30 z31), (oX0 x0 b0 b1 b2 b3 b4 b5 b6 b7 b8 b9 b10 b11 (nI np) (nI nl) bi14), (oX6 s1 w0 w1 w2 w3 w4 (nI z36) z32 (nI z33) w8), (oX2 s2 d0 d1 d2), (aIc cI b0 8 B0), (aIc cI b1 8 B1), (aIc cI b2 8 B2), (aIc cI b3 8 B3), (aIc cI b4 8 B4), (aIc cI b6 8 B6), (aIc cI b8 64 B8), (aIc cI b10 10 B10), (aIc cI b11 10 B11), (aIc cI s5 8 z15), (aIc cI s6 8 z16), (aIc cI s7 8 z17), (aIc cI s8 8 z18), (aIc cI s9 8 z19), (aIc cI s10 8 z20), (aIc cI s11 8 z21), (aIc cI w0 8 z34), (aIc cI w1 8 z22), (aIc cI w2 8 z23), (aIc cI w3 8 z24), (aIc cI w4 8 z25), (aIc cI w8 8 z26), (aIc cI d0 8 z27), (aIc cI d1 8 z28), (aJc cJ d2 8 z29), (aIc cI b5 8 B5), (oX1 x3 t0 t1 t2 t3 z43 (nI z49) t6 z10 t8), (aIc cI t0 8 z42), (aIc cI t6 8 z9), (aIc cI t1 9 z45), (aIc cI t2 9 z46), (aIc cI t3 9 z47), (aIc cI t8 9 z48)]) hx hb hr hlk (k_sub hP [0, 27, 28, 1, 2, 3, 4, 5, 6, 7, 8, 9, 10, 11, 12, 13, 14, 30, 15, 37, 16, 17, 18, 19, 20, 21, 22, 23, 24, 25, 29, 31, 36, 26, 32, 33, 34, 35] rfl) (hD.sub [0, 27, 28, 1, 2, 3, 4, 5, 6, 7, 8, 9, 10, 11, 12, 13, 14, 30, 15, 37, 16, 17, 18, 19, 20, 21, 22, 23, 24, 25, 29, 31, 36, 26, 32, 33, 34, 35] (by decide +kernel) rfl) hS dX7_recovery_157 ?_
              exact ⟨z15, z16, z17, z18, z19, z20, z21, z22, z23, z24, z25, z26, z27, z28, z29, z30, z31, z32, z33, z34, z35, z36, z37, z42, z9, z43, z10, z45, z46, z47, z48, z49, (by omega), (by omega), (by first | omega | exact ev_lt hnp), hz12, (by omega), rfl⟩
            refine lv_lookup (tgt := 158) (off := 47) hx hb dX7_recovery_111 (by decide) (by show Op.lookupswitch.offset [(0, 25), (1, 36)] _ _ = _; rw [lv_osw (a := 0) c56 rfl, lv_osw (a := 1) c58 rfl]; rfl) (by decide) ?_
            refine lv_aload_n hx hb dX7_recovery_158 rfl (lv_at hl 0 rfl) ?_
            refine va_get (D := D) (ci := 7) (v := .ref x3) (C := RX7) (T := TX7) (N := 6) hx hb hts hiX7 hown hE.1 hP 0 rfl rfl 3 (by decide) (hts _ (List.mem_cons_of_mem _ wd_27)) (fun _ h9 => h9) rfl dX7_recovery_159 ?_
            refine va_get (D := D) (ci := 1) (v := .ref t3) (C := RX1) (T := TX1) (N := 9) hx hb hts hiX1 hown hE.1 hP 31 rfl rfl 3 (by decide) (hts _ (List.mem_cons_of_mem _ wd_764)) (fun _ h9 => h9) rfl dX7_recovery_162 ?_
            refine lv_iload hx hb dX7_recovery_165 (lv_at hl 3 rfl) ?_
            refine va_iald hx hb hE.1 hP 34 0 rfl rfl (vp_in_nI (n := kj) (by omega) (by decide)) dX7_recovery_167 ?_
            refine lv_topi (fun v60 ev60 => ?_)
            refine k_iret (u := [(oX7 x x0 x1 x2 x3 x4 x5), (oX4 x1 x0 s1 s2 (nI z37) z35 s5 s6 s7 s8 s9 s10 s11 z30 z31), (oX0 x0 b0 b1 b2 b3 b4 b5 b6 b7 b8 b9 b10 b11 (nI np) (nI nl) bi14), (oX6 s1 w0 w1 w2 w3 w4 (nI z36) z32 (nI z33) w8), (oX2 s2 d0 d1 d2), (aIc cI b0 8 B0), (aIc cI b1 8 B1), (aIc cI b2 8 B2), (aIc cI b3 8 B3), (aIc cI b4 8 B4), (aIc cI b6 8 B6), (aIc cI b8 64 B8), (aIc cI b10 10 B10), (aIc cI b11 10 B11), (aIc cI s5 8 z15), (aIc cI s6 8 z16), (aIc cI s7 8 z17), (aIc cI s8 8 z18), (aIc cI s9 8 z19), (aIc cI s10 8 z20), (aIc cI s11 8 z21), (aIc cI w0 8 z34), (aIc cI w1 8 z22), (aIc cI w2 8 z23), (aIc cI w3 8 z24), (aIc cI w4 8 z25), (aIc cI w8 8 z26), (aIc cI d0 8 z27), (aIc cI d1 8 z28), (aJc cJ d2 8 z29), (aIc cI b5 8 B5), (oX1 x3 t0 t1 t2 t3 z43 (nI z49) t6 z10 t8), (aIc cI t0 8 z42), (aIc cI t6 8 z9), (aIc cI t1 9 z45), (aIc cI t2 9 z46), (aIc cI t3 9 z47), (aIc cI t8 9 z48)]) hx hb hr hlk (k_sub hP [0, 27, 28, 1, 2, 3, 4, 5, 6, 7, 8, 9, 10, 11, 12, 13, 14, 30, 15, 37, 16, 17, 18, 19, 20, 21, 22, 23, 24, 25, 29, 31, 36, 26, 32, 33, 34, 35] rfl) (hD.sub [0, 27, 28, 1, 2, 3, 4, 5, 6, 7, 8, 9, 10, 11, 12, 13, 14, 30, 15, 37, 16, 17, 18, 19, 20, 21, 22, 23, 24, 25, 29, 31, 36, 26, 32, 33, 34, 35] (by decide +kernel) rfl) hS dX7_recovery_168 ?_
            exact ⟨z15, z16, z17, z18, z19, z20, z21, z22, z23, z24, z25, z26, z27, z28, z29, z30, z31, z32, z33, z34, z35, z36, z37, z42, z9, z43, z10, z45, z46, z47, z48, z49, (by omega), (by omega), (by first | omega | exact ev_lt hnp), hz12, (by omega), rfl⟩
          · skip
            have hc55 : ¬ (0 ≤ p2 ∧ p2 ≤ v52) := bz_0 hw54 c55
            refine lv_iconst (v := (-1)) hx hb dX7_recovery_107 (by decide) ?_
            refine k_iret (u := [(oX7 x x0 x1 x2 x3 x4 x5), (oX4 x1 x0 s1 s2 (nI z37) z35 s5 s6 s7 s8 s9 s10 s11 z30 z31), (oX0 x0 b0 b1 b2 b3 b4 b5 b6 b7 b8 b9 b10 b11 (nI np) (nI nl) bi14), (oX6 s1 w0 w1 w2 w3 w4 (nI z36) z32 (nI z33) w8), (oX2 s2 d0 d1 d2), (aIc cI b0 8 B0), (aIc cI b1 8 B1), (aIc cI b2 8 B2), (aIc cI b3 8 B3), (aIc cI b4 8 B4), (aIc cI b6 8 B6), (aIc cI b8 64 B8), (aIc cI b10 10 B10), (aIc cI b11 10 B11), (aIc cI s5 8 z15), (aIc cI s6 8 z16), (aIc cI s7 8 z17), (aIc cI s8 8 z18), (aIc cI s9 8 z19), (aIc cI s10 8 z20), (aIc cI s11 8 z21), (aIc cI w0 8 z34), (aIc cI w1 8 z22), (aIc cI w2 8 z23), (aIc cI w3 8 z24), (aIc cI w4 8 z25), (aIc cI w8 8 z26), (aIc cI d0 8 z27), (aIc cI d1 8 z28), (aJc cJ d2 8 z29), (aIc cI b5 8 B5), (oX1 x3 t0 t1 t2 t3 z43 (nI z49) t6 z10 t8), (aIc cI t0 8 z42), (aIc cI t6 8 z9), (aIc cI t1 9 z45), (aIc cI t2 9 z46), (aIc cI t3 9 z47), (aIc cI t8 9 z48)]) hx hb hr hlk (k_sub hP [0, 27, 28, 1, 2, 3, 4, 5, 6, 7, 8, 9, 10, 11, 12, 13, 14, 30, 15, 37, 16, 17, 18, 19, 20, 21, 22, 23, 24, 25, 29, 31, 36, 26, 32, 33, 34, 35] rfl) (hD.sub [0, 27, 28, 1, 2, 3, 4, 5, 6, 7, 8, 9, 10, 11, 12, 13, 14, 30, 15, 37, 16, 17, 18, 19, 20, 21, 22, 23, 24, 25, 29, 31, 36, 26, 32, 33, 34, 35] (by decide +kernel) rfl) hS dX7_recovery_108 ?_
            exact ⟨z15, z16, z17, z18, z19, z20, z21, z22, z23, z24, z25, z26, z27, z28, z29, z30, z31, z32, z33, z34, z35, z36, z37, z42, z9, z43, z10, z45, z46, z47, z48, z49, (by omega), (by omega), (by first | omega | exact ev_lt hnp), hz12, (by omega), rfl⟩
        · skip
          refine lv_aload_n hx hb dX7_recovery_81 rfl (lv_at hl 0 rfl) ?_
          refine va_get (D := D) (ci := 7) (v := .ref x3) (C := RX7) (T := TX7) (N := 6) hx hb hts hiX7 hown hE.1 hP 0 rfl rfl 3 (by decide) (hts _ (List.mem_cons_of_mem _ wd_27)) (fun _ h9 => h9) rfl dX7_recovery_82 ?_
          refine va_get (D := D) (ci := 1) (v := .int (nI z49)) (C := RX1) (T := TX1) (N := 9) hx hb hts hiX1 hown hE.1 hP 31 rfl rfl 5 (by decide) (hts _ (List.mem_cons_of_mem _ wd_761)) (fun _ h9 => h9) rfl dX7_recovery_85 ?_
          refine k_iret (u := [(oX7 x x0 x1 x2 x3 x4 x5), (oX4 x1 x0 s1 s2 (nI z37) z35 s5 s6 s7 s8 s9 s10 s11 z30 z31), (oX0 x0 b0 b1 b2 b3 b4 b5 b6 b7 b8 b9 b10 b11 (nI np) (nI nl) bi14), (oX6 s1 w0 w1 w2 w3 w4 (nI z36) z32 (nI z33) w8), (oX2 s2 d0 d1 d2), (aIc cI b0 8 B0), (aIc cI b1 8 B1), (aIc cI b2 8 B2), (aIc cI b3 8 B3), (aIc cI b4 8 B4), (aIc cI b6 8 B6), (aIc cI b8 64 B8), (aIc cI b10 10 B10), (aIc cI b11 10 B11), (aIc cI s5 8 z15), (aIc cI s6 8 z16), (aIc cI s7 8 z17), (aIc cI s8 8 z18), (aIc cI s9 8 z19), (aIc cI s10 8 z20), (aIc cI s11 8 z21), (aIc cI w0 8 z34), (aIc cI w1 8 z22), (aIc cI w2 8 z23), (aIc cI w3 8 z24), (aIc cI w4 8 z25), (aIc cI w8 8 z26), (aIc cI d0 8 z27), (aIc cI d1 8 z28), (aJc cJ d2 8 z29), (aIc cI b5 8 B5), (oX1 x3 t0 t1 t2 t3 z43 (nI z49) t6 z10 t8), (aIc cI t0 8 z42), (aIc cI t6 8 z9), (aIc cI t1 9 z45), (aIc cI t2 9 z46), (aIc cI t3 9 z47), (aIc cI t8 9 z48)]) hx hb hr hlk (k_sub hP [0, 27, 28, 1, 2, 3, 4, 5, 6, 7, 8, 9, 10, 11, 12, 13, 14, 30, 15, 37, 16, 17, 18, 19, 20, 21, 22, 23, 24, 25, 29, 31, 36, 26, 32, 33, 34, 35] rfl) (hD.sub [0, 27, 28, 1, 2, 3, 4, 5, 6, 7, 8, 9, 10, 11, 12, 13, 14, 30, 15, 37, 16, 17, 18, 19, 20, 21, 22, 23, 24, 25, 29, 31, 36, 26, 32, 33, 34, 35] (by decide +kernel) rfl) hS dX7_recovery_88 ?_
          exact ⟨z15, z16, z17, z18, z19, z20, z21, z22, z23, z24, z25, z26, z27, z28, z29, z30, z31, z32, z33, z34, z35, z36, z37, z42, z9, z43, z10, z45, z46, z47, z48, z49, (by omega), (by omega), (by first | omega | exact ev_lt hnp), hz12, (by omega), rfl⟩
      · skip
        refine lv_iconst (v := (-1)) hx hb dX7_recovery_36 (by decide) ?_
        refine k_iret (u := [(oX7 x x0 x1 x2 x3 x4 x5), (oX4 x1 x0 s1 s2 (nI pn) si4 s5 s6 s7 s8 s9 s10 s11 si12 si13), (oX0 x0 b0 b1 b2 b3 b4 b5 b6 b7 b8 b9 b10 b11 (nI np) (nI nl) bi14), (oX6 s1 w0 w1 w2 w3 w4 (nI wn) wi6 (nI lv) w8), (oX2 s2 d0 d1 d2), (aIc cI b0 8 B0), (aIc cI b1 8 B1), (aIc cI b2 8 B2), (aIc cI b3 8 B3), (aIc cI b4 8 B4), (aIc cI b6 8 B6), (aIc cI b8 64 B8), (aIc cI b10 10 B10), (aIc cI b11 10 B11), (aIc cI s5 8 S5), (aIc cI s6 8 S6), (aIc cI s7 8 S7), (aIc cI s8 8 S8), (aIc cI s9 8 S9), (aIc cI s10 8 S10), (aIc cI s11 8 S11), (aIc cI w0 8 W0), (aIc cI w1 8 W1), (aIc cI w2 8 W2), (aIc cI w3 8 W3), (aIc cI w4 8 W4), (aIc cI w8 8 W8), (aIc cI d0 8 D0), (aIc cI d1 8 D1), (aJc cJ d2 8 D2), (aIc cI b5 8 B5), (oX1 x3 t0 t1 t2 t3 ti4 (nI pm) t6 z10 t8), (aIc cI t0 8 T0), (aIc cI t6 8 z9), (aIc cI t1 9 T1), (aIc cI t2 9 T2), (aIc cI t3 9 T3), (aIc cI t8 9 T8)]) hx hb hr hlk (k_sub hP [0, 1, 2, 3, 4, 5, 6, 7, 8, 9, 10, 11, 12, 13, 14, 15, 16, 17, 18, 19, 20, 21, 22, 23, 24, 25, 26, 27, 28, 29, 30, 36, 31, 37, 32, 33, 34, 35] rfl) (hD.sub [0, 1, 2, 3, 4, 5, 6, 7, 8, 9, 10, 11, 12, 13, 14, 15, 16, 17, 18, 19, 20, 21, 22, 23, 24, 25, 26, 27, 28, 29, 30, 36, 31, 37, 32, 33, 34, 35] (by decide +kernel) rfl) hS dX7_recovery_37 ?_
        exact ⟨S5, S6, S7, S8, S9, S10, S11, W1, W2, W3, W4, W8, D0, D1, D2, si12, si13, wi6, lv, W0, si4, wn, pn, T0, z9, ti4, z10, T1, T2, T3, T8, pm, (by omega), (by omega), (by first | omega | exact ev_lt hnp), hz12, (by omega), rfl⟩

