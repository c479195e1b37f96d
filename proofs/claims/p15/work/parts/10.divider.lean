theorem dX2_clear_0 : decode cX2_clear 0 = .ok (.aload_n 0, 1) := by decide +kernel
theorem dX2_clear_1 : decode cX2_clear 1 = .ok (.getfield 9, 3) := by decide +kernel
theorem dX2_clear_4 : decode cX2_clear 4 = .ok (.iconst 0, 1) := by decide +kernel
theorem dX2_clear_5 : decode cX2_clear 5 = .ok (.invokestatic 22, 3) := by decide +kernel
theorem dX2_clear_8 : decode cX2_clear 8 = .ok (.return_, 1) := by decide +kernel
theorem gX2_clear_J7_fill_53178 : GoodIn wtX2_clear (va_wsS RX2 22 yJ7_fill_53178 wtJ7_fill_53178) := tb_good (tb_s0 wd_363 wd_73 wd_74 wd_75)
set_option maxHeartbeats 4000000 in
set_option maxRecDepth 100000 in
theorem m_X2_clear (l : Launch) (D : va_G) (cI cJ : ClassId) (sz : Nat) (s2 d0 d1 d2 : Nat) (D0 : Nat → Int32) : Met l yX2_clear wtX2_clear { frames := 1, cells := 0, slots := 0, locals := 23 } (cPc D cI cJ [.ref s2] sz [(oX2 s2 d0 d1 d2), (aIc cI d0 8 D0)]) (cQv D (fun u => ∃ (D0p : Nat → Int32), u = [(oX2 s2 d0 d1 d2), (aIc cI d0 8 D0p)]) (va_A [(oX2 s2 d0 d1 d2), (aIc cI d0 8 D0)] sz)) 0 0 (va_A [(oX2 s2 d0 d1 d2), (aIc cI d0 8 D0)] sz) := by
  refine k_ofW (Qc := cQv D (fun u => ∃ (D0p : Nat → Int32), u = [(oX2 s2 d0 d1 d2), (aIc cI d0 8 D0p)])) (by decide) rfl (Nat.le_of_ble_eq_true rfl) ?_
  intro p e s m below meth c A ls hx hb hr hml hts hown hlk hnm hsz hE hP hD hS hA hl
  have hown : s.vm.findClass RX2 = some m.cls := hown
  have hiX2 : ∀ w ∈ u_ws RX2 TX2 3, w ∈ wtX2_clear := fun w h => List.mem_cons_of_mem _ (iuX2 w h)
  have hl : lv_has ls 1 [(0, .ref s2)] := hl
  refine lv_aload_n hx hb dX2_clear_0 rfl (lv_at hl 0 rfl) ?_
  refine va_get (D := D) (ci := 2) (v := .ref d0) (C := RX2) (T := TX2) (N := 3) hx hb hts hiX2 hown hE.1 hP 0 rfl rfl 0 (by decide) (hts _ (List.mem_cons_of_mem _ wd_88)) (fun _ h9 => h9) rfl dX2_clear_1 ?_
  refine lv_iconst (v := 0) hx hb dX2_clear_4 (by decide) ?_
  refine k_v (va_runS (As := [.ref d0, .int 0]) (rest := []) ⟨hx, hb, hml, hown, hts⟩ (m_J7_fill l D cI cJ (s.heap).size d0 0 8 D0 (by decide)) (va_cwS 2 hts gX2_clear_J7_fill_53178 rfl rfl rfl (by decide +kernel) ⟨Nat.le_of_ble_eq_true rfl, Nat.le_of_ble_eq_true rfl⟩) (k_pre hE hP hD [1] (by decide +kernel) rfl) rfl rfl hl.1 rfl (lv_room (Nat.le_of_ble_eq_true rfl)) dX2_clear_5 ⟨Nat.le_of_ble_eq_true rfl, Nat.le_of_ble_eq_true rfl⟩) hP hD hS hA [1] [0] rfl (wr := [(oX2 s2 d0 d1 d2)]) rfl (by decide +kernel) (by decide +kernel) (fun u H locs hw1 hP hD hS => ?_)
  subst hw1
  refine k_re (w := [(oX2 s2 d0 d1 d2), (aIc cI d0 8 (fl 8 0 D0))]) hP hD (fun hP hD => ?_)
  refine k_vret (u := [(oX2 s2 d0 d1 d2), (aIc cI d0 8 (fl 8 0 D0))]) hx hb hr hlk hP hD hS dX2_clear_8 ?_
  exact ⟨(fl 8 0 D0), rfl⟩
theorem dX2_capsTogether_0 : decode cX2_capsTogether 0 = .ok (.iconst 0, 1) := by decide +kernel
theorem dX2_capsTogether_1 : decode cX2_capsTogether 1 = .ok (.istore_n 1, 1) := by decide +kernel
theorem dX2_capsTogether_2 : decode cX2_capsTogether 2 = .ok (.iconst 0, 1) := by decide +kernel
theorem dX2_capsTogether_3 : decode cX2_capsTogether 3 = .ok (.istore_n 2, 1) := by decide +kernel
theorem dX2_capsTogether_4 : decode cX2_capsTogether 4 = .ok (.iload_n 2, 1) := by decide +kernel
theorem dX2_capsTogether_5 : decode cX2_capsTogether 5 = .ok (.bipush 8, 2) := by decide +kernel
theorem dX2_capsTogether_7 : decode cX2_capsTogether 7 = .ok (.if_icmp .ge 18, 3) := by decide +kernel
theorem dX2_capsTogether_10 : decode cX2_capsTogether 10 = .ok (.iload_n 1, 1) := by decide +kernel
theorem dX2_capsTogether_11 : decode cX2_capsTogether 11 = .ok (.aload_n 0, 1) := by decide +kernel
theorem dX2_capsTogether_12 : decode cX2_capsTogether 12 = .ok (.getfield 9, 3) := by decide +kernel
theorem dX2_capsTogether_15 : decode cX2_capsTogether 15 = .ok (.iload_n 2, 1) := by decide +kernel
theorem dX2_capsTogether_16 : decode cX2_capsTogether 16 = .ok (.iaload, 1) := by decide +kernel
theorem dX2_capsTogether_17 : decode cX2_capsTogether 17 = .ok (.iadd, 1) := by decide +kernel
theorem dX2_capsTogether_18 : decode cX2_capsTogether 18 = .ok (.istore_n 1, 1) := by decide +kernel
theorem dX2_capsTogether_19 : decode cX2_capsTogether 19 = .ok (.iinc 2 1, 3) := by decide +kernel
theorem dX2_capsTogether_22 : decode cX2_capsTogether 22 = .ok (.goto (-18), 3) := by decide +kernel
theorem dX2_capsTogether_25 : decode cX2_capsTogether 25 = .ok (.iload_n 1, 1) := by decide +kernel
theorem dX2_capsTogether_26 : decode cX2_capsTogether 26 = .ok (.ireturn, 1) := by decide +kernel
set_option maxHeartbeats 4000000 in
set_option maxRecDepth 100000 in
theorem m_X2_capsTogether (l : Launch) (D : va_G) (cI cJ : ClassId) (sz : Nat) (s2 d0 d1 d2 : Nat) (D0 : Nat → Int32) : Met l yX2_capsTogether wtX2_capsTogether { frames := 0, cells := 0, slots := 0, locals := 0 } (cPc D cI cJ [.ref s2] sz [(oX2 s2 d0 d1 d2), (aIc cI d0 8 D0)]) (cQi D (fun r u => u = [(oX2 s2 d0 d1 d2), (aIc cI d0 8 D0)]) (va_A [(oX2 s2 d0 d1 d2), (aIc cI d0 8 D0)] sz)) 0 0 (va_A [(oX2 s2 d0 d1 d2), (aIc cI d0 8 D0)] sz) := by
  refine k_ofW (Qc := cQi D (fun r u => u = [(oX2 s2 d0 d1 d2), (aIc cI d0 8 D0)])) (by decide) rfl (Nat.le_of_ble_eq_true rfl) ?_
  intro p e s m below meth c A ls hx hb hr hml hts hown hlk hnm hsz hE hP hD hS hA hl
  have hown : s.vm.findClass RX2 = some m.cls := hown
  have hiX2 : ∀ w ∈ u_ws RX2 TX2 3, w ∈ wtX2_capsTogether := fun w h => List.mem_cons_of_mem _ (iuX2 w h)
  have hl : lv_has ls 3 [(0, .ref s2)] := hl
  refine lv_iconst (v := 0) hx hb dX2_capsTogether_0 (by decide) ?_
  refine lv_istore_n (lv' := [(1, .int 0), (0, .ref s2)]) hx hb dX2_capsTogether_1 rfl hl (by decide) rfl (fun ls hl => ?_)
  refine lv_iconst (v := 0) hx hb dX2_capsTogether_2 (by decide) ?_
  refine lv_istore_n (lv' := [(2, .int 0), (1, .int 0), (0, .ref s2)]) hx hb dX2_capsTogether_3 rfl hl (by decide) rfl (fun ls hl => ?_)
  have J4 : ∀ (zz : Nat) (i4 : Nat) (h1_4 : Int32), (i4 ≤ 8) → (8 - i4) < zz → ∀ (H : Heap) (locs : List Loc) (ls : Array Slot), va_P D vwCl [(oX2 s2 d0 d1 d2), (aIc cI d0 8 D0)] H → va_D A [(oX2 s2 d0 d1 d2), (aIc cI d0 8 D0)] → va_S A s.heap H locs → lv_has ls 3 [(2, .int (nI i4)), (1, .int h1_4), (0, .ref s2)] → W p l e { frames := 0, cells := 0, slots := 0, locals := 0 } s m [.ref s2].toArray below meth c H locs 0 0 (MQ below (cQi D (fun r u => u = [(oX2 s2 d0 d1 d2), (aIc cI d0 8 D0)]) A) [.ref s2].toArray s 0 0 A) (F0 m 4 ls []) := by
    intro zz
    induction zz with
    | zero => intro i4 h1_4 _; exact fun h => absurd h (Nat.not_lt_zero _)
    | succ zz ih4 =>
      intro i4 h1_4 hc2_4 hmu4 H locs ls hP hD hS hl
      refine lv_iload_n hx hb dX2_capsTogether_4 rfl (lv_at hl 0 rfl) ?_
      refine lv_bipush (v := 8) hx hb dX2_capsTogether_5 (by decide) ?_
      refine lv_icmp_ge (tgt := 25) hx hb dX2_capsTogether_7 (by decide) (fun c1 => ?_) (fun c1 => ?_)
      · skip
        have nc1 : 8 ≤ i4 := (nI_leI (a := 8) (b := i4) (by omega) (by omega)).mp c1
        refine lv_iload_n hx hb dX2_capsTogether_25 rfl (lv_at hl 1 rfl) ?_
        refine k_iret (u := [(oX2 s2 d0 d1 d2), (aIc cI d0 8 D0)]) hx hb hr hlk hP hD hS dX2_capsTogether_26 ?_
        exact rfl
      · skip
        have nc1 : ¬ 8 ≤ i4 := fun q9 => c1 ((nI_leI (a := 8) (b := i4) (by omega) (by omega)).mpr q9)
        refine lv_iload_n hx hb dX2_capsTogether_10 rfl (lv_at hl 1 rfl) ?_
        refine lv_aload_n hx hb dX2_capsTogether_11 rfl (lv_at hl 2 rfl) ?_
        refine va_get (D := D) (ci := 2) (v := .ref d0) (C := RX2) (T := TX2) (N := 3) hx hb hts hiX2 hown hE.1 hP 0 rfl rfl 0 (by decide) (hts _ (List.mem_cons_of_mem _ wd_88)) (fun _ h9 => h9) rfl dX2_capsTogether_12 ?_
        refine lv_iload_n hx hb dX2_capsTogether_15 rfl (lv_at hl 0 rfl) ?_
        refine va_iald hx hb hE.1 hP 1 0 rfl rfl (vp_in_nI (n := i4) (by omega) (by decide)) dX2_capsTogether_16 ?_
        refine lv_topi (fun v2 ev2 => ?_)
        refine lv_iadd hx hb dX2_capsTogether_17 ?_
        refine lv_topi (fun v3 ev3 => ?_)
        refine lv_istore_n (lv' := [(1, .int v3), (2, .int (nI i4)), (0, .ref s2)]) hx hb dX2_capsTogether_18 rfl hl (by decide) rfl (fun ls hl => ?_)
        refine lv_iinc (v := (nI (i4 + 1))) (lv' := [(2, .int (nI (i4 + 1))), (1, .int v3), (0, .ref s2)]) hx hb dX2_capsTogether_19 hl (k := 1) rfl (nI_1 _) (by decide) rfl (fun ls hl => ?_)
        refine lv_goto (tgt := 4) hx hb dX2_capsTogether_22 (by decide) ?_
        exact ih4 (i4 + 1) v3 (by omega) (by omega) _ _ _ hP hD hS (lv_sub hl [0, 1, 2] rfl)
  exact J4 _ 0 0 (by omega) (Nat.lt_succ_self _) _ _ _ hP hD hS (lv_sub hl [0, 1, 2] rfl)
theorem dX2_mostLost_0 : decode cX2_mostLost 0 = .ok (.iconst 0, 1) := by decide +kernel
theorem dX2_mostLost_1 : decode cX2_mostLost 1 = .ok (.istore_n 1, 1) := by decide +kernel
theorem dX2_mostLost_2 : decode cX2_mostLost 2 = .ok (.iconst 1, 1) := by decide +kernel
theorem dX2_mostLost_3 : decode cX2_mostLost 3 = .ok (.istore_n 2, 1) := by decide +kernel
theorem dX2_mostLost_4 : decode cX2_mostLost 4 = .ok (.iload_n 2, 1) := by decide +kernel
theorem dX2_mostLost_5 : decode cX2_mostLost 5 = .ok (.bipush 8, 2) := by decide +kernel
theorem dX2_mostLost_7 : decode cX2_mostLost 7 = .ok (.if_icmp .ge 27, 3) := by decide +kernel
theorem dX2_mostLost_10 : decode cX2_mostLost 10 = .ok (.aload_n 0, 1) := by decide +kernel
theorem dX2_mostLost_11 : decode cX2_mostLost 11 = .ok (.getfield 18, 3) := by decide +kernel
theorem dX2_mostLost_14 : decode cX2_mostLost 14 = .ok (.iload_n 2, 1) := by decide +kernel
theorem dX2_mostLost_15 : decode cX2_mostLost 15 = .ok (.laload, 1) := by decide +kernel
theorem dX2_mostLost_16 : decode cX2_mostLost 16 = .ok (.aload_n 0, 1) := by decide +kernel
theorem dX2_mostLost_17 : decode cX2_mostLost 17 = .ok (.getfield 18, 3) := by decide +kernel
theorem dX2_mostLost_20 : decode cX2_mostLost 20 = .ok (.iload_n 1, 1) := by decide +kernel
theorem dX2_mostLost_21 : decode cX2_mostLost 21 = .ok (.laload, 1) := by decide +kernel
theorem dX2_mostLost_22 : decode cX2_mostLost 22 = .ok (.lcmp, 1) := by decide +kernel
theorem dX2_mostLost_23 : decode cX2_mostLost 23 = .ok (.ifCond .le 5, 3) := by decide +kernel
theorem dX2_mostLost_26 : decode cX2_mostLost 26 = .ok (.iload_n 2, 1) := by decide +kernel
theorem dX2_mostLost_27 : decode cX2_mostLost 27 = .ok (.istore_n 1, 1) := by decide +kernel
theorem dX2_mostLost_28 : decode cX2_mostLost 28 = .ok (.iinc 2 1, 3) := by decide +kernel
theorem dX2_mostLost_31 : decode cX2_mostLost 31 = .ok (.goto (-27), 3) := by decide +kernel
theorem dX2_mostLost_34 : decode cX2_mostLost 34 = .ok (.iload_n 1, 1) := by decide +kernel
theorem dX2_mostLost_35 : decode cX2_mostLost 35 = .ok (.ireturn, 1) := by decide +kernel
set_option maxHeartbeats 4000000 in
set_option maxRecDepth 100000 in
theorem m_X2_mostLost (l : Launch) (D : va_G) (cI cJ : ClassId) (sz : Nat) (s2 d0 d1 d2 : Nat) (D2 : Nat → Int64) : Met l yX2_mostLost wtX2_mostLost { frames := 0, cells := 0, slots := 0, locals := 0 } (cPc D cI cJ [.ref s2] sz [(oX2 s2 d0 d1 d2), (aJc cJ d2 8 D2)]) (cQi D (fun r u => ∃ (k : Nat), (k < 8) ∧ r = (nI k) ∧ u = [(oX2 s2 d0 d1 d2), (aJc cJ d2 8 D2)]) (va_A [(oX2 s2 d0 d1 d2), (aJc cJ d2 8 D2)] sz)) 0 0 (va_A [(oX2 s2 d0 d1 d2), (aJc cJ d2 8 D2)] sz) := by
  refine k_ofW (Qc := cQi D (fun r u => ∃ (k : Nat), (k < 8) ∧ r = (nI k) ∧ u = [(oX2 s2 d0 d1 d2), (aJc cJ d2 8 D2)])) (by decide) rfl (Nat.le_of_ble_eq_true rfl) ?_
  intro p e s m below meth c A ls hx hb hr hml hts hown hlk hnm hsz hE hP hD hS hA hl
  have hown : s.vm.findClass RX2 = some m.cls := hown
  have hiX2 : ∀ w ∈ u_ws RX2 TX2 3, w ∈ wtX2_mostLost := fun w h => List.mem_cons_of_mem _ (iuX2 w h)
  have hl : lv_has ls 3 [(0, .ref s2)] := hl
  refine lv_iconst (v := 0) hx hb dX2_mostLost_0 (by decide) ?_
  refine lv_istore_n (lv' := [(1, .int 0), (0, .ref s2)]) hx hb dX2_mostLost_1 rfl hl (by decide) rfl (fun ls hl => ?_)
  refine lv_iconst (v := 1) hx hb dX2_mostLost_2 (by decide) ?_
  refine lv_istore_n (lv' := [(2, .int 1), (1, .int 0), (0, .ref s2)]) hx hb dX2_mostLost_3 rfl hl (by decide) rfl (fun ls hl => ?_)
  have J4 : ∀ (zz : Nat) (i4 h1_4 : Nat), (i4 ≤ 8) → (h1_4 < 8) → (8 - i4) < zz → ∀ (H : Heap) (locs : List Loc) (ls : Array Slot), va_P D vwCl [(oX2 s2 d0 d1 d2), (aJc cJ d2 8 D2)] H → va_D A [(oX2 s2 d0 d1 d2), (aJc cJ d2 8 D2)] → va_S A s.heap H locs → lv_has ls 3 [(2, .int (nI i4)), (1, .int (nI h1_4)), (0, .ref s2)] → W p l e { frames := 0, cells := 0, slots := 0, locals := 0 } s m [.ref s2].toArray below meth c H locs 0 0 (MQ below (cQi D (fun r u => ∃ (k : Nat), (k < 8) ∧ r = (nI k) ∧ u = [(oX2 s2 d0 d1 d2), (aJc cJ d2 8 D2)]) A) [.ref s2].toArray s 0 0 A) (F0 m 4 ls []) := by
    intro zz
    induction zz with
    | zero => intro i4 h1_4 _ _; exact fun h => absurd h (Nat.not_lt_zero _)
    | succ zz ih4 =>
      intro i4 h1_4 hc2_4 hm_4 hmu4 H locs ls hP hD hS hl
      refine lv_iload_n hx hb dX2_mostLost_4 rfl (lv_at hl 0 rfl) ?_
      refine lv_bipush (v := 8) hx hb dX2_mostLost_5 (by decide) ?_
      refine lv_icmp_ge (tgt := 34) hx hb dX2_mostLost_7 (by decide) (fun c1 => ?_) (fun c1 => ?_)
      · skip
        have nc1 : 8 ≤ i4 := (nI_leI (a := 8) (b := i4) (by omega) (by omega)).mp c1
        refine lv_iload_n hx hb dX2_mostLost_34 rfl (lv_at hl 1 rfl) ?_
        refine k_iret (u := [(oX2 s2 d0 d1 d2), (aJc cJ d2 8 D2)]) hx hb hr hlk hP hD hS dX2_mostLost_35 ?_
        exact ⟨h1_4, (by omega), rfl, rfl⟩
      · skip
        have nc1 : ¬ 8 ≤ i4 := fun q9 => c1 ((nI_leI (a := 8) (b := i4) (by omega) (by omega)).mpr q9)
        refine lv_aload_n hx hb dX2_mostLost_10 rfl (lv_at hl 2 rfl) ?_
        refine va_get (D := D) (ci := 2) (v := .ref d2) (C := RX2) (T := TX2) (N := 3) hx hb hts hiX2 hown hE.1 hP 0 rfl rfl 2 (by decide) (hts _ (List.mem_cons_of_mem _ wd_90)) (fun _ h9 => h9) rfl dX2_mostLost_11 ?_
        refine lv_iload_n hx hb dX2_mostLost_14 rfl (lv_at hl 0 rfl) ?_
        refine va_lald hx hb hE.1 hP 1 1 rfl rfl (vp_in_nI (n := i4) (by omega) (by decide)) dX2_mostLost_15 ?_
        refine lv_topl (fun v2 ev2 => ?_)
        refine lv_aload_n hx hb dX2_mostLost_16 rfl (lv_at hl 2 rfl) ?_
        refine va_get (D := D) (ci := 2) (v := .ref d2) (C := RX2) (T := TX2) (N := 3) hx hb hts hiX2 hown hE.1 hP 0 rfl rfl 2 (by decide) (hts _ (List.mem_cons_of_mem _ wd_90)) (fun _ h9 => h9) rfl dX2_mostLost_17 ?_
        refine lv_iload_n hx hb dX2_mostLost_20 rfl (lv_at hl 1 rfl) ?_
        refine va_lald hx hb hE.1 hP 1 1 rfl rfl (vp_in_nI (n := h1_4) (by omega) (by decide)) dX2_mostLost_21 ?_
        refine lv_topl (fun v3 ev3 => ?_)
        refine k_lcmp_le (tgt := 28) hx hb dX2_mostLost_22 dX2_mostLost_23 (by decide) (fun c4 => ?_) (fun c4 => ?_)
        · skip
          refine lv_iinc (v := (nI (i4 + 1))) (lv' := [(2, .int (nI (i4 + 1))), (1, .int (nI h1_4)), (0, .ref s2)]) hx hb dX2_mostLost_28 hl (k := 0) rfl (nI_1 _) (by decide) rfl (fun ls hl => ?_)
          refine lv_goto (tgt := 4) hx hb dX2_mostLost_31 (by decide) ?_
          exact ih4 (i4 + 1) h1_4 (by omega) (by omega) (by omega) _ _ _ hP hD hS (lv_sub hl [0, 1, 2] rfl)
        · skip
          refine lv_iload_n hx hb dX2_mostLost_26 rfl (lv_at hl 0 rfl) ?_
          refine lv_istore_n (lv' := [(1, .int (nI i4)), (2, .int (nI i4)), (0, .ref s2)]) hx hb dX2_mostLost_27 rfl hl (by decide) rfl (fun ls hl => ?_)
          refine lv_iinc (v := (nI (i4 + 1))) (lv' := [(2, .int (nI (i4 + 1))), (1, .int (nI i4)), (0, .ref s2)]) hx hb dX2_mostLost_28 hl (k := 1) rfl (nI_1 _) (by decide) rfl (fun ls hl => ?_)
          refine lv_goto (tgt := 4) hx hb dX2_mostLost_31 (by decide) ?_
          exact ih4 (i4 + 1) i4 (by omega) (by omega) (by omega) _ _ _ hP hD hS (lv_sub hl [0, 1, 2] rfl)
  exact J4 _ 1 0 (by omega) (by omega) (Nat.lt_succ_self _) _ _ _ hP hD hS (lv_sub hl [0, 1, 2] rfl)
theorem dX2_divideByCaps_0 : decode cX2_divideByCaps 0 = .ok (.aload_n 0, 1) := by decide +kernel
theorem dX2_divideByCaps_1 : decode cX2_divideByCaps 1 = .ok (.getfield 15, 3) := by decide +kernel
theorem dX2_divideByCaps_4 : decode cX2_divideByCaps 4 = .ok (.iconst 0, 1) := by decide +kernel
theorem dX2_divideByCaps_5 : decode cX2_divideByCaps 5 = .ok (.invokestatic 22, 3) := by decide +kernel
theorem dX2_divideByCaps_8 : decode cX2_divideByCaps 8 = .ok (.aload_n 0, 1) := by decide +kernel
theorem dX2_divideByCaps_9 : decode cX2_divideByCaps 9 = .ok (.invokevirtual 35, 3) := by decide +kernel
theorem dX2_divideByCaps_12 : decode cX2_divideByCaps 12 = .ok (.i2l, 1) := by decide +kernel
theorem dX2_divideByCaps_13 : decode cX2_divideByCaps 13 = .ok (.lstore_n 2, 1) := by decide +kernel
theorem dX2_divideByCaps_14 : decode cX2_divideByCaps 14 = .ok (.lload_n 2, 1) := by decide +kernel
theorem dX2_divideByCaps_15 : decode cX2_divideByCaps 15 = .ok (.lconst 0, 1) := by decide +kernel
theorem dX2_divideByCaps_16 : decode cX2_divideByCaps 16 = .ok (.lcmp, 1) := by decide +kernel
theorem dX2_divideByCaps_17 : decode cX2_divideByCaps 17 = .ok (.ifCond .gt 4, 3) := by decide +kernel
theorem dX2_divideByCaps_20 : decode cX2_divideByCaps 20 = .ok (.return_, 1) := by decide +kernel
theorem dX2_divideByCaps_21 : decode cX2_divideByCaps 21 = .ok (.iload_n 1, 1) := by decide +kernel
theorem dX2_divideByCaps_22 : decode cX2_divideByCaps 22 = .ok (.istore 4, 2) := by decide +kernel
theorem dX2_divideByCaps_24 : decode cX2_divideByCaps 24 = .ok (.iconst 0, 1) := by decide +kernel
theorem dX2_divideByCaps_25 : decode cX2_divideByCaps 25 = .ok (.istore 5, 2) := by decide +kernel
theorem dX2_divideByCaps_27 : decode cX2_divideByCaps 27 = .ok (.iload 5, 2) := by decide +kernel
theorem dX2_divideByCaps_29 : decode cX2_divideByCaps 29 = .ok (.bipush 8, 2) := by decide +kernel
theorem dX2_divideByCaps_31 : decode cX2_divideByCaps 31 = .ok (.if_icmp .ge 57, 3) := by decide +kernel
theorem dX2_divideByCaps_34 : decode cX2_divideByCaps 34 = .ok (.iload_n 1, 1) := by decide +kernel
theorem dX2_divideByCaps_35 : decode cX2_divideByCaps 35 = .ok (.i2l, 1) := by decide +kernel
theorem dX2_divideByCaps_36 : decode cX2_divideByCaps 36 = .ok (.aload_n 0, 1) := by decide +kernel
theorem dX2_divideByCaps_37 : decode cX2_divideByCaps 37 = .ok (.getfield 9, 3) := by decide +kernel
theorem dX2_divideByCaps_40 : decode cX2_divideByCaps 40 = .ok (.iload 5, 2) := by decide +kernel
theorem dX2_divideByCaps_42 : decode cX2_divideByCaps 42 = .ok (.iaload, 1) := by decide +kernel
theorem dX2_divideByCaps_43 : decode cX2_divideByCaps 43 = .ok (.i2l, 1) := by decide +kernel
theorem dX2_divideByCaps_44 : decode cX2_divideByCaps 44 = .ok (.lmul, 1) := by decide +kernel
theorem dX2_divideByCaps_45 : decode cX2_divideByCaps 45 = .ok (.lstore 6, 2) := by decide +kernel
theorem dX2_divideByCaps_47 : decode cX2_divideByCaps 47 = .ok (.aload_n 0, 1) := by decide +kernel
theorem dX2_divideByCaps_48 : decode cX2_divideByCaps 48 = .ok (.getfield 15, 3) := by decide +kernel
theorem dX2_divideByCaps_51 : decode cX2_divideByCaps 51 = .ok (.iload 5, 2) := by decide +kernel
theorem dX2_divideByCaps_53 : decode cX2_divideByCaps 53 = .ok (.lload 6, 2) := by decide +kernel
theorem dX2_divideByCaps_55 : decode cX2_divideByCaps 55 = .ok (.lload_n 2, 1) := by decide +kernel
theorem dX2_divideByCaps_56 : decode cX2_divideByCaps 56 = .ok (.ldiv, 1) := by decide +kernel
theorem dX2_divideByCaps_57 : decode cX2_divideByCaps 57 = .ok (.l2i, 1) := by decide +kernel
theorem dX2_divideByCaps_58 : decode cX2_divideByCaps 58 = .ok (.iastore, 1) := by decide +kernel
theorem dX2_divideByCaps_59 : decode cX2_divideByCaps 59 = .ok (.aload_n 0, 1) := by decide +kernel
theorem dX2_divideByCaps_60 : decode cX2_divideByCaps 60 = .ok (.getfield 18, 3) := by decide +kernel
theorem dX2_divideByCaps_63 : decode cX2_divideByCaps 63 = .ok (.iload 5, 2) := by decide +kernel
theorem dX2_divideByCaps_65 : decode cX2_divideByCaps 65 = .ok (.lload 6, 2) := by decide +kernel
theorem dX2_divideByCaps_67 : decode cX2_divideByCaps 67 = .ok (.lload_n 2, 1) := by decide +kernel
theorem dX2_divideByCaps_68 : decode cX2_divideByCaps 68 = .ok (.lrem, 1) := by decide +kernel
theorem dX2_divideByCaps_69 : decode cX2_divideByCaps 69 = .ok (.lastore, 1) := by decide +kernel
theorem dX2_divideByCaps_70 : decode cX2_divideByCaps 70 = .ok (.iload 4, 2) := by decide +kernel
theorem dX2_divideByCaps_72 : decode cX2_divideByCaps 72 = .ok (.aload_n 0, 1) := by decide +kernel
theorem dX2_divideByCaps_73 : decode cX2_divideByCaps 73 = .ok (.getfield 15, 3) := by decide +kernel
theorem dX2_divideByCaps_76 : decode cX2_divideByCaps 76 = .ok (.iload 5, 2) := by decide +kernel
theorem dX2_divideByCaps_78 : decode cX2_divideByCaps 78 = .ok (.iaload, 1) := by decide +kernel
theorem dX2_divideByCaps_79 : decode cX2_divideByCaps 79 = .ok (.isub, 1) := by decide +kernel
theorem dX2_divideByCaps_80 : decode cX2_divideByCaps 80 = .ok (.istore 4, 2) := by decide +kernel
theorem dX2_divideByCaps_82 : decode cX2_divideByCaps 82 = .ok (.iinc 5 1, 3) := by decide +kernel
theorem dX2_divideByCaps_85 : decode cX2_divideByCaps 85 = .ok (.goto (-58), 3) := by decide +kernel
theorem dX2_divideByCaps_88 : decode cX2_divideByCaps 88 = .ok (.iconst 0, 1) := by decide +kernel
theorem dX2_divideByCaps_89 : decode cX2_divideByCaps 89 = .ok (.istore 5, 2) := by decide +kernel
theorem dX2_divideByCaps_91 : decode cX2_divideByCaps 91 = .ok (.iload 5, 2) := by decide +kernel
theorem dX2_divideByCaps_93 : decode cX2_divideByCaps 93 = .ok (.iload 4, 2) := by decide +kernel
theorem dX2_divideByCaps_95 : decode cX2_divideByCaps 95 = .ok (.if_icmp .ge 41, 3) := by decide +kernel
theorem dX2_divideByCaps_98 : decode cX2_divideByCaps 98 = .ok (.iload 5, 2) := by decide +kernel
theorem dX2_divideByCaps_100 : decode cX2_divideByCaps 100 = .ok (.bipush 8, 2) := by decide +kernel
theorem dX2_divideByCaps_102 : decode cX2_divideByCaps 102 = .ok (.if_icmp .ge 34, 3) := by decide +kernel
theorem dX2_divideByCaps_105 : decode cX2_divideByCaps 105 = .ok (.aload_n 0, 1) := by decide +kernel
theorem dX2_divideByCaps_106 : decode cX2_divideByCaps 106 = .ok (.invokevirtual 39, 3) := by decide +kernel
theorem dX2_divideByCaps_109 : decode cX2_divideByCaps 109 = .ok (.istore 6, 2) := by decide +kernel
theorem dX2_divideByCaps_111 : decode cX2_divideByCaps 111 = .ok (.aload_n 0, 1) := by decide +kernel
theorem dX2_divideByCaps_112 : decode cX2_divideByCaps 112 = .ok (.getfield 15, 3) := by decide +kernel
theorem dX2_divideByCaps_115 : decode cX2_divideByCaps 115 = .ok (.iload 6, 2) := by decide +kernel
theorem dX2_divideByCaps_117 : decode cX2_divideByCaps 117 = .ok (.dup2, 1) := by decide +kernel
theorem dX2_divideByCaps_118 : decode cX2_divideByCaps 118 = .ok (.iaload, 1) := by decide +kernel
theorem dX2_divideByCaps_119 : decode cX2_divideByCaps 119 = .ok (.iconst 1, 1) := by decide +kernel
theorem dX2_divideByCaps_120 : decode cX2_divideByCaps 120 = .ok (.iadd, 1) := by decide +kernel
theorem dX2_divideByCaps_121 : decode cX2_divideByCaps 121 = .ok (.iastore, 1) := by decide +kernel
theorem dX2_divideByCaps_122 : decode cX2_divideByCaps 122 = .ok (.aload_n 0, 1) := by decide +kernel
theorem dX2_divideByCaps_123 : decode cX2_divideByCaps 123 = .ok (.getfield 18, 3) := by decide +kernel
theorem dX2_divideByCaps_126 : decode cX2_divideByCaps 126 = .ok (.iload 6, 2) := by decide +kernel
theorem dX2_divideByCaps_128 : decode cX2_divideByCaps 128 = .ok (.lconst 0, 1) := by decide +kernel
theorem dX2_divideByCaps_129 : decode cX2_divideByCaps 129 = .ok (.lastore, 1) := by decide +kernel
theorem dX2_divideByCaps_130 : decode cX2_divideByCaps 130 = .ok (.iinc 5 1, 3) := by decide +kernel
theorem dX2_divideByCaps_133 : decode cX2_divideByCaps 133 = .ok (.goto (-42), 3) := by decide +kernel
theorem dX2_divideByCaps_136 : decode cX2_divideByCaps 136 = .ok (.return_, 1) := by decide +kernel
theorem gX2_divideByCaps_J7_fill_53178 : GoodIn wtX2_divideByCaps (va_wsS RX2 22 yJ7_fill_53178 wtJ7_fill_53178) := tb_good (tb_s0 wd_363 wd_73 wd_74 wd_75)
theorem gX2_divideByCaps_X2_capsTogether : GoodIn wtX2_divideByCaps (wsV RX2 35 RX2 yX2_capsTogether wtX2_capsTogether) := tb_good (tb_v0 wd_376 wd_365 wd_366 wd_47 wd_367)
theorem gX2_divideByCaps_X2_mostLost : GoodIn wtX2_divideByCaps (wsV RX2 39 RX2 yX2_mostLost wtX2_mostLost) := tb_good (tb_v0 wd_377 wd_378 wd_379 wd_47 wd_380)
set_option maxHeartbeats 4000000 in
set_option maxRecDepth 100000 in
theorem m_X2_divideByCaps (l : Launch) (D : va_G) (cI cJ : ClassId) (sz : Nat) (s2 d0 d1 d2 : Nat) (due : Int32) (D0 D1 : Nat → Int32) (D2 : Nat → Int64) : Met l yX2_divideByCaps wtX2_divideByCaps { frames := 1, cells := 0, slots := 0, locals := 23 } (cPc D cI cJ [.ref s2, .int due] sz [(oX2 s2 d0 d1 d2), (aIc cI d0 8 D0), (aIc cI d1 8 D1), (aJc cJ d2 8 D2)]) (cQv D (fun u => ∃ (D1p : Nat → Int32) (D2p : Nat → Int64), u = [(oX2 s2 d0 d1 d2), (aIc cI d0 8 D0), (aIc cI d1 8 D1p), (aJc cJ d2 8 D2p)]) (va_A [(oX2 s2 d0 d1 d2), (aIc cI d0 8 D0), (aIc cI d1 8 D1), (aJc cJ d2 8 D2)] sz)) 0 0 (va_A [(oX2 s2 d0 d1 d2), (aIc cI d0 8 D0), (aIc cI d1 8 D1), (aJc cJ d2 8 D2)] sz) := by
  refine k_ofW (Qc := cQv D (fun u => ∃ (D1p : Nat → Int32) (D2p : Nat → Int64), u = [(oX2 s2 d0 d1 d2), (aIc cI d0 8 D0), (aIc cI d1 8 D1p), (aJc cJ d2 8 D2p)])) (by decide) rfl (Nat.le_of_ble_eq_true rfl) ?_
  intro p e s m below meth c A ls hx hb hr hml hts hown hlk hnm hsz hE hP hD hS hA hl
  have hown : s.vm.findClass RX2 = some m.cls := hown
  have hiX2 : ∀ w ∈ u_ws RX2 TX2 3, w ∈ wtX2_divideByCaps := fun w h => List.mem_cons_of_mem _ (iuX2 w h)
  have hl : lv_has ls 8 [(0, .ref s2), (1, .int due)] := hl
  refine lv_aload_n hx hb dX2_divideByCaps_0 rfl (lv_at hl 0 rfl) ?_
  refine va_get (D := D) (ci := 2) (v := .ref d1) (C := RX2) (T := TX2) (N := 3) hx hb hts hiX2 hown hE.1 hP 0 rfl rfl 1 (by decide) (hts _ (List.mem_cons_of_mem _ wd_89)) (fun _ h9 => h9) rfl dX2_divideByCaps_1 ?_
  refine lv_iconst (v := 0) hx hb dX2_divideByCaps_4 (by decide) ?_
  refine k_v (va_runS (As := [.ref d1, .int 0]) (rest := []) ⟨hx, hb, hml, hown, hts⟩ (m_J7_fill l D cI cJ (s.heap).size d1 0 8 D1 (by decide)) (va_cwS 2 hts gX2_divideByCaps_J7_fill_53178 rfl rfl rfl (by decide +kernel) ⟨Nat.le_of_ble_eq_true rfl, Nat.le_of_ble_eq_true rfl⟩) (k_pre hE hP hD [2] (by decide +kernel) rfl) rfl rfl hl.1 rfl (lv_room (Nat.le_of_ble_eq_true rfl)) dX2_divideByCaps_5 ⟨Nat.le_of_ble_eq_true rfl, Nat.le_of_ble_eq_true rfl⟩) hP hD hS hA [2] [0, 1, 3] rfl (wr := [(oX2 s2 d0 d1 d2), (aIc cI d0 8 D0), (aJc cJ d2 8 D2)]) rfl (by decide +kernel) (by decide +kernel) (fun u H locs hw1 hP hD hS => ?_)
  subst hw1
  refine k_re (w := [(oX2 s2 d0 d1 d2), (aIc cI d0 8 D0), (aJc cJ d2 8 D2), (aIc cI d1 8 (fl 8 0 D1))]) hP hD (fun hP hD => ?_)
  refine lv_aload_n hx hb dX2_divideByCaps_8 rfl (lv_at hl 0 rfl) ?_
  refine k_iS (va_runV (As := []) (rest := []) ⟨hx, hb, hml, hown, hts⟩ (m_X2_capsTogether l D cI cJ H.size s2 d0 d1 d2 D0) (cwV 0 hts gX2_divideByCaps_X2_capsTogether rfl rfl rfl (by decide +kernel) ⟨Nat.le_of_ble_eq_true rfl, Nat.le_of_ble_eq_true rfl⟩) (k_preV hE hP hD [0, 1] (by decide +kernel) rfl 0 rfl rfl) rfl rfl hl.1 rfl (lv_room (Nat.le_of_ble_eq_true rfl)) dX2_divideByCaps_9 ⟨Nat.le_of_ble_eq_true rfl, Nat.le_of_ble_eq_true rfl⟩) hP hD hS hA [0, 1] rfl (fun _ _ h9 => h9) (fun r2 H locs hw3 hP hD hS => ?_)
  refine lv_i2l hx hb dX2_divideByCaps_12 rfl ?_
  refine lv_topl (fun v4 ev4 => ?_)
  refine lv_lstore_n (lv' := [(2, .long v4), (0, .ref s2), (1, .int due)]) hx hb dX2_divideByCaps_13 rfl hl (by decide) rfl (fun ls hl => ?_)
  refine lv_lload_n hx hb dX2_divideByCaps_14 rfl (lv_at hl 0 rfl) ?_
  refine lv_lconst (v := 0) hx hb dX2_divideByCaps_15 (by decide) ?_
  refine k_lcmp_gt (tgt := 21) hx hb dX2_divideByCaps_16 dX2_divideByCaps_17 (by decide) (fun c5 => ?_) (fun c5 => ?_)
  · skip
    refine lv_iload_n hx hb dX2_divideByCaps_21 rfl (lv_at hl 2 rfl) ?_
    refine lv_istore (lv' := [(4, .int due), (2, .long v4), (0, .ref s2), (1, .int due)]) hx hb dX2_divideByCaps_22 hl (by decide) rfl (fun ls hl => ?_)
    refine lv_iconst (v := 0) hx hb dX2_divideByCaps_24 (by decide) ?_
    refine lv_istore (lv' := [(5, .int 0), (4, .int due), (2, .long v4), (0, .ref s2), (1, .int due)]) hx hb dX2_divideByCaps_25 hl (by decide) rfl (fun ls hl => ?_)
    have J27 : ∀ (zz : Nat) (i27 : Nat) (h4_27 : Int32) (a_d1_27 : Nat → Int32) (a_d2_27 : Nat → Int64), (i27 ≤ 8) → (8 - i27) < zz → ∀ (H : Heap) (locs : List Loc) (ls : Array Slot), va_P D vwCl [(oX2 s2 d0 d1 d2), (aIc cI d0 8 D0), (aJc cJ d2 8 a_d2_27), (aIc cI d1 8 a_d1_27)] H → va_D A [(oX2 s2 d0 d1 d2), (aIc cI d0 8 D0), (aJc cJ d2 8 a_d2_27), (aIc cI d1 8 a_d1_27)] → va_S A s.heap H locs → lv_has ls 8 [(5, .int (nI i27)), (4, .int h4_27), (2, .long v4), (0, .ref s2), (1, .int due)] → W p l e { frames := 1, cells := 0, slots := 0, locals := 23 } s m [.ref s2, .int due].toArray below meth c H locs 0 0 (MQ below (cQv D (fun u => ∃ (D1p : Nat → Int32) (D2p : Nat → Int64), u = [(oX2 s2 d0 d1 d2), (aIc cI d0 8 D0), (aIc cI d1 8 D1p), (aJc cJ d2 8 D2p)]) A) [.ref s2, .int due].toArray s 0 0 A) (F0 m 27 ls []) := by
      intro zz
      induction zz with
      | zero => intro i27 h4_27 a_d1_27 a_d2_27 _; exact fun h => absurd h (Nat.not_lt_zero _)
      | succ zz ih27 =>
        intro i27 h4_27 a_d1_27 a_d2_27 hc5_27 hmu27 H locs ls hP hD hS hl
        refine lv_iload hx hb dX2_divideByCaps_27 (lv_at hl 0 rfl) ?_
        refine lv_bipush (v := 8) hx hb dX2_divideByCaps_29 (by decide) ?_
        refine lv_icmp_ge (tgt := 88) hx hb dX2_divideByCaps_31 (by decide) (fun c6 => ?_) (fun c6 => ?_)
        · skip
          have nc6 : 8 ≤ i27 := (nI_leI (a := 8) (b := i27) (by omega) (by omega)).mp c6
          refine lv_iconst (v := 0) hx hb dX2_divideByCaps_88 (by decide) ?_
          refine lv_istore (lv' := [(5, .int 0), (4, .int h4_27), (2, .long v4), (0, .ref s2), (1, .int due)]) hx hb dX2_divideByCaps_89 hl (by decide) rfl (fun ls hl => ?_)
          have J91 : ∀ (zz : Nat) (i91 : Nat) (a_d1_91 : Nat → Int32) (a_d2_91 : Nat → Int64), (i91 ≤ 8) → (8 - i91) < zz → ∀ (H : Heap) (locs : List Loc) (ls : Array Slot), va_P D vwCl [(oX2 s2 d0 d1 d2), (aIc cI d0 8 D0), (aJc cJ d2 8 a_d2_91), (aIc cI d1 8 a_d1_91)] H → va_D A [(oX2 s2 d0 d1 d2), (aIc cI d0 8 D0), (aJc cJ d2 8 a_d2_91), (aIc cI d1 8 a_d1_91)] → va_S A s.heap H locs → lv_has ls 8 [(5, .int (nI i91)), (4, .int h4_27), (2, .long v4), (0, .ref s2), (1, .int due)] → W p l e { frames := 1, cells := 0, slots := 0, locals := 23 } s m [.ref s2, .int due].toArray below meth c H locs 0 0 (MQ below (cQv D (fun u => ∃ (D1p : Nat → Int32) (D2p : Nat → Int64), u = [(oX2 s2 d0 d1 d2), (aIc cI d0 8 D0), (aIc cI d1 8 D1p), (aJc cJ d2 8 D2p)]) A) [.ref s2, .int due].toArray s 0 0 A) (F0 m 91 ls []) := by
            intro zz
            induction zz with
            | zero => intro i91 a_d1_91 a_d2_91 _; exact fun h => absurd h (Nat.not_lt_zero _)
            | succ zz ih91 =>
              intro i91 a_d1_91 a_d2_91 hc5_91 hmu91 H locs ls hP hD hS hl
              refine lv_iload hx hb dX2_divideByCaps_91 (lv_at hl 0 rfl) ?_
              refine lv_iload hx hb dX2_divideByCaps_93 (lv_at hl 1 rfl) ?_
              refine lv_icmp_ge (tgt := 136) hx hb dX2_divideByCaps_95 (by decide) (fun c7 => ?_) (fun c7 => ?_)
              · skip
                refine k_vret (u := [(oX2 s2 d0 d1 d2), (aIc cI d0 8 D0), (aIc cI d1 8 a_d1_91), (aJc cJ d2 8 a_d2_91)]) hx hb hr hlk (k_sub hP [0, 1, 3, 2] rfl) (hD.sub [0, 1, 3, 2] (by decide +kernel) rfl) hS dX2_divideByCaps_136 ?_
                exact ⟨a_d1_91, a_d2_91, rfl⟩
              · skip
                refine lv_iload hx hb dX2_divideByCaps_98 (lv_at hl 0 rfl) ?_
                refine lv_bipush (v := 8) hx hb dX2_divideByCaps_100 (by decide) ?_
                refine lv_icmp_ge (tgt := 136) hx hb dX2_divideByCaps_102 (by decide) (fun c8 => ?_) (fun c8 => ?_)
                · skip
                  have nc8 : 8 ≤ i91 := (nI_leI (a := 8) (b := i91) (by omega) (by omega)).mp c8
                  refine k_vret (u := [(oX2 s2 d0 d1 d2), (aIc cI d0 8 D0), (aIc cI d1 8 a_d1_91), (aJc cJ d2 8 a_d2_91)]) hx hb hr hlk (k_sub hP [0, 1, 3, 2] rfl) (hD.sub [0, 1, 3, 2] (by decide +kernel) rfl) hS dX2_divideByCaps_136 ?_
                  exact ⟨a_d1_91, a_d2_91, rfl⟩
                · skip
                  have nc8 : ¬ 8 ≤ i91 := fun q9 => c8 ((nI_leI (a := 8) (b := i91) (by omega) (by omega)).mpr q9)
                  refine lv_aload_n hx hb dX2_divideByCaps_105 rfl (lv_at hl 3 rfl) ?_
                  refine k_iS (va_runV (As := []) (rest := []) ⟨hx, hb, hml, hown, hts⟩ (m_X2_mostLost l D cI cJ H.size s2 d0 d1 d2 a_d2_91) (cwV 0 hts gX2_divideByCaps_X2_mostLost rfl rfl rfl (by decide +kernel) ⟨Nat.le_of_ble_eq_true rfl, Nat.le_of_ble_eq_true rfl⟩) (k_preV hE hP hD [0, 2] (by decide +kernel) rfl 0 rfl rfl) rfl rfl hl.1 rfl (lv_room (Nat.le_of_ble_eq_true rfl)) dX2_divideByCaps_106 ⟨Nat.le_of_ble_eq_true rfl, Nat.le_of_ble_eq_true rfl⟩) hP hD hS hA [0, 2] rfl (fun _ _ ⟨_, _, _, h9⟩ => h9) (fun r9 H locs hw10 hP hD hS => ?_)
                  obtain ⟨z11, hz12, rfl, -⟩ := hw10
                  refine lv_istore (lv' := [(6, .int (nI z11)), (5, .int (nI i91)), (4, .int h4_27), (2, .long v4), (0, .ref s2), (1, .int due)]) hx hb dX2_divideByCaps_109 hl (by decide) rfl (fun ls hl => ?_)
                  refine lv_aload_n hx hb dX2_divideByCaps_111 rfl (lv_at hl 4 rfl) ?_
                  refine va_get (D := D) (ci := 2) (v := .ref d1) (C := RX2) (T := TX2) (N := 3) hx hb hts hiX2 hown hE.1 hP 0 rfl rfl 1 (by decide) (hts _ (List.mem_cons_of_mem _ wd_89)) (fun _ h9 => h9) rfl dX2_divideByCaps_112 ?_
                  refine lv_iload hx hb dX2_divideByCaps_115 (lv_at hl 0 rfl) ?_
                  refine lv_dup2_11 hx hb dX2_divideByCaps_117 rfl rfl ?_
                  refine va_iald hx hb hE.1 hP 3 0 rfl rfl (vp_in_nI (n := z11) (by omega) (by decide)) dX2_divideByCaps_118 ?_
                  refine lv_topi (fun v13 ev13 => ?_)
                  refine lv_iconst (v := 1) hx hb dX2_divideByCaps_119 (by decide) ?_
                  refine lv_iadd hx hb dX2_divideByCaps_120 ?_
                  refine lv_topi (fun v14 ev14 => ?_)
                  refine va_iast hx hb hE.1 hP hD hS 3 0 rfl rfl (vp_in_nI (n := z11) (by omega) (by decide)) dX2_divideByCaps_121 (fun H locs hP hD hS => ?_)
                  refine k_re (w := [(oX2 s2 d0 d1 d2), (aIc cI d0 8 D0), (aJc cJ d2 8 a_d2_91), (aIc cI d1 8 (upd a_d1_91 (Int32.toNatClampNeg (nI z11)) v14))]) hP hD (fun hP hD => ?_)
                  refine lv_aload_n hx hb dX2_divideByCaps_122 rfl (lv_at hl 4 rfl) ?_
                  refine va_get (D := D) (ci := 2) (v := .ref d2) (C := RX2) (T := TX2) (N := 3) hx hb hts hiX2 hown hE.1 hP 0 rfl rfl 2 (by decide) (hts _ (List.mem_cons_of_mem _ wd_90)) (fun _ h9 => h9) rfl dX2_divideByCaps_123 ?_
                  refine lv_iload hx hb dX2_divideByCaps_126 (lv_at hl 0 rfl) ?_
                  refine lv_lconst (v := 0) hx hb dX2_divideByCaps_128 (by decide) ?_
                  refine va_last hx hb hE.1 hP hD hS 2 1 rfl rfl (vp_in_nI (n := z11) (by omega) (by decide)) dX2_divideByCaps_129 (fun H locs hP hD hS => ?_)
                  refine k_re (w := [(oX2 s2 d0 d1 d2), (aIc cI d0 8 D0), (aJc cJ d2 8 (vp_updL a_d2_91 (Int32.toNatClampNeg (nI z11)) 0)), (aIc cI d1 8 (upd a_d1_91 (Int32.toNatClampNeg (nI z11)) v14))]) hP hD (fun hP hD => ?_)
                  refine lv_iinc (v := (nI (i91 + 1))) (lv' := [(5, .int (nI (i91 + 1))), (6, .int (nI z11)), (4, .int h4_27), (2, .long v4), (0, .ref s2), (1, .int due)]) hx hb dX2_divideByCaps_130 hl (k := 1) rfl (nI_1 _) (by decide) rfl (fun ls hl => ?_)
                  refine lv_goto (tgt := 91) hx hb dX2_divideByCaps_133 (by decide) ?_
                  exact ih91 (i91 + 1) (upd a_d1_91 (Int32.toNatClampNeg (nI z11)) v14) (vp_updL a_d2_91 (Int32.toNatClampNeg (nI z11)) 0) (by omega) (by omega) _ _ _ hP hD hS (lv_sub hl [0, 2, 3, 4, 5] rfl)
          exact J91 _ 0 a_d1_27 a_d2_27 (by omega) (Nat.lt_succ_self _) _ _ _ hP hD hS (lv_sub hl [0, 1, 2, 3, 4] rfl)
        · skip
          have nc6 : ¬ 8 ≤ i27 := fun q9 => c6 ((nI_leI (a := 8) (b := i27) (by omega) (by omega)).mpr q9)
          refine lv_iload_n hx hb dX2_divideByCaps_34 rfl (lv_at hl 4 rfl) ?_
          refine lv_i2l hx hb dX2_divideByCaps_35 rfl ?_
          refine lv_topl (fun v15 ev15 => ?_)
          refine lv_aload_n hx hb dX2_divideByCaps_36 rfl (lv_at hl 3 rfl) ?_
          refine va_get (D := D) (ci := 2) (v := .ref d0) (C := RX2) (T := TX2) (N := 3) hx hb hts hiX2 hown hE.1 hP 0 rfl rfl 0 (by decide) (hts _ (List.mem_cons_of_mem _ wd_88)) (fun _ h9 => h9) rfl dX2_divideByCaps_37 ?_
          refine lv_iload hx hb dX2_divideByCaps_40 (lv_at hl 0 rfl) ?_
          refine va_iald hx hb hE.1 hP 1 0 rfl rfl (vp_in_nI (n := i27) (by omega) (by decide)) dX2_divideByCaps_42 ?_
          refine lv_topi (fun v16 ev16 => ?_)
          refine lv_i2l hx hb dX2_divideByCaps_43 rfl ?_
          refine lv_topl (fun v17 ev17 => ?_)
          refine lv_lmul hx hb dX2_divideByCaps_44 ?_
          refine lv_topl (fun v18 ev18 => ?_)
          refine lv_lstore (lv' := [(6, .long v18), (5, .int (nI i27)), (4, .int h4_27), (2, .long v4), (0, .ref s2), (1, .int due)]) hx hb dX2_divideByCaps_45 hl (by decide) rfl (fun ls hl => ?_)
          refine lv_aload_n hx hb dX2_divideByCaps_47 rfl (lv_at hl 4 rfl) ?_
          refine va_get (D := D) (ci := 2) (v := .ref d1) (C := RX2) (T := TX2) (N := 3) hx hb hts hiX2 hown hE.1 hP 0 rfl rfl 1 (by decide) (hts _ (List.mem_cons_of_mem _ wd_89)) (fun _ h9 => h9) rfl dX2_divideByCaps_48 ?_
          refine lv_iload hx hb dX2_divideByCaps_51 (lv_at hl 1 rfl) ?_
          refine lv_lload hx hb dX2_divideByCaps_53 (lv_at hl 0 rfl) ?_
          refine lv_lload_n hx hb dX2_divideByCaps_55 rfl (lv_at hl 3 rfl) ?_
          refine lv_ldiv hx hb dX2_divideByCaps_56 (fun q9 => by rw [q9] at c5; exact absurd c5 (by decide)) ?_
          refine lv_topl (fun v19 ev19 => ?_)
          refine lv_l2i hx hb dX2_divideByCaps_57 rfl ?_
          refine lv_topi (fun v20 ev20 => ?_)
          refine va_iast hx hb hE.1 hP hD hS 3 0 rfl rfl (vp_in_nI (n := i27) (by omega) (by decide)) dX2_divideByCaps_58 (fun H locs hP hD hS => ?_)
          refine k_re (w := [(oX2 s2 d0 d1 d2), (aIc cI d0 8 D0), (aJc cJ d2 8 a_d2_27), (aIc cI d1 8 (upd a_d1_27 (Int32.toNatClampNeg (nI i27)) v20))]) hP hD (fun hP hD => ?_)
          refine lv_aload_n hx hb dX2_divideByCaps_59 rfl (lv_at hl 4 rfl) ?_
          refine va_get (D := D) (ci := 2) (v := .ref d2) (C := RX2) (T := TX2) (N := 3) hx hb hts hiX2 hown hE.1 hP 0 rfl rfl 2 (by decide) (hts _ (List.mem_cons_of_mem _ wd_90)) (fun _ h9 => h9) rfl dX2_divideByCaps_60 ?_
          refine lv_iload hx hb dX2_divideByCaps_63 (lv_at hl 1 rfl) ?_
          refine lv_lload hx hb dX2_divideByCaps_65 (lv_at hl 0 rfl) ?_
          refine lv_lload_n hx hb dX2_divideByCaps_67 rfl (lv_at hl 3 rfl) ?_
          refine lv_lrem hx hb dX2_divideByCaps_68 (fun q9 => by rw [q9] at c5; exact absurd c5 (by decide)) ?_
          refine lv_topl (fun v21 ev21 => ?_)
          refine va_last hx hb hE.1 hP hD hS 2 1 rfl rfl (vp_in_nI (n := i27) (by omega) (by decide)) dX2_divideByCaps_69 (fun H locs hP hD hS => ?_)
          refine k_re (w := [(oX2 s2 d0 d1 d2), (aIc cI d0 8 D0), (aJc cJ d2 8 (vp_updL a_d2_27 (Int32.toNatClampNeg (nI i27)) v21)), (aIc cI d1 8 (upd a_d1_27 (Int32.toNatClampNeg (nI i27)) v20))]) hP hD (fun hP hD => ?_)
          refine lv_iload hx hb dX2_divideByCaps_70 (lv_at hl 2 rfl) ?_
          refine lv_aload_n hx hb dX2_divideByCaps_72 rfl (lv_at hl 4 rfl) ?_
          refine va_get (D := D) (ci := 2) (v := .ref d1) (C := RX2) (T := TX2) (N := 3) hx hb hts hiX2 hown hE.1 hP 0 rfl rfl 1 (by decide) (hts _ (List.mem_cons_of_mem _ wd_89)) (fun _ h9 => h9) rfl dX2_divideByCaps_73 ?_
          refine lv_iload hx hb dX2_divideByCaps_76 (lv_at hl 1 rfl) ?_
          refine va_iald hx hb hE.1 hP 3 0 rfl rfl (vp_in_nI (n := i27) (by omega) (by decide)) dX2_divideByCaps_78 ?_
          refine lv_topi (fun v22 ev22 => ?_)
          refine lv_isub hx hb dX2_divideByCaps_79 ?_
          refine lv_topi (fun v23 ev23 => ?_)
          refine lv_istore (lv' := [(4, .int v23), (6, .long v18), (5, .int (nI i27)), (2, .long v4), (0, .ref s2), (1, .int due)]) hx hb dX2_divideByCaps_80 hl (by decide) rfl (fun ls hl => ?_)
          refine lv_iinc (v := (nI (i27 + 1))) (lv' := [(5, .int (nI (i27 + 1))), (4, .int v23), (6, .long v18), (2, .long v4), (0, .ref s2), (1, .int due)]) hx hb dX2_divideByCaps_82 hl (k := 2) rfl (nI_1 _) (by decide) rfl (fun ls hl => ?_)
          refine lv_goto (tgt := 27) hx hb dX2_divideByCaps_85 (by decide) ?_
          exact ih27 (i27 + 1) v23 (upd a_d1_27 (Int32.toNatClampNeg (nI i27)) v20) (vp_updL a_d2_27 (Int32.toNatClampNeg (nI i27)) v21) (by omega) (by omega) _ _ _ hP hD hS (lv_sub hl [0, 1, 3, 4, 5] rfl)
    exact J27 _ 0 due (fl 8 0 D1) D2 (by omega) (Nat.lt_succ_self _) _ _ _ hP hD hS (lv_sub hl [0, 1, 2, 3, 4] rfl)
  · skip
    refine k_vret (u := [(oX2 s2 d0 d1 d2), (aIc cI d0 8 D0), (aIc cI d1 8 (fl 8 0 D1)), (aJc cJ d2 8 D2)]) hx hb hr hlk (k_sub hP [0, 1, 3, 2] rfl) (hD.sub [0, 1, 3, 2] (by decide +kernel) rfl) hS dX2_divideByCaps_20 ?_
    exact ⟨(fl 8 0 D1), D2, rfl⟩
theorem dX2_height_0 : decode cX2_height 0 = .ok (.iconst 0, 1) := by decide +kernel
theorem dX2_height_1 : decode cX2_height 1 = .ok (.istore_n 2, 1) := by decide +kernel
theorem dX2_height_2 : decode cX2_height 2 = .ok (.iconst 0, 1) := by decide +kernel
theorem dX2_height_3 : decode cX2_height 3 = .ok (.istore_n 3, 1) := by decide +kernel
theorem dX2_height_4 : decode cX2_height 4 = .ok (.iload_n 1, 1) := by decide +kernel
theorem dX2_height_5 : decode cX2_height 5 = .ok (.istore 4, 2) := by decide +kernel
theorem dX2_height_7 : decode cX2_height 7 = .ok (.bipush 8, 2) := by decide +kernel
theorem dX2_height_9 : decode cX2_height 9 = .ok (.istore 5, 2) := by decide +kernel
theorem dX2_height_11 : decode cX2_height 11 = .ok (.iconst 0, 1) := by decide +kernel
theorem dX2_height_12 : decode cX2_height 12 = .ok (.istore 6, 2) := by decide +kernel
theorem dX2_height_14 : decode cX2_height 14 = .ok (.iload 6, 2) := by decide +kernel
theorem dX2_height_16 : decode cX2_height 16 = .ok (.bipush 8, 2) := by decide +kernel
theorem dX2_height_18 : decode cX2_height 18 = .ok (.if_icmp .gt 117, 3) := by decide +kernel
theorem dX2_height_21 : decode cX2_height 21 = .ok (.iload 5, 2) := by decide +kernel
theorem dX2_height_23 : decode cX2_height 23 = .ok (.ifCond .le 112, 3) := by decide +kernel
theorem dX2_height_26 : decode cX2_height 26 = .ok (.iload 4, 2) := by decide +kernel
theorem dX2_height_28 : decode cX2_height 28 = .ok (.iload 5, 2) := by decide +kernel
theorem dX2_height_30 : decode cX2_height 30 = .ok (.idiv, 1) := by decide +kernel
theorem dX2_height_31 : decode cX2_height 31 = .ok (.istore 7, 2) := by decide +kernel
theorem dX2_height_33 : decode cX2_height 33 = .ok (.iload 5, 2) := by decide +kernel
theorem dX2_height_35 : decode cX2_height 35 = .ok (.istore 8, 2) := by decide +kernel
theorem dX2_height_37 : decode cX2_height 37 = .ok (.iconst 0, 1) := by decide +kernel
theorem dX2_height_38 : decode cX2_height 38 = .ok (.istore 9, 2) := by decide +kernel
theorem dX2_height_40 : decode cX2_height 40 = .ok (.iload 9, 2) := by decide +kernel
theorem dX2_height_42 : decode cX2_height 42 = .ok (.bipush 8, 2) := by decide +kernel
theorem dX2_height_44 : decode cX2_height 44 = .ok (.if_icmp .ge 75, 3) := by decide +kernel
theorem dX2_height_47 : decode cX2_height 47 = .ok (.iload_n 3, 1) := by decide +kernel
theorem dX2_height_48 : decode cX2_height 48 = .ok (.iload 9, 2) := by decide +kernel
theorem dX2_height_50 : decode cX2_height 50 = .ok (.ishr, 1) := by decide +kernel
theorem dX2_height_51 : decode cX2_height 51 = .ok (.iconst 1, 1) := by decide +kernel
theorem dX2_height_52 : decode cX2_height 52 = .ok (.iand, 1) := by decide +kernel
theorem dX2_height_53 : decode cX2_height 53 = .ok (.ifCond .ne 60, 3) := by decide +kernel
theorem dX2_height_56 : decode cX2_height 56 = .ok (.aload_n 0, 1) := by decide +kernel
theorem dX2_height_57 : decode cX2_height 57 = .ok (.getfield 9, 3) := by decide +kernel
theorem dX2_height_60 : decode cX2_height 60 = .ok (.iload 9, 2) := by decide +kernel
theorem dX2_height_62 : decode cX2_height 62 = .ok (.iaload, 1) := by decide +kernel
theorem dX2_height_63 : decode cX2_height 63 = .ok (.iload 7, 2) := by decide +kernel
theorem dX2_height_65 : decode cX2_height 65 = .ok (.if_icmp .gt 48, 3) := by decide +kernel
theorem dX2_height_68 : decode cX2_height 68 = .ok (.iload_n 3, 1) := by decide +kernel
theorem dX2_height_69 : decode cX2_height 69 = .ok (.iconst 1, 1) := by decide +kernel
theorem dX2_height_70 : decode cX2_height 70 = .ok (.iload 9, 2) := by decide +kernel
theorem dX2_height_72 : decode cX2_height 72 = .ok (.ishl, 1) := by decide +kernel
theorem dX2_height_73 : decode cX2_height 73 = .ok (.ior, 1) := by decide +kernel
theorem dX2_height_74 : decode cX2_height 74 = .ok (.istore_n 3, 1) := by decide +kernel
theorem dX2_height_75 : decode cX2_height 75 = .ok (.aload_n 0, 1) := by decide +kernel
theorem dX2_height_76 : decode cX2_height 76 = .ok (.getfield 9, 3) := by decide +kernel
theorem dX2_height_79 : decode cX2_height 79 = .ok (.iload 9, 2) := by decide +kernel
theorem dX2_height_81 : decode cX2_height 81 = .ok (.iaload, 1) := by decide +kernel
theorem dX2_height_82 : decode cX2_height 82 = .ok (.iload_n 2, 1) := by decide +kernel
theorem dX2_height_83 : decode cX2_height 83 = .ok (.if_icmp .le 13, 3) := by decide +kernel
theorem dX2_height_86 : decode cX2_height 86 = .ok (.aload_n 0, 1) := by decide +kernel
theorem dX2_height_87 : decode cX2_height 87 = .ok (.getfield 9, 3) := by decide +kernel
theorem dX2_height_90 : decode cX2_height 90 = .ok (.iload 9, 2) := by decide +kernel
theorem dX2_height_92 : decode cX2_height 92 = .ok (.iaload, 1) := by decide +kernel
theorem dX2_height_93 : decode cX2_height 93 = .ok (.goto 4, 3) := by decide +kernel
theorem dX2_height_96 : decode cX2_height 96 = .ok (.iload_n 2, 1) := by decide +kernel
theorem dX2_height_97 : decode cX2_height 97 = .ok (.istore_n 2, 1) := by decide +kernel
theorem dX2_height_98 : decode cX2_height 98 = .ok (.iload 4, 2) := by decide +kernel
theorem dX2_height_100 : decode cX2_height 100 = .ok (.aload_n 0, 1) := by decide +kernel
theorem dX2_height_101 : decode cX2_height 101 = .ok (.getfield 9, 3) := by decide +kernel
theorem dX2_height_104 : decode cX2_height 104 = .ok (.iload 9, 2) := by decide +kernel
theorem dX2_height_106 : decode cX2_height 106 = .ok (.iaload, 1) := by decide +kernel
theorem dX2_height_107 : decode cX2_height 107 = .ok (.isub, 1) := by decide +kernel
theorem dX2_height_108 : decode cX2_height 108 = .ok (.istore 4, 2) := by decide +kernel
theorem dX2_height_110 : decode cX2_height 110 = .ok (.iinc 5 (-1), 3) := by decide +kernel
theorem dX2_height_113 : decode cX2_height 113 = .ok (.iinc 9 1, 3) := by decide +kernel
theorem dX2_height_116 : decode cX2_height 116 = .ok (.goto (-76), 3) := by decide +kernel
theorem dX2_height_119 : decode cX2_height 119 = .ok (.iload 5, 2) := by decide +kernel
theorem dX2_height_121 : decode cX2_height 121 = .ok (.iload 8, 2) := by decide +kernel
theorem dX2_height_123 : decode cX2_height 123 = .ok (.if_icmp .ne 6, 3) := by decide +kernel
theorem dX2_height_126 : decode cX2_height 126 = .ok (.iload 7, 2) := by decide +kernel
theorem dX2_height_128 : decode cX2_height 128 = .ok (.ireturn, 1) := by decide +kernel
theorem dX2_height_129 : decode cX2_height 129 = .ok (.iinc 6 1, 3) := by decide +kernel
theorem dX2_height_132 : decode cX2_height 132 = .ok (.goto (-118), 3) := by decide +kernel
theorem dX2_height_135 : decode cX2_height 135 = .ok (.iload_n 2, 1) := by decide +kernel
theorem dX2_height_136 : decode cX2_height 136 = .ok (.ireturn, 1) := by decide +kernel
set_option maxHeartbeats 4000000 in
set_option maxRecDepth 100000 in
theorem m_X2_height (l : Launch) (D : va_G) (cI cJ : ClassId) (sz : Nat) (s2 d0 d1 d2 : Nat) (due : Int32) (D0 : Nat → Int32) : Met l yX2_height wtX2_height { frames := 0, cells := 0, slots := 0, locals := 0 } (cPc D cI cJ [.ref s2, .int due] sz [(oX2 s2 d0 d1 d2), (aIc cI d0 8 D0)]) (cQi D (fun r u => u = [(oX2 s2 d0 d1 d2), (aIc cI d0 8 D0)]) (va_A [(oX2 s2 d0 d1 d2), (aIc cI d0 8 D0)] sz)) 0 0 (va_A [(oX2 s2 d0 d1 d2), (aIc cI d0 8 D0)] sz) := by
  refine k_ofW (Qc := cQi D (fun r u => u = [(oX2 s2 d0 d1 d2), (aIc cI d0 8 D0)])) (by decide) rfl (Nat.le_of_ble_eq_true rfl) ?_
  intro p e s m below meth c A ls hx hb hr hml hts hown hlk hnm hsz hE hP hD hS hA hl
  have hown : s.vm.findClass RX2 = some m.cls := hown
  have hiX2 : ∀ w ∈ u_ws RX2 TX2 3, w ∈ wtX2_height := fun w h => List.mem_cons_of_mem _ (iuX2 w h)
  have hl : lv_has ls 10 [(0, .ref s2), (1, .int due)] := hl
  refine lv_iconst (v := 0) hx hb dX2_height_0 (by decide) ?_
  refine lv_istore_n (lv' := [(2, .int 0), (0, .ref s2), (1, .int due)]) hx hb dX2_height_1 rfl hl (by decide) rfl (fun ls hl => ?_)
  refine lv_iconst (v := 0) hx hb dX2_height_2 (by decide) ?_
  refine lv_istore_n (lv' := [(3, .int 0), (2, .int 0), (0, .ref s2), (1, .int due)]) hx hb dX2_height_3 rfl hl (by decide) rfl (fun ls hl => ?_)
  refine lv_iload_n hx hb dX2_height_4 rfl (lv_at hl 3 rfl) ?_
  refine lv_istore (lv' := [(4, .int due), (3, .int 0), (2, .int 0), (0, .ref s2), (1, .int due)]) hx hb dX2_height_5 hl (by decide) rfl (fun ls hl => ?_)
  refine lv_bipush (v := 8) hx hb dX2_height_7 (by decide) ?_
  refine lv_istore (lv' := [(5, .int 8), (4, .int due), (3, .int 0), (2, .int 0), (0, .ref s2), (1, .int due)]) hx hb dX2_height_9 hl (by decide) rfl (fun ls hl => ?_)
  refine lv_iconst (v := 0) hx hb dX2_height_11 (by decide) ?_
  refine lv_istore (lv' := [(6, .int 0), (5, .int 8), (4, .int due), (3, .int 0), (2, .int 0), (0, .ref s2), (1, .int due)]) hx hb dX2_height_12 hl (by decide) rfl (fun ls hl => ?_)
  have J14 : ∀ (zz : Nat) (i14 : Nat) (h2_14 h3_14 h4_14 h5_14 : Int32), (i14 ≤ 9) → (9 - i14) < zz → ∀ (H : Heap) (locs : List Loc) (ls : Array Slot), va_P D vwCl [(oX2 s2 d0 d1 d2), (aIc cI d0 8 D0)] H → va_D A [(oX2 s2 d0 d1 d2), (aIc cI d0 8 D0)] → va_S A s.heap H locs → lv_has ls 10 [(6, .int (nI i14)), (5, .int h5_14), (4, .int h4_14), (3, .int h3_14), (2, .int h2_14), (0, .ref s2), (1, .int due)] → W p l e { frames := 0, cells := 0, slots := 0, locals := 0 } s m [.ref s2, .int due].toArray below meth c H locs 0 0 (MQ below (cQi D (fun r u => u = [(oX2 s2 d0 d1 d2), (aIc cI d0 8 D0)]) A) [.ref s2, .int due].toArray s 0 0 A) (F0 m 14 ls []) := by
    intro zz
    induction zz with
    | zero => intro i14 h2_14 h3_14 h4_14 h5_14 _; exact fun h => absurd h (Nat.not_lt_zero _)
    | succ zz ih14 =>
      intro i14 h2_14 h3_14 h4_14 h5_14 hc6_14 hmu14 H locs ls hP hD hS hl
      refine lv_iload hx hb dX2_height_14 (lv_at hl 0 rfl) ?_
      refine lv_bipush (v := 8) hx hb dX2_height_16 (by decide) ?_
      refine lv_icmp_gt (tgt := 135) hx hb dX2_height_18 (by decide) (fun c1 => ?_) (fun c1 => ?_)
      · skip
        have nc1 : 8 < i14 := (nI_ltI (a := 8) (b := i14) (by omega) (by omega)).mp c1
        refine lv_iload_n hx hb dX2_height_135 rfl (lv_at hl 4 rfl) ?_
        refine k_iret (u := [(oX2 s2 d0 d1 d2), (aIc cI d0 8 D0)]) hx hb hr hlk hP hD hS dX2_height_136 ?_
        exact rfl
      · skip
        have nc1 : ¬ 8 < i14 := fun q9 => c1 ((nI_ltI (a := 8) (b := i14) (by omega) (by omega)).mpr q9)
        refine lv_iload hx hb dX2_height_21 (lv_at hl 1 rfl) ?_
        refine lv_if_le (tgt := 135) hx hb dX2_height_23 (by decide) (fun c2 => ?_) (fun c2 => ?_)
        · skip
          refine lv_iload_n hx hb dX2_height_135 rfl (lv_at hl 4 rfl) ?_
          refine k_iret (u := [(oX2 s2 d0 d1 d2), (aIc cI d0 8 D0)]) hx hb hr hlk hP hD hS dX2_height_136 ?_
          exact rfl
        · skip
          refine lv_iload hx hb dX2_height_26 (lv_at hl 2 rfl) ?_
          refine lv_iload hx hb dX2_height_28 (lv_at hl 1 rfl) ?_
          refine lv_idiv hx hb dX2_height_30 (fun q9 => c2 (by rw [q9]; decide)) ?_
          refine lv_topi (fun v3 ev3 => ?_)
          refine lv_istore (lv' := [(7, .int v3), (6, .int (nI i14)), (5, .int h5_14), (4, .int h4_14), (3, .int h3_14), (2, .int h2_14), (0, .ref s2), (1, .int due)]) hx hb dX2_height_31 hl (by decide) rfl (fun ls hl => ?_)
          refine lv_iload hx hb dX2_height_33 (lv_at hl 2 rfl) ?_
          refine lv_istore (lv' := [(8, .int h5_14), (7, .int v3), (6, .int (nI i14)), (5, .int h5_14), (4, .int h4_14), (3, .int h3_14), (2, .int h2_14), (0, .ref s2), (1, .int due)]) hx hb dX2_height_35 hl (by decide) rfl (fun ls hl => ?_)
          refine lv_iconst (v := 0) hx hb dX2_height_37 (by decide) ?_
          refine lv_istore (lv' := [(9, .int 0), (8, .int h5_14), (7, .int v3), (6, .int (nI i14)), (5, .int h5_14), (4, .int h4_14), (3, .int h3_14), (2, .int h2_14), (0, .ref s2), (1, .int due)]) hx hb dX2_height_38 hl (by decide) rfl (fun ls hl => ?_)
          have J40 : ∀ (zz : Nat) (j40 : Nat) (h2_40 h3_40 h4_40 h5_40 : Int32), (j40 ≤ 8) → (8 - j40) < zz → ∀ (H : Heap) (locs : List Loc) (ls : Array Slot), va_P D vwCl [(oX2 s2 d0 d1 d2), (aIc cI d0 8 D0)] H → va_D A [(oX2 s2 d0 d1 d2), (aIc cI d0 8 D0)] → va_S A s.heap H locs → lv_has ls 10 [(9, .int (nI j40)), (8, .int h5_14), (7, .int v3), (6, .int (nI i14)), (5, .int h5_40), (4, .int h4_40), (3, .int h3_40), (2, .int h2_40), (0, .ref s2), (1, .int due)] → W p l e { frames := 0, cells := 0, slots := 0, locals := 0 } s m [.ref s2, .int due].toArray below meth c H locs 0 0 (MQ below (cQi D (fun r u => u = [(oX2 s2 d0 d1 d2), (aIc cI d0 8 D0)]) A) [.ref s2, .int due].toArray s 0 0 A) (F0 m 40 ls []) := by
            intro zz
            induction zz with
            | zero => intro j40 h2_40 h3_40 h4_40 h5_40 _; exact fun h => absurd h (Nat.not_lt_zero _)
            | succ zz ih40 =>
              intro j40 h2_40 h3_40 h4_40 h5_40 hc9_40 hmu40 H locs ls hP hD hS hl
              refine lv_iload hx hb dX2_height_40 (lv_at hl 0 rfl) ?_
              refine lv_bipush (v := 8) hx hb dX2_height_42 (by decide) ?_
              refine lv_icmp_ge (tgt := 119) hx hb dX2_height_44 (by decide) (fun c4 => ?_) (fun c4 => ?_)
              · skip
                have nc4 : 8 ≤ j40 := (nI_leI (a := 8) (b := j40) (by omega) (by omega)).mp c4
                refine lv_iload hx hb dX2_height_119 (lv_at hl 4 rfl) ?_
                refine lv_iload hx hb dX2_height_121 (lv_at hl 1 rfl) ?_
                refine lv_icmp_ne (tgt := 129) hx hb dX2_height_123 (by decide) (fun c5 => ?_) (fun c5 => ?_)
                · skip
                  refine lv_iinc (v := (nI (i14 + 1))) (lv' := [(6, .int (nI (i14 + 1))), (9, .int (nI j40)), (8, .int h5_14), (7, .int v3), (5, .int h5_40), (4, .int h4_40), (3, .int h3_40), (2, .int h2_40), (0, .ref s2), (1, .int due)]) hx hb dX2_height_129 hl (k := 3) rfl (nI_1 _) (by decide) rfl (fun ls hl => ?_)
                  refine lv_goto (tgt := 14) hx hb dX2_height_132 (by decide) ?_
                  exact ih14 (i14 + 1) h2_40 h3_40 h4_40 h5_40 (by omega) (by omega) _ _ _ hP hD hS (lv_sub hl [0, 4, 5, 6, 7, 8, 9] rfl)
                · skip
                  refine lv_iload hx hb dX2_height_126 (lv_at hl 2 rfl) ?_
                  refine k_iret (u := [(oX2 s2 d0 d1 d2), (aIc cI d0 8 D0)]) hx hb hr hlk hP hD hS dX2_height_128 ?_
                  exact rfl
              · skip
                have nc4 : ¬ 8 ≤ j40 := fun q9 => c4 ((nI_leI (a := 8) (b := j40) (by omega) (by omega)).mpr q9)
                refine lv_iload_n hx hb dX2_height_47 rfl (lv_at hl 6 rfl) ?_
                refine lv_iload hx hb dX2_height_48 (lv_at hl 0 rfl) ?_
                refine lv_ishr hx hb dX2_height_50 ?_
                refine lv_topi (fun v6 ev6 => ?_)
                refine lv_iconst (v := 1) hx hb dX2_height_51 (by decide) ?_
                refine lv_iand hx hb dX2_height_52 ?_
                refine lv_topi (fun v7 ev7 => ?_)
                refine lv_if_ne (tgt := 113) hx hb dX2_height_53 (by decide) (fun c8 => ?_) (fun c8 => ?_)
                · skip
                  refine lv_iinc (v := (nI (j40 + 1))) (lv' := [(9, .int (nI (j40 + 1))), (8, .int h5_14), (7, .int v3), (6, .int (nI i14)), (5, .int h5_40), (4, .int h4_40), (3, .int h3_40), (2, .int h2_40), (0, .ref s2), (1, .int due)]) hx hb dX2_height_113 hl (k := 0) rfl (nI_1 _) (by decide) rfl (fun ls hl => ?_)
                  refine lv_goto (tgt := 40) hx hb dX2_height_116 (by decide) ?_
                  exact ih40 (j40 + 1) h2_40 h3_40 h4_40 h5_40 (by omega) (by omega) _ _ _ hP hD hS (lv_sub hl [0, 1, 2, 3, 4, 5, 6, 7, 8, 9] rfl)
                · skip
                  refine lv_aload_n hx hb dX2_height_56 rfl (lv_at hl 8 rfl) ?_
                  refine va_get (D := D) (ci := 2) (v := .ref d0) (C := RX2) (T := TX2) (N := 3) hx hb hts hiX2 hown hE.1 hP 0 rfl rfl 0 (by decide) (hts _ (List.mem_cons_of_mem _ wd_88)) (fun _ h9 => h9) rfl dX2_height_57 ?_
                  refine lv_iload hx hb dX2_height_60 (lv_at hl 0 rfl) ?_
                  refine va_iald hx hb hE.1 hP 1 0 rfl rfl (vp_in_nI (n := j40) (by omega) (by decide)) dX2_height_62 ?_
                  refine lv_topi (fun v9 ev9 => ?_)
                  refine lv_iload hx hb dX2_height_63 (lv_at hl 2 rfl) ?_
                  refine lv_icmp_gt (tgt := 113) hx hb dX2_height_65 (by decide) (fun c10 => ?_) (fun c10 => ?_)
                  · skip
                    refine lv_iinc (v := (nI (j40 + 1))) (lv' := [(9, .int (nI (j40 + 1))), (8, .int h5_14), (7, .int v3), (6, .int (nI i14)), (5, .int h5_40), (4, .int h4_40), (3, .int h3_40), (2, .int h2_40), (0, .ref s2), (1, .int due)]) hx hb dX2_height_113 hl (k := 0) rfl (nI_1 _) (by decide) rfl (fun ls hl => ?_)
                    refine lv_goto (tgt := 40) hx hb dX2_height_116 (by decide) ?_
                    exact ih40 (j40 + 1) h2_40 h3_40 h4_40 h5_40 (by omega) (by omega) _ _ _ hP hD hS (lv_sub hl [0, 1, 2, 3, 4, 5, 6, 7, 8, 9] rfl)
                  · skip
                    refine lv_iload_n hx hb dX2_height_68 rfl (lv_at hl 6 rfl) ?_
                    refine lv_iconst (v := 1) hx hb dX2_height_69 (by decide) ?_
                    refine lv_iload hx hb dX2_height_70 (lv_at hl 0 rfl) ?_
                    refine lv_ishl hx hb dX2_height_72 ?_
                    refine lv_topi (fun v11 ev11 => ?_)
                    refine lv_ior hx hb dX2_height_73 ?_
                    refine lv_topi (fun v12 ev12 => ?_)
                    refine lv_istore_n (lv' := [(3, .int v12), (9, .int (nI j40)), (8, .int h5_14), (7, .int v3), (6, .int (nI i14)), (5, .int h5_40), (4, .int h4_40), (2, .int h2_40), (0, .ref s2), (1, .int due)]) hx hb dX2_height_74 rfl hl (by decide) rfl (fun ls hl => ?_)
                    refine lv_aload_n hx hb dX2_height_75 rfl (lv_at hl 8 rfl) ?_
                    refine va_get (D := D) (ci := 2) (v := .ref d0) (C := RX2) (T := TX2) (N := 3) hx hb hts hiX2 hown hE.1 hP 0 rfl rfl 0 (by decide) (hts _ (List.mem_cons_of_mem _ wd_88)) (fun _ h9 => h9) rfl dX2_height_76 ?_
                    refine lv_iload hx hb dX2_height_79 (lv_at hl 1 rfl) ?_
                    refine va_iald hx hb hE.1 hP 1 0 rfl rfl (vp_in_nI (n := j40) (by omega) (by decide)) dX2_height_81 ?_
                    refine lv_topi (fun v13 ev13 => ?_)
                    refine lv_iload_n hx hb dX2_height_82 rfl (lv_at hl 7 rfl) ?_
                    refine lv_icmp_le (tgt := 96) hx hb dX2_height_83 (by decide) (fun c14 => ?_) (fun c14 => ?_)
                    · skip
                      refine lv_iload_n hx hb dX2_height_96 rfl (lv_at hl 7 rfl) ?_
                      refine lv_istore_n (lv' := [(2, .int h2_40), (3, .int v12), (9, .int (nI j40)), (8, .int h5_14), (7, .int v3), (6, .int (nI i14)), (5, .int h5_40), (4, .int h4_40), (0, .ref s2), (1, .int due)]) hx hb dX2_height_97 rfl hl (by decide) rfl (fun ls hl => ?_)
                      refine lv_iload hx hb dX2_height_98 (lv_at hl 7 rfl) ?_
                      refine lv_aload_n hx hb dX2_height_100 rfl (lv_at hl 8 rfl) ?_
                      refine va_get (D := D) (ci := 2) (v := .ref d0) (C := RX2) (T := TX2) (N := 3) hx hb hts hiX2 hown hE.1 hP 0 rfl rfl 0 (by decide) (hts _ (List.mem_cons_of_mem _ wd_88)) (fun _ h9 => h9) rfl dX2_height_101 ?_
                      refine lv_iload hx hb dX2_height_104 (lv_at hl 2 rfl) ?_
                      refine va_iald hx hb hE.1 hP 1 0 rfl rfl (vp_in_nI (n := j40) (by omega) (by decide)) dX2_height_106 ?_
                      refine lv_topi (fun v15 ev15 => ?_)
                      refine lv_isub hx hb dX2_height_107 ?_
                      refine lv_topi (fun v16 ev16 => ?_)
                      refine lv_istore (lv' := [(4, .int v16), (2, .int h2_40), (3, .int v12), (9, .int (nI j40)), (8, .int h5_14), (7, .int v3), (6, .int (nI i14)), (5, .int h5_40), (0, .ref s2), (1, .int due)]) hx hb dX2_height_108 hl (by decide) rfl (fun ls hl => ?_)
                      obtain ⟨v17, ev17⟩ : ∃ y : Int32, y = h5_40 + (-1) := ⟨_, rfl⟩
                      refine lv_iinc (v := v17) (lv' := [(5, .int v17), (4, .int v16), (2, .int h2_40), (3, .int v12), (9, .int (nI j40)), (8, .int h5_14), (7, .int v3), (6, .int (nI i14)), (0, .ref s2), (1, .int due)]) hx hb dX2_height_110 hl (k := 7) rfl (by rw [ev17]; rfl) (by decide) rfl (fun ls hl => ?_)
                      refine lv_iinc (v := (nI (j40 + 1))) (lv' := [(9, .int (nI (j40 + 1))), (5, .int v17), (4, .int v16), (2, .int h2_40), (3, .int v12), (8, .int h5_14), (7, .int v3), (6, .int (nI i14)), (0, .ref s2), (1, .int due)]) hx hb dX2_height_113 hl (k := 4) rfl (nI_1 _) (by decide) rfl (fun ls hl => ?_)
                      refine lv_goto (tgt := 40) hx hb dX2_height_116 (by decide) ?_
                      exact ih40 (j40 + 1) h2_40 v12 v16 v17 (by omega) (by omega) _ _ _ hP hD hS (lv_sub hl [0, 5, 6, 7, 1, 2, 4, 3, 8, 9] rfl)
                    · skip
                      refine lv_aload_n hx hb dX2_height_86 rfl (lv_at hl 8 rfl) ?_
                      refine va_get (D := D) (ci := 2) (v := .ref d0) (C := RX2) (T := TX2) (N := 3) hx hb hts hiX2 hown hE.1 hP 0 rfl rfl 0 (by decide) (hts _ (List.mem_cons_of_mem _ wd_88)) (fun _ h9 => h9) rfl dX2_height_87 ?_
                      refine lv_iload hx hb dX2_height_90 (lv_at hl 1 rfl) ?_
                      refine va_iald hx hb hE.1 hP 1 0 rfl rfl (vp_in_nI (n := j40) (by omega) (by decide)) dX2_height_92 ?_
                      refine lv_topi (fun v18 ev18 => ?_)
                      refine lv_goto (tgt := 97) hx hb dX2_height_93 (by decide) ?_
                      refine lv_istore_n (lv' := [(2, .int v18), (3, .int v12), (9, .int (nI j40)), (8, .int h5_14), (7, .int v3), (6, .int (nI i14)), (5, .int h5_40), (4, .int h4_40), (0, .ref s2), (1, .int due)]) hx hb dX2_height_97 rfl hl (by decide) rfl (fun ls hl => ?_)
                      refine lv_iload hx hb dX2_height_98 (lv_at hl 7 rfl) ?_
                      refine lv_aload_n hx hb dX2_height_100 rfl (lv_at hl 8 rfl) ?_
                      refine va_get (D := D) (ci := 2) (v := .ref d0) (C := RX2) (T := TX2) (N := 3) hx hb hts hiX2 hown hE.1 hP 0 rfl rfl 0 (by decide) (hts _ (List.mem_cons_of_mem _ wd_88)) (fun _ h9 => h9) rfl dX2_height_101 ?_
                      refine lv_iload hx hb dX2_height_104 (lv_at hl 2 rfl) ?_
                      refine va_iald hx hb hE.1 hP 1 0 rfl rfl (vp_in_nI (n := j40) (by omega) (by decide)) dX2_height_106 ?_
                      refine lv_topi (fun v19 ev19 => ?_)
                      refine lv_isub hx hb dX2_height_107 ?_
                      refine lv_topi (fun v20 ev20 => ?_)
                      refine lv_istore (lv' := [(4, .int v20), (2, .int v18), (3, .int v12), (9, .int (nI j40)), (8, .int h5_14), (7, .int v3), (6, .int (nI i14)), (5, .int h5_40), (0, .ref s2), (1, .int due)]) hx hb dX2_height_108 hl (by decide) rfl (fun ls hl => ?_)
                      obtain ⟨v21, ev21⟩ : ∃ y : Int32, y = h5_40 + (-1) := ⟨_, rfl⟩
                      refine lv_iinc (v := v21) (lv' := [(5, .int v21), (4, .int v20), (2, .int v18), (3, .int v12), (9, .int (nI j40)), (8, .int h5_14), (7, .int v3), (6, .int (nI i14)), (0, .ref s2), (1, .int due)]) hx hb dX2_height_110 hl (k := 7) rfl (by rw [ev21]; rfl) (by decide) rfl (fun ls hl => ?_)
                      refine lv_iinc (v := (nI (j40 + 1))) (lv' := [(9, .int (nI (j40 + 1))), (5, .int v21), (4, .int v20), (2, .int v18), (3, .int v12), (8, .int h5_14), (7, .int v3), (6, .int (nI i14)), (0, .ref s2), (1, .int due)]) hx hb dX2_height_113 hl (k := 4) rfl (nI_1 _) (by decide) rfl (fun ls hl => ?_)
                      refine lv_goto (tgt := 40) hx hb dX2_height_116 (by decide) ?_
                      exact ih40 (j40 + 1) v18 v12 v20 v21 (by omega) (by omega) _ _ _ hP hD hS (lv_sub hl [0, 5, 6, 7, 1, 2, 4, 3, 8, 9] rfl)
          exact J40 _ 0 h2_14 h3_14 h4_14 h5_14 (by omega) (Nat.lt_succ_self _) _ _ _ hP hD hS (lv_sub hl [0, 1, 2, 3, 4, 5, 6, 7, 8, 9] rfl)
  exact J14 _ 0 0 0 due 8 (by omega) (Nat.lt_succ_self _) _ _ _ hP hD hS (lv_sub hl [0, 1, 2, 3, 4, 5, 6] rfl)
theorem dX2_divideInSteps_0 : decode cX2_divideInSteps 0 = .ok (.aload_n 0, 1) := by decide +kernel
theorem dX2_divideInSteps_1 : decode cX2_divideInSteps 1 = .ok (.iload_n 1, 1) := by decide +kernel
theorem dX2_divideInSteps_2 : decode cX2_divideInSteps 2 = .ok (.invokevirtual 42, 3) := by decide +kernel
theorem dX2_divideInSteps_5 : decode cX2_divideInSteps 5 = .ok (.istore_n 2, 1) := by decide +kernel
theorem dX2_divideInSteps_6 : decode cX2_divideInSteps 6 = .ok (.iload_n 1, 1) := by decide +kernel
theorem dX2_divideInSteps_7 : decode cX2_divideInSteps 7 = .ok (.istore_n 3, 1) := by decide +kernel
theorem dX2_divideInSteps_8 : decode cX2_divideInSteps 8 = .ok (.iconst 0, 1) := by decide +kernel
theorem dX2_divideInSteps_9 : decode cX2_divideInSteps 9 = .ok (.istore 4, 2) := by decide +kernel
theorem dX2_divideInSteps_11 : decode cX2_divideInSteps 11 = .ok (.iload 4, 2) := by decide +kernel
theorem dX2_divideInSteps_13 : decode cX2_divideInSteps 13 = .ok (.bipush 8, 2) := by decide +kernel
theorem dX2_divideInSteps_15 : decode cX2_divideInSteps 15 = .ok (.if_icmp .ge 37, 3) := by decide +kernel
theorem dX2_divideInSteps_18 : decode cX2_divideInSteps 18 = .ok (.aload_n 0, 1) := by decide +kernel
theorem dX2_divideInSteps_19 : decode cX2_divideInSteps 19 = .ok (.getfield 15, 3) := by decide +kernel
theorem dX2_divideInSteps_22 : decode cX2_divideInSteps 22 = .ok (.iload 4, 2) := by decide +kernel
theorem dX2_divideInSteps_24 : decode cX2_divideInSteps 24 = .ok (.aload_n 0, 1) := by decide +kernel
theorem dX2_divideInSteps_25 : decode cX2_divideInSteps 25 = .ok (.getfield 9, 3) := by decide +kernel
theorem dX2_divideInSteps_28 : decode cX2_divideInSteps 28 = .ok (.iload 4, 2) := by decide +kernel
theorem dX2_divideInSteps_30 : decode cX2_divideInSteps 30 = .ok (.iaload, 1) := by decide +kernel
theorem dX2_divideInSteps_31 : decode cX2_divideInSteps 31 = .ok (.iload_n 2, 1) := by decide +kernel
theorem dX2_divideInSteps_32 : decode cX2_divideInSteps 32 = .ok (.invokestatic 46, 3) := by decide +kernel
theorem dX2_divideInSteps_35 : decode cX2_divideInSteps 35 = .ok (.iastore, 1) := by decide +kernel
theorem dX2_divideInSteps_36 : decode cX2_divideInSteps 36 = .ok (.iload_n 3, 1) := by decide +kernel
theorem dX2_divideInSteps_37 : decode cX2_divideInSteps 37 = .ok (.aload_n 0, 1) := by decide +kernel
theorem dX2_divideInSteps_38 : decode cX2_divideInSteps 38 = .ok (.getfield 15, 3) := by decide +kernel
theorem dX2_divideInSteps_41 : decode cX2_divideInSteps 41 = .ok (.iload 4, 2) := by decide +kernel
theorem dX2_divideInSteps_43 : decode cX2_divideInSteps 43 = .ok (.iaload, 1) := by decide +kernel
theorem dX2_divideInSteps_44 : decode cX2_divideInSteps 44 = .ok (.isub, 1) := by decide +kernel
theorem dX2_divideInSteps_45 : decode cX2_divideInSteps 45 = .ok (.istore_n 3, 1) := by decide +kernel
theorem dX2_divideInSteps_46 : decode cX2_divideInSteps 46 = .ok (.iinc 4 1, 3) := by decide +kernel
theorem dX2_divideInSteps_49 : decode cX2_divideInSteps 49 = .ok (.goto (-38), 3) := by decide +kernel
theorem dX2_divideInSteps_52 : decode cX2_divideInSteps 52 = .ok (.iconst 0, 1) := by decide +kernel
theorem dX2_divideInSteps_53 : decode cX2_divideInSteps 53 = .ok (.istore 4, 2) := by decide +kernel
theorem dX2_divideInSteps_55 : decode cX2_divideInSteps 55 = .ok (.iload 4, 2) := by decide +kernel
theorem dX2_divideInSteps_57 : decode cX2_divideInSteps 57 = .ok (.bipush 8, 2) := by decide +kernel
theorem dX2_divideInSteps_59 : decode cX2_divideInSteps 59 = .ok (.if_icmp .ge 38, 3) := by decide +kernel
theorem dX2_divideInSteps_62 : decode cX2_divideInSteps 62 = .ok (.iload_n 3, 1) := by decide +kernel
theorem dX2_divideInSteps_63 : decode cX2_divideInSteps 63 = .ok (.ifCond .le 34, 3) := by decide +kernel
theorem dX2_divideInSteps_66 : decode cX2_divideInSteps 66 = .ok (.aload_n 0, 1) := by decide +kernel
theorem dX2_divideInSteps_67 : decode cX2_divideInSteps 67 = .ok (.getfield 9, 3) := by decide +kernel
theorem dX2_divideInSteps_70 : decode cX2_divideInSteps 70 = .ok (.iload 4, 2) := by decide +kernel
theorem dX2_divideInSteps_72 : decode cX2_divideInSteps 72 = .ok (.iaload, 1) := by decide +kernel
theorem dX2_divideInSteps_73 : decode cX2_divideInSteps 73 = .ok (.iload_n 2, 1) := by decide +kernel
theorem dX2_divideInSteps_74 : decode cX2_divideInSteps 74 = .ok (.if_icmp .le 17, 3) := by decide +kernel
theorem dX2_divideInSteps_77 : decode cX2_divideInSteps 77 = .ok (.aload_n 0, 1) := by decide +kernel
theorem dX2_divideInSteps_78 : decode cX2_divideInSteps 78 = .ok (.getfield 15, 3) := by decide +kernel
theorem dX2_divideInSteps_81 : decode cX2_divideInSteps 81 = .ok (.iload 4, 2) := by decide +kernel
theorem dX2_divideInSteps_83 : decode cX2_divideInSteps 83 = .ok (.dup2, 1) := by decide +kernel
theorem dX2_divideInSteps_84 : decode cX2_divideInSteps 84 = .ok (.iaload, 1) := by decide +kernel
theorem dX2_divideInSteps_85 : decode cX2_divideInSteps 85 = .ok (.iconst 1, 1) := by decide +kernel
theorem dX2_divideInSteps_86 : decode cX2_divideInSteps 86 = .ok (.iadd, 1) := by decide +kernel
theorem dX2_divideInSteps_87 : decode cX2_divideInSteps 87 = .ok (.iastore, 1) := by decide +kernel
theorem dX2_divideInSteps_88 : decode cX2_divideInSteps 88 = .ok (.iinc 3 (-1), 3) := by decide +kernel
theorem dX2_divideInSteps_91 : decode cX2_divideInSteps 91 = .ok (.iinc 4 1, 3) := by decide +kernel
theorem dX2_divideInSteps_94 : decode cX2_divideInSteps 94 = .ok (.goto (-39), 3) := by decide +kernel
theorem dX2_divideInSteps_97 : decode cX2_divideInSteps 97 = .ok (.return_, 1) := by decide +kernel
theorem gX2_divideInSteps_X2_height : GoodIn wtX2_divideInSteps (wsV RX2 42 RX2 yX2_height wtX2_height) := tb_good (tb_v0 wd_386 wd_387 wd_388 wd_47 wd_389)
set_option maxHeartbeats 4000000 in
set_option maxRecDepth 100000 in
theorem m_X2_divideInSteps (l : Launch) (D : va_G) (cI cJ : ClassId) (sz : Nat) (s2 d0 d1 d2 : Nat) (due : Int32) (D0 D1 : Nat → Int32) : Met l yX2_divideInSteps wtX2_divideInSteps { frames := 1, cells := 0, slots := 0, locals := 29 } (cPc D cI cJ [.ref s2, .int due] sz [(oX2 s2 d0 d1 d2), (aIc cI d0 8 D0), (aIc cI d1 8 D1)]) (cQv D (fun u => ∃ (D1p : Nat → Int32), u = [(oX2 s2 d0 d1 d2), (aIc cI d0 8 D0), (aIc cI d1 8 D1p)]) (va_A [(oX2 s2 d0 d1 d2), (aIc cI d0 8 D0), (aIc cI d1 8 D1)] sz)) 0 0 (va_A [(oX2 s2 d0 d1 d2), (aIc cI d0 8 D0), (aIc cI d1 8 D1)] sz) := by
  refine k_ofW (Qc := cQv D (fun u => ∃ (D1p : Nat → Int32), u = [(oX2 s2 d0 d1 d2), (aIc cI d0 8 D0), (aIc cI d1 8 D1p)])) (by decide) rfl (Nat.le_of_ble_eq_true rfl) ?_
  intro p e s m below meth c A ls hx hb hr hml hts hown hlk hnm hsz hE hP hD hS hA hl
  have hown : s.vm.findClass RX2 = some m.cls := hown
  have hiX2 : ∀ w ∈ u_ws RX2 TX2 3, w ∈ wtX2_divideInSteps := fun w h => List.mem_cons_of_mem _ (iuX2 w h)
  have hl : lv_has ls 5 [(0, .ref s2), (1, .int due)] := hl
  refine lv_aload_n hx hb dX2_divideInSteps_0 rfl (lv_at hl 0 rfl) ?_
  refine lv_iload_n hx hb dX2_divideInSteps_1 rfl (lv_at hl 1 rfl) ?_
  refine k_iS (va_runV (As := [.int due]) (rest := []) ⟨hx, hb, hml, hown, hts⟩ (m_X2_height l D cI cJ (s.heap).size s2 d0 d1 d2 due D0) (cwV 1 hts gX2_divideInSteps_X2_height rfl rfl rfl (by decide +kernel) ⟨Nat.le_of_ble_eq_true rfl, Nat.le_of_ble_eq_true rfl⟩) (k_preV hE hP hD [0, 1] (by decide +kernel) rfl 0 rfl rfl) rfl rfl hl.1 rfl (lv_room (Nat.le_of_ble_eq_true rfl)) dX2_divideInSteps_2 ⟨Nat.le_of_ble_eq_true rfl, Nat.le_of_ble_eq_true rfl⟩) hP hD hS hA [0, 1] rfl (fun _ _ h9 => h9) (fun r1 H locs hw2 hP hD hS => ?_)
  refine lv_istore_n (lv' := [(2, .int r1), (0, .ref s2), (1, .int due)]) hx hb dX2_divideInSteps_5 rfl hl (by decide) rfl (fun ls hl => ?_)
  refine lv_iload_n hx hb dX2_divideInSteps_6 rfl (lv_at hl 2 rfl) ?_
  refine lv_istore_n (lv' := [(3, .int due), (2, .int r1), (0, .ref s2), (1, .int due)]) hx hb dX2_divideInSteps_7 rfl hl (by decide) rfl (fun ls hl => ?_)
  refine lv_iconst (v := 0) hx hb dX2_divideInSteps_8 (by decide) ?_
  refine lv_istore (lv' := [(4, .int 0), (3, .int due), (2, .int r1), (0, .ref s2), (1, .int due)]) hx hb dX2_divideInSteps_9 hl (by decide) rfl (fun ls hl => ?_)
  have J11 : ∀ (zz : Nat) (i11 : Nat) (h3_11 : Int32) (a_d1_11 : Nat → Int32), (i11 ≤ 8) → (8 - i11) < zz → ∀ (H : Heap) (locs : List Loc) (ls : Array Slot), va_P D vwCl [(oX2 s2 d0 d1 d2), (aIc cI d0 8 D0), (aIc cI d1 8 a_d1_11)] H → va_D A [(oX2 s2 d0 d1 d2), (aIc cI d0 8 D0), (aIc cI d1 8 a_d1_11)] → va_S A s.heap H locs → lv_has ls 5 [(4, .int (nI i11)), (3, .int h3_11), (2, .int r1), (0, .ref s2), (1, .int due)] → W p l e { frames := 1, cells := 0, slots := 0, locals := 29 } s m [.ref s2, .int due].toArray below meth c H locs 0 0 (MQ below (cQv D (fun u => ∃ (D1p : Nat → Int32), u = [(oX2 s2 d0 d1 d2), (aIc cI d0 8 D0), (aIc cI d1 8 D1p)]) A) [.ref s2, .int due].toArray s 0 0 A) (F0 m 11 ls []) := by
    intro zz
    induction zz with
    | zero => intro i11 h3_11 a_d1_11 _; exact fun h => absurd h (Nat.not_lt_zero _)
    | succ zz ih11 =>
      intro i11 h3_11 a_d1_11 hc4_11 hmu11 H locs ls hP hD hS hl
      refine lv_iload hx hb dX2_divideInSteps_11 (lv_at hl 0 rfl) ?_
      refine lv_bipush (v := 8) hx hb dX2_divideInSteps_13 (by decide) ?_
      refine lv_icmp_ge (tgt := 52) hx hb dX2_divideInSteps_15 (by decide) (fun c3 => ?_) (fun c3 => ?_)
      · skip
        have nc3 : 8 ≤ i11 := (nI_leI (a := 8) (b := i11) (by omega) (by omega)).mp c3
        refine lv_iconst (v := 0) hx hb dX2_divideInSteps_52 (by decide) ?_
        refine lv_istore (lv' := [(4, .int 0), (3, .int h3_11), (2, .int r1), (0, .ref s2), (1, .int due)]) hx hb dX2_divideInSteps_53 hl (by decide) rfl (fun ls hl => ?_)
        have J55 : ∀ (zz : Nat) (i55 : Nat) (h3_55 : Int32) (a_d1_55 : Nat → Int32), (i55 ≤ 8) → (8 - i55) < zz → ∀ (H : Heap) (locs : List Loc) (ls : Array Slot), va_P D vwCl [(oX2 s2 d0 d1 d2), (aIc cI d0 8 D0), (aIc cI d1 8 a_d1_55)] H → va_D A [(oX2 s2 d0 d1 d2), (aIc cI d0 8 D0), (aIc cI d1 8 a_d1_55)] → va_S A s.heap H locs → lv_has ls 5 [(4, .int (nI i55)), (3, .int h3_55), (2, .int r1), (0, .ref s2), (1, .int due)] → W p l e { frames := 1, cells := 0, slots := 0, locals := 29 } s m [.ref s2, .int due].toArray below meth c H locs 0 0 (MQ below (cQv D (fun u => ∃ (D1p : Nat → Int32), u = [(oX2 s2 d0 d1 d2), (aIc cI d0 8 D0), (aIc cI d1 8 D1p)]) A) [.ref s2, .int due].toArray s 0 0 A) (F0 m 55 ls []) := by
          intro zz
          induction zz with
          | zero => intro i55 h3_55 a_d1_55 _; exact fun h => absurd h (Nat.not_lt_zero _)
          | succ zz ih55 =>
            intro i55 h3_55 a_d1_55 hc4_55 hmu55 H locs ls hP hD hS hl
            refine lv_iload hx hb dX2_divideInSteps_55 (lv_at hl 0 rfl) ?_
            refine lv_bipush (v := 8) hx hb dX2_divideInSteps_57 (by decide) ?_
            refine lv_icmp_ge (tgt := 97) hx hb dX2_divideInSteps_59 (by decide) (fun c4 => ?_) (fun c4 => ?_)
            · skip
              have nc4 : 8 ≤ i55 := (nI_leI (a := 8) (b := i55) (by omega) (by omega)).mp c4
              refine k_vret (u := [(oX2 s2 d0 d1 d2), (aIc cI d0 8 D0), (aIc cI d1 8 a_d1_55)]) hx hb hr hlk hP hD hS dX2_divideInSteps_97 ?_
              exact ⟨a_d1_55, rfl⟩
            · skip
              have nc4 : ¬ 8 ≤ i55 := fun q9 => c4 ((nI_leI (a := 8) (b := i55) (by omega) (by omega)).mpr q9)
              refine lv_iload_n hx hb dX2_divideInSteps_62 rfl (lv_at hl 1 rfl) ?_
              refine lv_if_le (tgt := 97) hx hb dX2_divideInSteps_63 (by decide) (fun c5 => ?_) (fun c5 => ?_)
              · skip
                refine k_vret (u := [(oX2 s2 d0 d1 d2), (aIc cI d0 8 D0), (aIc cI d1 8 a_d1_55)]) hx hb hr hlk hP hD hS dX2_divideInSteps_97 ?_
                exact ⟨a_d1_55, rfl⟩
              · skip
                refine lv_aload_n hx hb dX2_divideInSteps_66 rfl (lv_at hl 3 rfl) ?_
                refine va_get (D := D) (ci := 2) (v := .ref d0) (C := RX2) (T := TX2) (N := 3) hx hb hts hiX2 hown hE.1 hP 0 rfl rfl 0 (by decide) (hts _ (List.mem_cons_of_mem _ wd_88)) (fun _ h9 => h9) rfl dX2_divideInSteps_67 ?_
                refine lv_iload hx hb dX2_divideInSteps_70 (lv_at hl 0 rfl) ?_
                refine va_iald hx hb hE.1 hP 1 0 rfl rfl (vp_in_nI (n := i55) (by omega) (by decide)) dX2_divideInSteps_72 ?_
                refine lv_topi (fun v6 ev6 => ?_)
                refine lv_iload_n hx hb dX2_divideInSteps_73 rfl (lv_at hl 2 rfl) ?_
                refine lv_icmp_le (tgt := 91) hx hb dX2_divideInSteps_74 (by decide) (fun c7 => ?_) (fun c7 => ?_)
                · skip
                  refine lv_iinc (v := (nI (i55 + 1))) (lv' := [(4, .int (nI (i55 + 1))), (3, .int h3_55), (2, .int r1), (0, .ref s2), (1, .int due)]) hx hb dX2_divideInSteps_91 hl (k := 0) rfl (nI_1 _) (by decide) rfl (fun ls hl => ?_)
                  refine lv_goto (tgt := 55) hx hb dX2_divideInSteps_94 (by decide) ?_
                  exact ih55 (i55 + 1) h3_55 a_d1_55 (by omega) (by omega) _ _ _ hP hD hS (lv_sub hl [0, 1, 2, 3, 4] rfl)
                · skip
                  refine lv_aload_n hx hb dX2_divideInSteps_77 rfl (lv_at hl 3 rfl) ?_
                  refine va_get (D := D) (ci := 2) (v := .ref d1) (C := RX2) (T := TX2) (N := 3) hx hb hts hiX2 hown hE.1 hP 0 rfl rfl 1 (by decide) (hts _ (List.mem_cons_of_mem _ wd_89)) (fun _ h9 => h9) rfl dX2_divideInSteps_78 ?_
                  refine lv_iload hx hb dX2_divideInSteps_81 (lv_at hl 0 rfl) ?_
                  refine lv_dup2_11 hx hb dX2_divideInSteps_83 rfl rfl ?_
                  refine va_iald hx hb hE.1 hP 2 0 rfl rfl (vp_in_nI (n := i55) (by omega) (by decide)) dX2_divideInSteps_84 ?_
                  refine lv_topi (fun v8 ev8 => ?_)
                  refine lv_iconst (v := 1) hx hb dX2_divideInSteps_85 (by decide) ?_
                  refine lv_iadd hx hb dX2_divideInSteps_86 ?_
                  refine lv_topi (fun v9 ev9 => ?_)
                  refine va_iast hx hb hE.1 hP hD hS 2 0 rfl rfl (vp_in_nI (n := i55) (by omega) (by decide)) dX2_divideInSteps_87 (fun H locs hP hD hS => ?_)
                  refine k_re (w := [(oX2 s2 d0 d1 d2), (aIc cI d0 8 D0), (aIc cI d1 8 (upd a_d1_55 (Int32.toNatClampNeg (nI i55)) v9))]) hP hD (fun hP hD => ?_)
                  obtain ⟨v10, ev10⟩ : ∃ y : Int32, y = h3_55 + (-1) := ⟨_, rfl⟩
                  refine lv_iinc (v := v10) (lv' := [(3, .int v10), (4, .int (nI i55)), (2, .int r1), (0, .ref s2), (1, .int due)]) hx hb dX2_divideInSteps_88 hl (k := 1) rfl (by rw [ev10]; rfl) (by decide) rfl (fun ls hl => ?_)
                  refine lv_iinc (v := (nI (i55 + 1))) (lv' := [(4, .int (nI (i55 + 1))), (3, .int v10), (2, .int r1), (0, .ref s2), (1, .int due)]) hx hb dX2_divideInSteps_91 hl (k := 1) rfl (nI_1 _) (by decide) rfl (fun ls hl => ?_)
                  refine lv_goto (tgt := 55) hx hb dX2_divideInSteps_94 (by decide) ?_
                  exact ih55 (i55 + 1) v10 (upd a_d1_55 (Int32.toNatClampNeg (nI i55)) v9) (by omega) (by omega) _ _ _ hP hD hS (lv_sub hl [0, 1, 2, 3, 4] rfl)
        exact J55 _ 0 h3_11 a_d1_11 (by omega) (Nat.lt_succ_self _) _ _ _ hP hD hS (lv_sub hl [0, 1, 2, 3, 4] rfl)
      · skip
        have nc3 : ¬ 8 ≤ i11 := fun q9 => c3 ((nI_leI (a := 8) (b := i11) (by omega) (by omega)).mpr q9)
        refine lv_aload_n hx hb dX2_divideInSteps_18 rfl (lv_at hl 3 rfl) ?_
        refine va_get (D := D) (ci := 2) (v := .ref d1) (C := RX2) (T := TX2) (N := 3) hx hb hts hiX2 hown hE.1 hP 0 rfl rfl 1 (by decide) (hts _ (List.mem_cons_of_mem _ wd_89)) (fun _ h9 => h9) rfl dX2_divideInSteps_19 ?_
        refine lv_iload hx hb dX2_divideInSteps_22 (lv_at hl 0 rfl) ?_
        refine lv_aload_n hx hb dX2_divideInSteps_24 rfl (lv_at hl 3 rfl) ?_
        refine va_get (D := D) (ci := 2) (v := .ref d0) (C := RX2) (T := TX2) (N := 3) hx hb hts hiX2 hown hE.1 hP 0 rfl rfl 0 (by decide) (hts _ (List.mem_cons_of_mem _ wd_88)) (fun _ h9 => h9) rfl dX2_divideInSteps_25 ?_
        refine lv_iload hx hb dX2_divideInSteps_28 (lv_at hl 0 rfl) ?_
        refine va_iald hx hb hE.1 hP 1 0 rfl rfl (vp_in_nI (n := i11) (by omega) (by decide)) dX2_divideInSteps_30 ?_
        refine lv_topi (fun v11 ev11 => ?_)
        refine lv_iload_n hx hb dX2_divideInSteps_31 rfl (lv_at hl 2 rfl) ?_
        refine va_mmin hx hb (by rw [hml]; exact hl.1.symm) hown (hts _ (List.mem_cons_of_mem _ wd_385)) (hts _ (List.mem_cons_of_mem _ wd_327)) (hts _ (List.mem_cons_of_mem _ wd_324)) (hts _ (List.mem_cons_of_mem _ wd_328)) (Nat.le_of_ble_eq_true rfl) (Nat.le_of_ble_eq_true rfl) (Nat.le_of_ble_eq_true rfl) (Nat.le_of_ble_eq_true rfl) dX2_divideInSteps_32 ?_
        refine lv_topi (fun v12 ev12 => ?_)
        refine va_iast hx hb hE.1 hP hD hS 2 0 rfl rfl (vp_in_nI (n := i11) (by omega) (by decide)) dX2_divideInSteps_35 (fun H locs hP hD hS => ?_)
        refine k_re (w := [(oX2 s2 d0 d1 d2), (aIc cI d0 8 D0), (aIc cI d1 8 (upd a_d1_11 (Int32.toNatClampNeg (nI i11)) v12))]) hP hD (fun hP hD => ?_)
        refine lv_iload_n hx hb dX2_divideInSteps_36 rfl (lv_at hl 1 rfl) ?_
        refine lv_aload_n hx hb dX2_divideInSteps_37 rfl (lv_at hl 3 rfl) ?_
        refine va_get (D := D) (ci := 2) (v := .ref d1) (C := RX2) (T := TX2) (N := 3) hx hb hts hiX2 hown hE.1 hP 0 rfl rfl 1 (by decide) (hts _ (List.mem_cons_of_mem _ wd_89)) (fun _ h9 => h9) rfl dX2_divideInSteps_38 ?_
        refine lv_iload hx hb dX2_divideInSteps_41 (lv_at hl 0 rfl) ?_
        refine va_iald hx hb hE.1 hP 2 0 rfl rfl (vp_in_nI (n := i11) (by omega) (by decide)) dX2_divideInSteps_43 ?_
        refine lv_topi (fun v13 ev13 => ?_)
        refine lv_isub hx hb dX2_divideInSteps_44 ?_
        refine lv_topi (fun v14 ev14 => ?_)
        refine lv_istore_n (lv' := [(3, .int v14), (4, .int (nI i11)), (2, .int r1), (0, .ref s2), (1, .int due)]) hx hb dX2_divideInSteps_45 rfl hl (by decide) rfl (fun ls hl => ?_)
        refine lv_iinc (v := (nI (i11 + 1))) (lv' := [(4, .int (nI (i11 + 1))), (3, .int v14), (2, .int r1), (0, .ref s2), (1, .int due)]) hx hb dX2_divideInSteps_46 hl (k := 1) rfl (nI_1 _) (by decide) rfl (fun ls hl => ?_)
        refine lv_goto (tgt := 11) hx hb dX2_divideInSteps_49 (by decide) ?_
        exact ih11 (i11 + 1) v14 (upd a_d1_11 (Int32.toNatClampNeg (nI i11)) v12) (by omega) (by omega) _ _ _ hP hD hS (lv_sub hl [0, 1, 2, 3, 4] rfl)
  exact J11 _ 0 due D1 (by omega) (Nat.lt_succ_self _) _ _ _ hP hD hS (lv_sub hl [0, 1, 2, 3, 4] rfl)
theorem dX2_divide_0 : decode cX2_divide 0 = .ok (.iload_n 1, 1) := by decide +kernel
theorem dX2_divide_1 : decode cX2_divide 1 = .ok (.ifCond .ne 11, 3) := by decide +kernel
theorem dX2_divide_4 : decode cX2_divide 4 = .ok (.aload_n 0, 1) := by decide +kernel
theorem dX2_divide_5 : decode cX2_divide 5 = .ok (.iload_n 2, 1) := by decide +kernel
theorem dX2_divide_6 : decode cX2_divide 6 = .ok (.invokevirtual 28, 3) := by decide +kernel
theorem dX2_divide_9 : decode cX2_divide 9 = .ok (.goto 8, 3) := by decide +kernel
theorem dX2_divide_12 : decode cX2_divide 12 = .ok (.aload_n 0, 1) := by decide +kernel
theorem dX2_divide_13 : decode cX2_divide 13 = .ok (.iload_n 2, 1) := by decide +kernel
theorem dX2_divide_14 : decode cX2_divide 14 = .ok (.invokevirtual 32, 3) := by decide +kernel
theorem dX2_divide_17 : decode cX2_divide 17 = .ok (.return_, 1) := by decide +kernel
theorem gX2_divide_X2_divideByCaps : GoodIn wtX2_divide (wsV RX2 28 RX2 yX2_divideByCaps wtX2_divideByCaps) := tb_good (tb_v0 wd_372 wd_373 wd_374 wd_47 wd_375)
theorem gX2_divide_X2_divideInSteps : GoodIn wtX2_divide (wsV RX2 32 RX2 yX2_divideInSteps wtX2_divideInSteps) := tb_good (tb_v0 wd_381 wd_382 wd_383 wd_47 wd_384)
set_option maxHeartbeats 4000000 in
set_option maxRecDepth 100000 in
theorem m_X2_divide (l : Launch) (D : va_G) (cI cJ : ClassId) (sz : Nat) (s2 d0 d1 d2 : Nat) (ru due : Int32) (D0 D1 : Nat → Int32) (D2 : Nat → Int64) : Met l yX2_divide wtX2_divide { frames := 2, cells := 0, slots := 0, locals := 53 } (cPc D cI cJ [.ref s2, .int ru, .int due] sz [(oX2 s2 d0 d1 d2), (aIc cI d0 8 D0), (aIc cI d1 8 D1), (aJc cJ d2 8 D2)]) (cQv D (fun u => ∃ (D1p : Nat → Int32) (D2p : Nat → Int64), u = [(oX2 s2 d0 d1 d2), (aIc cI d0 8 D0), (aIc cI d1 8 D1p), (aJc cJ d2 8 D2p)]) (va_A [(oX2 s2 d0 d1 d2), (aIc cI d0 8 D0), (aIc cI d1 8 D1), (aJc cJ d2 8 D2)] sz)) 0 0 (va_A [(oX2 s2 d0 d1 d2), (aIc cI d0 8 D0), (aIc cI d1 8 D1), (aJc cJ d2 8 D2)] sz) := by
  refine k_ofW (Qc := cQv D (fun u => ∃ (D1p : Nat → Int32) (D2p : Nat → Int64), u = [(oX2 s2 d0 d1 d2), (aIc cI d0 8 D0), (aIc cI d1 8 D1p), (aJc cJ d2 8 D2p)])) (by decide) rfl (Nat.le_of_ble_eq_true rfl) ?_
  intro p e s m below meth c A ls hx hb hr hml hts hown hlk hnm hsz hE hP hD hS hA hl
  have hown : s.vm.findClass RX2 = some m.cls := hown
  have hl : lv_has ls 3 [(0, .ref s2), (1, .int ru), (2, .int due)] := hl
  refine lv_iload_n hx hb dX2_divide_0 rfl (lv_at hl 1 rfl) ?_
  refine lv_if_ne (tgt := 12) hx hb dX2_divide_1 (by decide) (fun c1 => ?_) (fun c1 => ?_)
  · skip
    refine lv_aload_n hx hb dX2_divide_12 rfl (lv_at hl 0 rfl) ?_
    refine lv_iload_n hx hb dX2_divide_13 rfl (lv_at hl 2 rfl) ?_
    refine k_v (va_runV (As := [.int due]) (rest := []) ⟨hx, hb, hml, hown, hts⟩ (m_X2_divideInSteps l D cI cJ (s.heap).size s2 d0 d1 d2 due D0 D1) (cwV 1 hts gX2_divide_X2_divideInSteps rfl rfl rfl (by decide +kernel) ⟨Nat.le_of_ble_eq_true rfl, Nat.le_of_ble_eq_true rfl⟩) (k_preV hE hP hD [0, 1, 2] (by decide +kernel) rfl 0 rfl rfl) rfl rfl hl.1 rfl (lv_room (Nat.le_of_ble_eq_true rfl)) dX2_divide_14 ⟨Nat.le_of_ble_eq_true rfl, Nat.le_of_ble_eq_true rfl⟩) hP hD hS hA [0, 1, 2] [3] rfl (wr := [(aJc cJ d2 8 D2)]) rfl (by decide +kernel) (by decide +kernel) (fun u H locs hw2 hP hD hS => ?_)
    obtain ⟨z3, rfl⟩ := hw2
    refine k_re (w := [(aJc cJ d2 8 D2), (oX2 s2 d0 d1 d2), (aIc cI d0 8 D0), (aIc cI d1 8 z3)]) hP hD (fun hP hD => ?_)
    refine k_vret (u := [(oX2 s2 d0 d1 d2), (aIc cI d0 8 D0), (aIc cI d1 8 z3), (aJc cJ d2 8 D2)]) hx hb hr hlk (k_sub hP [1, 2, 3, 0] rfl) (hD.sub [1, 2, 3, 0] (by decide +kernel) rfl) hS dX2_divide_17 ?_
    exact ⟨z3, D2, rfl⟩
  · skip
    refine lv_aload_n hx hb dX2_divide_4 rfl (lv_at hl 0 rfl) ?_
    refine lv_iload_n hx hb dX2_divide_5 rfl (lv_at hl 2 rfl) ?_
    refine k_v (va_runV (As := [.int due]) (rest := []) ⟨hx, hb, hml, hown, hts⟩ (m_X2_divideByCaps l D cI cJ (s.heap).size s2 d0 d1 d2 due D0 D1 D2) (cwV 1 hts gX2_divide_X2_divideByCaps rfl rfl rfl (by decide +kernel) ⟨Nat.le_of_ble_eq_true rfl, Nat.le_of_ble_eq_true rfl⟩) (k_preV hE hP hD [0, 1, 2, 3] (by decide +kernel) rfl 0 rfl rfl) rfl rfl hl.1 rfl (lv_room (Nat.le_of_ble_eq_true rfl)) dX2_divide_6 ⟨Nat.le_of_ble_eq_true rfl, Nat.le_of_ble_eq_true rfl⟩) hP hD hS hA [0, 1, 2, 3] [] rfl (wr := []) rfl (by decide +kernel) (by decide +kernel) (fun u H locs hw4 hP hD hS => ?_)
    obtain ⟨z5, z6, rfl⟩ := hw4
    refine k_re (w := [(oX2 s2 d0 d1 d2), (aIc cI d0 8 D0), (aIc cI d1 8 z5), (aJc cJ d2 8 z6)]) hP hD (fun hP hD => ?_)
    refine lv_goto (tgt := 17) hx hb dX2_divide_9 (by decide) ?_
    refine k_vret (u := [(oX2 s2 d0 d1 d2), (aIc cI d0 8 D0), (aIc cI d1 8 z5), (aJc cJ d2 8 z6)]) hx hb hr hlk hP hD hS dX2_divide_17 ?_
    exact ⟨z5, z6, rfl⟩

