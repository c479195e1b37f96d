set_option maxHeartbeats 4000000 in
set_option maxRecDepth 100000 in
theorem e_X2_clear (l : Launch) (D : va_G) (cI cJ : ClassId) (sz : Nat) (s2 d0 d1 d2 : Nat) (D0 : Nat → Int32) : Met l yX2_clear wtX2_clear { frames := 1, cells := 0, slots := 0, locals := 23 } (cPc D cI cJ [.ref s2] sz [(oX2 s2 d0 d1 d2), (aIc cI d0 8 D0)]) (cQv D (fun u => ∃ (D0p : Nat → Int32), (∀ k, k < 8 → D0p k = 0) ∧ u = [(oX2 s2 d0 d1 d2), (aIc cI d0 8 D0p)]) (va_A [(oX2 s2 d0 d1 d2), (aIc cI d0 8 D0)] sz)) 0 0 (va_A [(oX2 s2 d0 d1 d2), (aIc cI d0 8 D0)] sz) := by
  refine k_ofW (Qc := cQv D (fun u => ∃ (D0p : Nat → Int32), (∀ k, k < 8 → D0p k = 0) ∧ u = [(oX2 s2 d0 d1 d2), (aIc cI d0 8 D0p)])) (by decide) rfl (Nat.le_of_ble_eq_true rfl) ?_
  intro p e s m below meth c A ls hx hb hr hml hts hown hlk hnm hsz hE hP hD hS hA hl
  have hown : s.vm.findClass RX2 = some m.cls := hown
  have hiX2 : ∀ w ∈ u_ws RX2 TX2 3, w ∈ wtX2_clear := fun w h => List.mem_cons_of_mem _ (iuX2 w h)
  have hl : lv_has ls 1 [(0, .ref s2)] := hl
  refine lv_aload_n hx hb dX2_clear_0 rfl (lv_at hl 0 rfl) ?_
  refine va_get (D := D) (ci := 2) (v := .ref d0) (C := RX2) (T := TX2) (N := 3) hx hb hts hiX2 hown hE.1 hP 0 rfl rfl 0 (by decide) (hts _ (List.mem_cons_of_mem _ wd_88)) (fun _ h9 => h9) rfl dX2_clear_1 ?_
  refine lv_iconst (v := 0) hx hb dX2_clear_4 (by decide) ?_
  refine k_v (va_runS (As := [.ref d0, .int 0]) (rest := []) ⟨hx, hb, hml, hown, hts⟩ (m_J7_fill l D cI cJ (s.heap).size d0 0 8 D0 (by decide)) (va_cwS 2 hts gX2_clear_J7_fill_53178 rfl rfl rfl (by decide +kernel) ⟨Nat.le_of_ble_eq_true rfl, Nat.le_of_ble_eq_true rfl⟩) (k_pre hE hP hD [1] (by decide +kernel) rfl) rfl rfl hl.1 rfl (lv_room (Nat.le_of_ble_eq_true rfl)) dX2_clear_5 ⟨Nat.le_of_ble_eq_true rfl, Nat.le_of_ble_eq_true rfl⟩) hP hD hS hA [1] [0] rfl (wr := [(oX2 s2 d0 d1 d2)]) rfl (by decide +kernel) (by decide +kernel) (fun u H locs hw1 hP hD hS => ?_)
  subst hw1
  refine k_re (w := [(oX2 s2 d0 d1 d2), (aIc cI d0 8 (fl 8 0 D0))]) hP hD (fun hP hD => ?_)
  refine k_vret (u := [(oX2 s2 d0 d1 d2), (aIc cI d0 8 (fl 8 0 D0))]) hx hb hr hlk hP hD hS dX2_clear_8 ?_
  exact ⟨(fl 8 0 D0), (fun k hk => if_pos hk), rfl⟩
set_option maxHeartbeats 4000000 in
set_option maxRecDepth 100000 in
theorem e_X2_capsTogether (l : Launch) (D : va_G) (cI cJ : ClassId) (sz : Nat) (s2 d0 d1 d2 : Nat) (D0 : Nat → Int32) (c0 : Nat → Nat) (hcv : nv D0 c0) (hcb : ∀ k, k < 8 → c0 k ≤ 1000000) : Met l yX2_capsTogether wtX2_capsTogether { frames := 0, cells := 0, slots := 0, locals := 0 } (cPc D cI cJ [.ref s2] sz [(oX2 s2 d0 d1 d2), (aIc cI d0 8 D0)]) (cQi D (fun r u => r = (nI (sm c0 8)) ∧ u = [(oX2 s2 d0 d1 d2), (aIc cI d0 8 D0)]) (va_A [(oX2 s2 d0 d1 d2), (aIc cI d0 8 D0)] sz)) 0 0 (va_A [(oX2 s2 d0 d1 d2), (aIc cI d0 8 D0)] sz) := by
  refine k_ofW (Qc := cQi D (fun r u => r = (nI (sm c0 8)) ∧ u = [(oX2 s2 d0 d1 d2), (aIc cI d0 8 D0)])) (by decide) rfl (Nat.le_of_ble_eq_true rfl) ?_
  intro p e s m below meth c A ls hx hb hr hml hts hown hlk hnm hsz hE hP hD hS hA hl
  have hown : s.vm.findClass RX2 = some m.cls := hown
  have hiX2 : ∀ w ∈ u_ws RX2 TX2 3, w ∈ wtX2_capsTogether := fun w h => List.mem_cons_of_mem _ (iuX2 w h)
  have hl : lv_has ls 3 [(0, .ref s2)] := hl
  refine lv_iconst (v := 0) hx hb dX2_capsTogether_0 (by decide) ?_
  refine lv_istore_n (lv' := [(1, .int 0), (0, .ref s2)]) hx hb dX2_capsTogether_1 rfl hl (by decide) rfl (fun ls hl => ?_)
  refine lv_iconst (v := 0) hx hb dX2_capsTogether_2 (by decide) ?_
  refine lv_istore_n (lv' := [(2, .int 0), (1, .int 0), (0, .ref s2)]) hx hb dX2_capsTogether_3 rfl hl (by decide) rfl (fun ls hl => ?_)
  have J4 : ∀ (zz : Nat) (i4 h1_4 : Nat), (i4 ≤ 8) → (h1_4 = sm c0 i4) → (8 - i4) < zz → ∀ (H : Heap) (locs : List Loc) (ls : Array Slot), va_P D vwCl [(oX2 s2 d0 d1 d2), (aIc cI d0 8 D0)] H → va_D A [(oX2 s2 d0 d1 d2), (aIc cI d0 8 D0)] → va_S A s.heap H locs → lv_has ls 3 [(2, .int (nI i4)), (1, .int (nI h1_4)), (0, .ref s2)] → W p l e { frames := 0, cells := 0, slots := 0, locals := 0 } s m [.ref s2].toArray below meth c H locs 0 0 (MQ below (cQi D (fun r u => r = (nI (sm c0 8)) ∧ u = [(oX2 s2 d0 d1 d2), (aIc cI d0 8 D0)]) A) [.ref s2].toArray s 0 0 A) (F0 m 4 ls []) := by
    intro zz
    induction zz with
    | zero => intro i4 h1_4 _ _; exact fun h => absurd h (Nat.not_lt_zero _)
    | succ zz ih4 =>
      intro i4 h1_4 hc2_4 hs_4 hmu4 H locs ls hP hD hS hl
      refine lv_iload_n hx hb dX2_capsTogether_4 rfl (lv_at hl 0 rfl) ?_
      refine lv_bipush (v := 8) hx hb dX2_capsTogether_5 (by decide) ?_
      refine lv_icmp_ge (tgt := 25) hx hb dX2_capsTogether_7 (by decide) (fun c1 => ?_) (fun c1 => ?_)
      · skip
        have nc1 : 8 ≤ i4 := (nI_leI (a := 8) (b := i4) (by omega) (by omega)).mp c1
        refine lv_iload_n hx hb dX2_capsTogether_25 rfl (lv_at hl 1 rfl) ?_
        refine k_iret (u := [(oX2 s2 d0 d1 d2), (aIc cI d0 8 D0)]) hx hb hr hlk hP hD hS dX2_capsTogether_26 ?_
        exact ⟨(by obtain rfl : i4 = 8 := (by omega); rw [hs_4]), rfl⟩
      · skip
        have nc1 : ¬ 8 ≤ i4 := fun q9 => c1 ((nI_leI (a := 8) (b := i4) (by omega) (by omega)).mpr q9)
        refine lv_iload_n hx hb dX2_capsTogether_10 rfl (lv_at hl 1 rfl) ?_
        refine lv_aload_n hx hb dX2_capsTogether_11 rfl (lv_at hl 2 rfl) ?_
        refine va_get (D := D) (ci := 2) (v := .ref d0) (C := RX2) (T := TX2) (N := 3) hx hb hts hiX2 hown hE.1 hP 0 rfl rfl 0 (by decide) (hts _ (List.mem_cons_of_mem _ wd_88)) (fun _ h9 => h9) rfl dX2_capsTogether_12 ?_
        refine lv_iload_n hx hb dX2_capsTogether_15 rfl (lv_at hl 0 rfl) ?_
        refine va_iald hx hb hE.1 hP 1 0 rfl rfl (vp_in_nI (n := i4) (by omega) (by decide)) dX2_capsTogether_16 ?_
        refine lv_topi (fun v2 ev2 => ?_)
        obtain rfl : v2 = nI (c0 i4) := ev2.trans (nv_at hcv (by omega))
        refine lv_iadd hx hb dX2_capsTogether_17 ?_
        refine lv_topi (fun v3 ev3 => ?_)
        obtain rfl : v3 = (nI (h1_4 + (c0 i4))) := by rw [ev3]; exact nI_add h1_4 (c0 i4)
        refine lv_istore_n (lv' := [(1, .int (nI (h1_4 + (c0 i4)))), (2, .int (nI i4)), (0, .ref s2)]) hx hb dX2_capsTogether_18 rfl hl (by decide) rfl (fun ls hl => ?_)
        refine lv_iinc (v := (nI (i4 + 1))) (lv' := [(2, .int (nI (i4 + 1))), (1, .int (nI (h1_4 + (c0 i4)))), (0, .ref s2)]) hx hb dX2_capsTogether_19 hl (k := 1) rfl (nI_1 _) (by decide) rfl (fun ls hl => ?_)
        refine lv_goto (tgt := 4) hx hb dX2_capsTogether_22 (by decide) ?_
        exact ih4 (i4 + 1) (h1_4 + (c0 i4)) (by omega) (by rw [hs_4]; rfl) (by omega) _ _ _ hP hD hS (lv_sub hl [0, 1, 2] rfl)
  exact J4 _ 0 0 (by omega) rfl (Nat.lt_succ_self _) _ _ _ hP hD hS (lv_sub hl [0, 1, 2] rfl)
set_option maxHeartbeats 4000000 in
set_option maxRecDepth 100000 in
theorem e_X2_mostLost (l : Launch) (D : va_G) (cI cJ : ClassId) (sz : Nat) (s2 d0 d1 d2 : Nat) (D2 : Nat → Int64) : Met l yX2_mostLost wtX2_mostLost { frames := 0, cells := 0, slots := 0, locals := 0 } (cPc D cI cJ [.ref s2] sz [(oX2 s2 d0 d1 d2), (aJc cJ d2 8 D2)]) (cQi D (fun r u => r = (nI (fm D2 8)) ∧ u = [(oX2 s2 d0 d1 d2), (aJc cJ d2 8 D2)]) (va_A [(oX2 s2 d0 d1 d2), (aJc cJ d2 8 D2)] sz)) 0 0 (va_A [(oX2 s2 d0 d1 d2), (aJc cJ d2 8 D2)] sz) := by
  refine k_ofW (Qc := cQi D (fun r u => r = (nI (fm D2 8)) ∧ u = [(oX2 s2 d0 d1 d2), (aJc cJ d2 8 D2)])) (by decide) rfl (Nat.le_of_ble_eq_true rfl) ?_
  intro p e s m below meth c A ls hx hb hr hml hts hown hlk hnm hsz hE hP hD hS hA hl
  have hown : s.vm.findClass RX2 = some m.cls := hown
  have hiX2 : ∀ w ∈ u_ws RX2 TX2 3, w ∈ wtX2_mostLost := fun w h => List.mem_cons_of_mem _ (iuX2 w h)
  have hl : lv_has ls 3 [(0, .ref s2)] := hl
  refine lv_iconst (v := 0) hx hb dX2_mostLost_0 (by decide) ?_
  refine lv_istore_n (lv' := [(1, .int 0), (0, .ref s2)]) hx hb dX2_mostLost_1 rfl hl (by decide) rfl (fun ls hl => ?_)
  refine lv_iconst (v := 1) hx hb dX2_mostLost_2 (by decide) ?_
  refine lv_istore_n (lv' := [(2, .int 1), (1, .int 0), (0, .ref s2)]) hx hb dX2_mostLost_3 rfl hl (by decide) rfl (fun ls hl => ?_)
  have J4 : ∀ (zz : Nat) (i4 h1_4 : Nat), (i4 ≤ 8) → (h1_4 = fm D2 i4) → (h1_4 < 8) → (1 ≤ i4) → (8 - i4) < zz → ∀ (H : Heap) (locs : List Loc) (ls : Array Slot), va_P D vwCl [(oX2 s2 d0 d1 d2), (aJc cJ d2 8 D2)] H → va_D A [(oX2 s2 d0 d1 d2), (aJc cJ d2 8 D2)] → va_S A s.heap H locs → lv_has ls 3 [(2, .int (nI i4)), (1, .int (nI h1_4)), (0, .ref s2)] → W p l e { frames := 0, cells := 0, slots := 0, locals := 0 } s m [.ref s2].toArray below meth c H locs 0 0 (MQ below (cQi D (fun r u => r = (nI (fm D2 8)) ∧ u = [(oX2 s2 d0 d1 d2), (aJc cJ d2 8 D2)]) A) [.ref s2].toArray s 0 0 A) (F0 m 4 ls []) := by
    intro zz
    induction zz with
    | zero => intro i4 h1_4 _ _ _ _; exact fun h => absurd h (Nat.not_lt_zero _)
    | succ zz ih4 =>
      intro i4 h1_4 hc2_4 hm_4 hb8_4 hge1_4 hmu4 H locs ls hP hD hS hl
      refine lv_iload_n hx hb dX2_mostLost_4 rfl (lv_at hl 0 rfl) ?_
      refine lv_bipush (v := 8) hx hb dX2_mostLost_5 (by decide) ?_
      refine lv_icmp_ge (tgt := 34) hx hb dX2_mostLost_7 (by decide) (fun c1 => ?_) (fun c1 => ?_)
      · skip
        have nc1 : 8 ≤ i4 := (nI_leI (a := 8) (b := i4) (by omega) (by omega)).mp c1
        refine lv_iload_n hx hb dX2_mostLost_34 rfl (lv_at hl 1 rfl) ?_
        refine k_iret (u := [(oX2 s2 d0 d1 d2), (aJc cJ d2 8 D2)]) hx hb hr hlk hP hD hS dX2_mostLost_35 ?_
        exact ⟨(by obtain rfl : i4 = 8 := (by omega); rw [hm_4]), rfl⟩
      · skip
        have nc1 : ¬ 8 ≤ i4 := fun q9 => c1 ((nI_leI (a := 8) (b := i4) (by omega) (by omega)).mpr q9)
        refine lv_aload_n hx hb dX2_mostLost_10 rfl (lv_at hl 2 rfl) ?_
        refine va_get (D := D) (ci := 2) (v := .ref d2) (C := RX2) (T := TX2) (N := 3) hx hb hts hiX2 hown hE.1 hP 0 rfl rfl 2 (by decide) (hts _ (List.mem_cons_of_mem _ wd_90)) (fun _ h9 => h9) rfl dX2_mostLost_11 ?_
        refine lv_iload_n hx hb dX2_mostLost_14 rfl (lv_at hl 0 rfl) ?_
        refine va_lald hx hb hE.1 hP 1 1 rfl rfl (vp_in_nI (n := i4) (by omega) (by decide)) dX2_mostLost_15 ?_
        refine lv_topl (fun v2 ev2 => ?_)
        refine lv_aload_n hx hb dX2_mostLost_16 rfl (lv_at hl 2 rfl) ?_
        refine va_get (D := D) (ci := 2) (v := .ref d2) (C := RX2) (T := TX2) (N := 3) hx hb hts hiX2 hown hE.1 hP 0 rfl rfl 2 (by decide) (hts _ (List.mem_cons_of_mem _ wd_90)) (fun _ h9 => h9) rfl dX2_mostLost_17 ?_
        refine lv_iload_n hx hb dX2_mostLost_20 rfl (lv_at hl 1 rfl) ?_
        refine va_lald hx hb hE.1 hP 1 1 rfl rfl (vp_in_nI (n := h1_4) (by omega) (by decide)) dX2_mostLost_21 ?_
        refine lv_topl (fun v3 ev3 => ?_)
        refine k_lcmp_le (tgt := 28) hx hb dX2_mostLost_22 dX2_mostLost_23 (by decide) (fun c4 => ?_) (fun c4 => ?_)
        · skip
          refine lv_iinc (v := (nI (i4 + 1))) (lv' := [(2, .int (nI (i4 + 1))), (1, .int (nI h1_4)), (0, .ref s2)]) hx hb dX2_mostLost_28 hl (k := 0) rfl (nI_1 _) (by decide) rfl (fun ls hl => ?_)
          refine lv_goto (tgt := 4) hx hb dX2_mostLost_31 (by decide) ?_
          exact ih4 (i4 + 1) h1_4 (by omega) (fm_keep (by omega) hm_4 hb8_4 ev2 ev3 c4) hb8_4 (by omega) (by omega) _ _ _ hP hD hS (lv_sub hl [0, 1, 2] rfl)
        · skip
          refine lv_iload_n hx hb dX2_mostLost_26 rfl (lv_at hl 0 rfl) ?_
          refine lv_istore_n (lv' := [(1, .int (nI i4)), (2, .int (nI i4)), (0, .ref s2)]) hx hb dX2_mostLost_27 rfl hl (by decide) rfl (fun ls hl => ?_)
          refine lv_iinc (v := (nI (i4 + 1))) (lv' := [(2, .int (nI (i4 + 1))), (1, .int (nI i4)), (0, .ref s2)]) hx hb dX2_mostLost_28 hl (k := 1) rfl (nI_1 _) (by decide) rfl (fun ls hl => ?_)
          refine lv_goto (tgt := 4) hx hb dX2_mostLost_31 (by decide) ?_
          exact ih4 (i4 + 1) i4 (by omega) (fm_new (by omega) hm_4 hb8_4 ev2 ev3 c4) (by omega) (by omega) (by omega) _ _ _ hP hD hS (lv_sub hl [0, 1, 2] rfl)
  exact J4 _ 1 0 (by omega) fm_1.symm (by omega) (by omega) (Nat.lt_succ_self _) _ _ _ hP hD hS (lv_sub hl [0, 1, 2] rfl)
set_option maxHeartbeats 4000000 in
set_option maxRecDepth 100000 in
theorem e_X2_divideByCaps (l : Launch) (D : va_G) (cI cJ : ClassId) (sz : Nat) (s2 d0 d1 d2 du : Nat) (D0 D1 : Nat → Int32) (D2 : Nat → Int64) (c0 : Nat → Nat) (hcv : nv D0 c0) (hcb : ∀ k, k < 8 → c0 k ≤ 1000000) (hdu : du ≤ sm c0 8) : Met l yX2_divideByCaps wtX2_divideByCaps { frames := 1, cells := 0, slots := 0, locals := 23 } (cPc D cI cJ [.ref s2, .int (nI du)] sz [(oX2 s2 d0 d1 d2), (aIc cI d0 8 D0), (aIc cI d1 8 D1), (aJc cJ d2 8 D2)]) (cQv D (fun u => ∃ (D1p : Nat → Int32) (D2p : Nat → Int64), (∀ k, k < 8 → D1p k = nI (if sm c0 8 = 0 then 0 else DC c0 du k)) ∧ u = [(oX2 s2 d0 d1 d2), (aIc cI d0 8 D0), (aIc cI d1 8 D1p), (aJc cJ d2 8 D2p)]) (va_A [(oX2 s2 d0 d1 d2), (aIc cI d0 8 D0), (aIc cI d1 8 D1), (aJc cJ d2 8 D2)] sz)) 0 0 (va_A [(oX2 s2 d0 d1 d2), (aIc cI d0 8 D0), (aIc cI d1 8 D1), (aJc cJ d2 8 D2)] sz) := by
  refine k_ofW (Qc := cQv D (fun u => ∃ (D1p : Nat → Int32) (D2p : Nat → Int64), (∀ k, k < 8 → D1p k = nI (if sm c0 8 = 0 then 0 else DC c0 du k)) ∧ u = [(oX2 s2 d0 d1 d2), (aIc cI d0 8 D0), (aIc cI d1 8 D1p), (aJc cJ d2 8 D2p)])) (by decide) rfl (Nat.le_of_ble_eq_true rfl) ?_
  intro p e s m below meth c A ls hx hb hr hml hts hown hlk hnm hsz hE hP hD hS hA hl
  have hown : s.vm.findClass RX2 = some m.cls := hown
  have hiX2 : ∀ w ∈ u_ws RX2 TX2 3, w ∈ wtX2_divideByCaps := fun w h => List.mem_cons_of_mem _ (iuX2 w h)
  have hl : lv_has ls 8 [(0, .ref s2), (1, .int (nI du))] := hl
  have hSb8 : sm c0 8 ≤ 8000000 := sm_bound (c := 1000000) hcb
  have hSb : sm c0 8 < 2 ^ 31 := by omega
  refine lv_aload_n hx hb dX2_divideByCaps_0 rfl (lv_at hl 0 rfl) ?_
  refine va_get (D := D) (ci := 2) (v := .ref d1) (C := RX2) (T := TX2) (N := 3) hx hb hts hiX2 hown hE.1 hP 0 rfl rfl 1 (by decide) (hts _ (List.mem_cons_of_mem _ wd_89)) (fun _ h9 => h9) rfl dX2_divideByCaps_1 ?_
  refine lv_iconst (v := 0) hx hb dX2_divideByCaps_4 (by decide) ?_
  refine k_v (va_runS (As := [.ref d1, .int 0]) (rest := []) ⟨hx, hb, hml, hown, hts⟩ (m_J7_fill l D cI cJ (s.heap).size d1 0 8 D1 (by decide)) (va_cwS 2 hts gX2_divideByCaps_J7_fill_53178 rfl rfl rfl (by decide +kernel) ⟨Nat.le_of_ble_eq_true rfl, Nat.le_of_ble_eq_true rfl⟩) (k_pre hE hP hD [2] (by decide +kernel) rfl) rfl rfl hl.1 rfl (lv_room (Nat.le_of_ble_eq_true rfl)) dX2_divideByCaps_5 ⟨Nat.le_of_ble_eq_true rfl, Nat.le_of_ble_eq_true rfl⟩) hP hD hS hA [2] [0, 1, 3] rfl (wr := [(oX2 s2 d0 d1 d2), (aIc cI d0 8 D0), (aJc cJ d2 8 D2)]) rfl (by decide +kernel) (by decide +kernel) (fun u H locs hw1 hP hD hS => ?_)
  subst hw1
  refine k_re (w := [(oX2 s2 d0 d1 d2), (aIc cI d0 8 D0), (aJc cJ d2 8 D2), (aIc cI d1 8 (fl 8 0 D1))]) hP hD (fun hP hD => ?_)
  refine lv_aload_n hx hb dX2_divideByCaps_8 rfl (lv_at hl 0 rfl) ?_
  refine k_iS (va_runV (As := []) (rest := []) ⟨hx, hb, hml, hown, hts⟩ (e_X2_capsTogether l D cI cJ H.size s2 d0 d1 d2 D0 c0 hcv hcb) (cwV 0 hts gX2_divideByCaps_X2_capsTogether rfl rfl rfl (by decide +kernel) ⟨Nat.le_of_ble_eq_true rfl, Nat.le_of_ble_eq_true rfl⟩) (k_preV hE hP hD [0, 1] (by decide +kernel) rfl 0 rfl rfl) rfl rfl hl.1 rfl (lv_room (Nat.le_of_ble_eq_true rfl)) dX2_divideByCaps_9 ⟨Nat.le_of_ble_eq_true rfl, Nat.le_of_ble_eq_true rfl⟩) hP hD hS hA [0, 1] rfl (fun _ _ ⟨_, h9⟩ => h9) (fun r2 H locs hw3 hP hD hS => ?_)
  obtain ⟨rfl, -⟩ := hw3
  refine lv_i2l hx hb dX2_divideByCaps_12 rfl ?_
  refine lv_topl (fun v4 ev4 => ?_)
  obtain rfl : v4 = lN (sm c0 8) := ev4.trans (nI_l hSb)
  refine lv_lstore_n (lv' := [(2, .long (lN (sm c0 8))), (0, .ref s2), (1, .int (nI du))]) hx hb dX2_divideByCaps_13 rfl hl (by decide) rfl (fun ls hl => ?_)
  refine lv_lload_n hx hb dX2_divideByCaps_14 rfl (lv_at hl 0 rfl) ?_
  refine lv_lconst (v := 0) hx hb dX2_divideByCaps_15 (by decide) ?_
  refine k_lcmp_gt (tgt := 21) hx hb dX2_divideByCaps_16 dX2_divideByCaps_17 (by decide) (fun c5 => ?_) (fun c5 => ?_)
  · skip
    have hS0 : 0 < sm c0 8 := (lN_lt (by decide) hSb).mp c5
    refine lv_iload_n hx hb dX2_divideByCaps_21 rfl (lv_at hl 2 rfl) ?_
    refine lv_istore (lv' := [(4, .int (nI du)), (2, .long (lN (sm c0 8))), (0, .ref s2), (1, .int (nI du))]) hx hb dX2_divideByCaps_22 hl (by decide) rfl (fun ls hl => ?_)
    refine lv_iconst (v := 0) hx hb dX2_divideByCaps_24 (by decide) ?_
    refine lv_istore (lv' := [(5, .int 0), (4, .int (nI du)), (2, .long (lN (sm c0 8))), (0, .ref s2), (1, .int (nI du))]) hx hb dX2_divideByCaps_25 hl (by decide) rfl (fun ls hl => ?_)
    have J27 : ∀ (zz : Nat) (i27 h4_27 : Nat) (a_d1_27 : Nat → Int32) (a_d2_27 : Nat → Int64), (i27 ≤ 8) → (BL a_d1_27 a_d2_27 c0 du (sm c0 8) i27) → (h4_27 = du - sm (fun k => du * c0 k / sm c0 8) i27) → (8 - i27) < zz → ∀ (H : Heap) (locs : List Loc) (ls : Array Slot), va_P D vwCl [(oX2 s2 d0 d1 d2), (aIc cI d0 8 D0), (aJc cJ d2 8 a_d2_27), (aIc cI d1 8 a_d1_27)] H → va_D A [(oX2 s2 d0 d1 d2), (aIc cI d0 8 D0), (aJc cJ d2 8 a_d2_27), (aIc cI d1 8 a_d1_27)] → va_S A s.heap H locs → lv_has ls 8 [(5, .int (nI i27)), (4, .int (nI h4_27)), (2, .long (lN (sm c0 8))), (0, .ref s2), (1, .int (nI du))] → W p l e { frames := 1, cells := 0, slots := 0, locals := 23 } s m [.ref s2, .int (nI du)].toArray below meth c H locs 0 0 (MQ below (cQv D (fun u => ∃ (D1p : Nat → Int32) (D2p : Nat → Int64), (∀ k, k < 8 → D1p k = nI (if sm c0 8 = 0 then 0 else DC c0 du k)) ∧ u = [(oX2 s2 d0 d1 d2), (aIc cI d0 8 D0), (aIc cI d1 8 D1p), (aJc cJ d2 8 D2p)]) A) [.ref s2, .int (nI du)].toArray s 0 0 A) (F0 m 27 ls []) := by
      intro zz
      induction zz with
      | zero => intro i27 h4_27 a_d1_27 a_d2_27 _ _ _; exact fun h => absurd h (Nat.not_lt_zero _)
      | succ zz ih27 =>
        intro i27 h4_27 a_d1_27 a_d2_27 hc5_27 hbl_27 hov_27 hmu27 H locs ls hP hD hS hl
        refine lv_iload hx hb dX2_divideByCaps_27 (lv_at hl 0 rfl) ?_
        refine lv_bipush (v := 8) hx hb dX2_divideByCaps_29 (by decide) ?_
        refine lv_icmp_ge (tgt := 88) hx hb dX2_divideByCaps_31 (by decide) (fun c6 => ?_) (fun c6 => ?_)
        · skip
          have nc6 : 8 ≤ i27 := (nI_leI (a := 8) (b := i27) (by omega) (by omega)).mp c6
          obtain rfl : i27 = 8 := (by omega)
          have hov9 : h4_27 = du - sm (flz c0 du) 8 := hov_27
          have hov8 : h4_27 ≤ 8 := by rw [hov9]; exact dc_ov8 hS0 hSb hdu
          refine lv_iconst (v := 0) hx hb dX2_divideByCaps_88 (by decide) ?_
          refine lv_istore (lv' := [(5, .int 0), (4, .int (nI h4_27)), (2, .long (lN (sm c0 8))), (0, .ref s2), (1, .int (nI du))]) hx hb dX2_divideByCaps_89 hl (by decide) rfl (fun ls hl => ?_)
          have J91 : ∀ (zz : Nat) (i91 : Nat) (a_d1_91 : Nat → Int32) (a_d2_91 : Nat → Int64), (i91 ≤ 8) → (∀ k, k < 8 → a_d1_91 k = nI (dcp (rmz c0 du) (flz c0 du) i91 k)) → (LR a_d2_91 (dcs (rmz c0 du) i91)) → (i91 ≤ h4_27) → (8 - i91) < zz → ∀ (H : Heap) (locs : List Loc) (ls : Array Slot), va_P D vwCl [(oX2 s2 d0 d1 d2), (aIc cI d0 8 D0), (aJc cJ d2 8 a_d2_91), (aIc cI d1 8 a_d1_91)] H → va_D A [(oX2 s2 d0 d1 d2), (aIc cI d0 8 D0), (aJc cJ d2 8 a_d2_91), (aIc cI d1 8 a_d1_91)] → va_S A s.heap H locs → lv_has ls 8 [(5, .int (nI i91)), (4, .int (nI h4_27)), (2, .long (lN (sm c0 8))), (0, .ref s2), (1, .int (nI du))] → W p l e { frames := 1, cells := 0, slots := 0, locals := 23 } s m [.ref s2, .int (nI du)].toArray below meth c H locs 0 0 (MQ below (cQv D (fun u => ∃ (D1p : Nat → Int32) (D2p : Nat → Int64), (∀ k, k < 8 → D1p k = nI (if sm c0 8 = 0 then 0 else DC c0 du k)) ∧ u = [(oX2 s2 d0 d1 d2), (aIc cI d0 8 D0), (aIc cI d1 8 D1p), (aJc cJ d2 8 D2p)]) A) [.ref s2, .int (nI du)].toArray s 0 0 A) (F0 m 91 ls []) := by
            intro zz
            induction zz with
            | zero => intro i91 a_d1_91 a_d2_91 _ _ _ _; exact fun h => absurd h (Nat.not_lt_zero _)
            | succ zz ih91 =>
              intro i91 a_d1_91 a_d2_91 hc5_91 hpp_91 hll_91 hio_91 hmu91 H locs ls hP hD hS hl
              refine lv_iload hx hb dX2_divideByCaps_91 (lv_at hl 0 rfl) ?_
              refine lv_iload hx hb dX2_divideByCaps_93 (lv_at hl 1 rfl) ?_
              refine lv_icmp_ge (tgt := 136) hx hb dX2_divideByCaps_95 (by decide) (fun c7 => ?_) (fun c7 => ?_)
              · skip
                have nc7 : h4_27 ≤ i91 := (nI_leI (a := h4_27) (b := i91) (by omega) (by omega)).mp c7
                refine k_vret (u := [(oX2 s2 d0 d1 d2), (aIc cI d0 8 D0), (aIc cI d1 8 a_d1_91), (aJc cJ d2 8 a_d2_91)]) hx hb hr hlk (k_sub hP [0, 1, 3, 2] rfl) (hD.sub [0, 1, 3, 2] (by decide +kernel) rfl) hS dX2_divideByCaps_136 ?_
                exact ⟨a_d1_91, a_d2_91, (fun k hk => by rw [if_neg (by omega)]; have h9 := hpp_91 k hk; rwa [show i91 = du - sm (flz c0 du) 8 from by omega] at h9), rfl⟩
              · skip
                have nc7 : ¬ h4_27 ≤ i91 := fun q9 => c7 ((nI_leI (a := h4_27) (b := i91) (by omega) (by omega)).mpr q9)
                refine lv_iload hx hb dX2_divideByCaps_98 (lv_at hl 0 rfl) ?_
                refine lv_bipush (v := 8) hx hb dX2_divideByCaps_100 (by decide) ?_
                refine lv_icmp_ge (tgt := 136) hx hb dX2_divideByCaps_102 (by decide) (fun c8 => ?_) (fun c8 => ?_)
                · skip
                  have nc8 : 8 ≤ i91 := (nI_leI (a := 8) (b := i91) (by omega) (by omega)).mp c8
                  refine k_vret (u := [(oX2 s2 d0 d1 d2), (aIc cI d0 8 D0), (aIc cI d1 8 a_d1_91), (aJc cJ d2 8 a_d2_91)]) hx hb hr hlk (k_sub hP [0, 1, 3, 2] rfl) (hD.sub [0, 1, 3, 2] (by decide +kernel) rfl) hS dX2_divideByCaps_136 ?_
                  exact ⟨a_d1_91, a_d2_91, (fun k hk => by rw [if_neg (by omega)]; have h9 := hpp_91 k hk; rwa [show i91 = du - sm (flz c0 du) 8 from by omega] at h9), rfl⟩
                · skip
                  have nc8 : ¬ 8 ≤ i91 := fun q9 => c8 ((nI_leI (a := 8) (b := i91) (by omega) (by omega)).mpr q9)
                  have hfm8 := fm_lt (rs := a_d2_91) (n := 8) (by decide)
                  refine lv_aload_n hx hb dX2_divideByCaps_105 rfl (lv_at hl 3 rfl) ?_
                  refine k_iS (va_runV (As := []) (rest := []) ⟨hx, hb, hml, hown, hts⟩ (e_X2_mostLost l D cI cJ H.size s2 d0 d1 d2 a_d2_91) (cwV 0 hts gX2_divideByCaps_X2_mostLost rfl rfl rfl (by decide +kernel) ⟨Nat.le_of_ble_eq_true rfl, Nat.le_of_ble_eq_true rfl⟩) (k_preV hE hP hD [0, 2] (by decide +kernel) rfl 0 rfl rfl) rfl rfl hl.1 rfl (lv_room (Nat.le_of_ble_eq_true rfl)) dX2_divideByCaps_106 ⟨Nat.le_of_ble_eq_true rfl, Nat.le_of_ble_eq_true rfl⟩) hP hD hS hA [0, 2] rfl (fun _ _ ⟨_, h9⟩ => h9) (fun r9 H locs hw10 hP hD hS => ?_)
                  obtain ⟨rfl, -⟩ := hw10
                  refine lv_istore (lv' := [(6, .int (nI (fm a_d2_91 8))), (5, .int (nI i91)), (4, .int (nI h4_27)), (2, .long (lN (sm c0 8))), (0, .ref s2), (1, .int (nI du))]) hx hb dX2_divideByCaps_109 hl (by decide) rfl (fun ls hl => ?_)
                  refine lv_aload_n hx hb dX2_divideByCaps_111 rfl (lv_at hl 4 rfl) ?_
                  refine va_get (D := D) (ci := 2) (v := .ref d1) (C := RX2) (T := TX2) (N := 3) hx hb hts hiX2 hown hE.1 hP 0 rfl rfl 1 (by decide) (hts _ (List.mem_cons_of_mem _ wd_89)) (fun _ h9 => h9) rfl dX2_divideByCaps_112 ?_
                  refine lv_iload hx hb dX2_divideByCaps_115 (lv_at hl 0 rfl) ?_
                  refine lv_dup2_11 hx hb dX2_divideByCaps_117 rfl rfl ?_
                  refine va_iald hx hb hE.1 hP 3 0 rfl rfl (vp_in_nI (n := fm a_d2_91 8) (by omega) (by decide)) dX2_divideByCaps_118 ?_
                  refine lv_topi (fun v11 ev11 => ?_)
                  refine lv_iconst (v := 1) hx hb dX2_divideByCaps_119 (by decide) ?_
                  refine lv_iadd hx hb dX2_divideByCaps_120 ?_
                  refine lv_topi (fun v12 ev12 => ?_)
                  refine va_iast hx hb hE.1 hP hD hS 3 0 rfl rfl (vp_in_nI (n := fm a_d2_91 8) (by omega) (by decide)) dX2_divideByCaps_121 (fun H locs hP hD hS => ?_)
                  refine k_re (w := [(oX2 s2 d0 d1 d2), (aIc cI d0 8 D0), (aJc cJ d2 8 a_d2_91), (aIc cI d1 8 (upd a_d1_91 (Int32.toNatClampNeg (nI (fm a_d2_91 8))) v12))]) hP hD (fun hP hD => ?_)
                  refine lv_aload_n hx hb dX2_divideByCaps_122 rfl (lv_at hl 4 rfl) ?_
                  refine va_get (D := D) (ci := 2) (v := .ref d2) (C := RX2) (T := TX2) (N := 3) hx hb hts hiX2 hown hE.1 hP 0 rfl rfl 2 (by decide) (hts _ (List.mem_cons_of_mem _ wd_90)) (fun _ h9 => h9) rfl dX2_divideByCaps_123 ?_
                  refine lv_iload hx hb dX2_divideByCaps_126 (lv_at hl 0 rfl) ?_
                  refine lv_lconst (v := 0) hx hb dX2_divideByCaps_128 (by decide) ?_
                  refine va_last hx hb hE.1 hP hD hS 2 1 rfl rfl (vp_in_nI (n := fm a_d2_91 8) (by omega) (by decide)) dX2_divideByCaps_129 (fun H locs hP hD hS => ?_)
                  refine k_re (w := [(oX2 s2 d0 d1 d2), (aIc cI d0 8 D0), (aJc cJ d2 8 (vp_updL a_d2_91 (Int32.toNatClampNeg (nI (fm a_d2_91 8))) 0)), (aIc cI d1 8 (upd a_d1_91 (Int32.toNatClampNeg (nI (fm a_d2_91 8))) v12))]) hP hD (fun hP hD => ?_)
                  refine lv_iinc (v := (nI (i91 + 1))) (lv' := [(5, .int (nI (i91 + 1))), (6, .int (nI (fm a_d2_91 8))), (4, .int (nI h4_27)), (2, .long (lN (sm c0 8))), (0, .ref s2), (1, .int (nI du))]) hx hb dX2_divideByCaps_130 hl (k := 1) rfl (nI_1 _) (by decide) rfl (fun ls hl => ?_)
                  refine lv_goto (tgt := 91) hx hb dX2_divideByCaps_133 (by decide) ?_
                  have hst9 := dcb_step hpp_91 hll_91 (dc_ex hS0 hSb hdu hcb (by omega)) rfl ev11 ev12
                  exact ih91 (i91 + 1) (upd a_d1_91 (Int32.toNatClampNeg (nI (fm a_d2_91 8))) v12) (vp_updL a_d2_91 (Int32.toNatClampNeg (nI (fm a_d2_91 8))) 0) (by omega) hst9.1 hst9.2 (by omega) (by omega) _ _ _ hP hD hS (lv_sub hl [0, 2, 3, 4, 5] rfl)
          exact J91 _ 0 a_d1_27 a_d2_27 (by omega) (fun k hk => (hbl_27 k hk).1) (lr_0 (fun k hk => (hbl_27 k hk).2) (fun k _ => rm_nn hS0 hSb)) (by omega) (Nat.lt_succ_self _) _ _ _ hP hD hS (lv_sub hl [0, 1, 2, 3, 4] rfl)
        · skip
          have nc6 : ¬ 8 ≤ i27 := fun q9 => c6 ((nI_leI (a := 8) (b := i27) (by omega) (by omega)).mpr q9)
          refine lv_iload_n hx hb dX2_divideByCaps_34 rfl (lv_at hl 4 rfl) ?_
          refine lv_i2l hx hb dX2_divideByCaps_35 rfl ?_
          refine lv_aload_n hx hb dX2_divideByCaps_36 rfl (lv_at hl 3 rfl) ?_
          refine va_get (D := D) (ci := 2) (v := .ref d0) (C := RX2) (T := TX2) (N := 3) hx hb hts hiX2 hown hE.1 hP 0 rfl rfl 0 (by decide) (hts _ (List.mem_cons_of_mem _ wd_88)) (fun _ h9 => h9) rfl dX2_divideByCaps_37 ?_
          refine lv_iload hx hb dX2_divideByCaps_40 (lv_at hl 0 rfl) ?_
          refine va_iald hx hb hE.1 hP 1 0 rfl rfl (vp_in_nI (n := i27) (by omega) (by decide)) dX2_divideByCaps_42 ?_
          refine lv_topi (fun v13 ev13 => ?_)
          obtain rfl : v13 = nI (c0 i27) := ev13.trans (nv_at hcv (by omega))
          refine lv_i2l hx hb dX2_divideByCaps_43 rfl ?_
          refine lv_lmul hx hb dX2_divideByCaps_44 ?_
          refine lv_topl (fun v14 ev14 => ?_)
          refine lv_lstore (lv' := [(6, .long v14), (5, .int (nI i27)), (4, .int (nI h4_27)), (2, .long (lN (sm c0 8))), (0, .ref s2), (1, .int (nI du))]) hx hb dX2_divideByCaps_45 hl (by decide) rfl (fun ls hl => ?_)
          refine lv_aload_n hx hb dX2_divideByCaps_47 rfl (lv_at hl 4 rfl) ?_
          refine va_get (D := D) (ci := 2) (v := .ref d1) (C := RX2) (T := TX2) (N := 3) hx hb hts hiX2 hown hE.1 hP 0 rfl rfl 1 (by decide) (hts _ (List.mem_cons_of_mem _ wd_89)) (fun _ h9 => h9) rfl dX2_divideByCaps_48 ?_
          refine lv_iload hx hb dX2_divideByCaps_51 (lv_at hl 1 rfl) ?_
          refine lv_lload hx hb dX2_divideByCaps_53 (lv_at hl 0 rfl) ?_
          refine lv_lload_n hx hb dX2_divideByCaps_55 rfl (lv_at hl 3 rfl) ?_
          refine lv_ldiv hx hb dX2_divideByCaps_56 (lN_ne hS0 hSb) ?_
          refine lv_topl (fun v15 ev15 => ?_)
          refine lv_l2i hx hb dX2_divideByCaps_57 rfl ?_
          refine lv_topi (fun v16 ev16 => ?_)
          obtain rfl : v16 = nI (du * c0 i27 / sm c0 8) := bc_div (by omega) (hcb i27 (by omega)) hS0 hSb ev14 ev15 ev16
          refine va_iast hx hb hE.1 hP hD hS 3 0 rfl rfl (vp_in_nI (n := i27) (by omega) (by decide)) dX2_divideByCaps_58 (fun H locs hP hD hS => ?_)
          refine k_re (w := [(oX2 s2 d0 d1 d2), (aIc cI d0 8 D0), (aJc cJ d2 8 a_d2_27), (aIc cI d1 8 (upd a_d1_27 (Int32.toNatClampNeg (nI i27)) (nI (du * c0 i27 / sm c0 8))))]) hP hD (fun hP hD => ?_)
          refine lv_aload_n hx hb dX2_divideByCaps_59 rfl (lv_at hl 4 rfl) ?_
          refine va_get (D := D) (ci := 2) (v := .ref d2) (C := RX2) (T := TX2) (N := 3) hx hb hts hiX2 hown hE.1 hP 0 rfl rfl 2 (by decide) (hts _ (List.mem_cons_of_mem _ wd_90)) (fun _ h9 => h9) rfl dX2_divideByCaps_60 ?_
          refine lv_iload hx hb dX2_divideByCaps_63 (lv_at hl 1 rfl) ?_
          refine lv_lload hx hb dX2_divideByCaps_65 (lv_at hl 0 rfl) ?_
          refine lv_lload_n hx hb dX2_divideByCaps_67 rfl (lv_at hl 3 rfl) ?_
          refine lv_lrem hx hb dX2_divideByCaps_68 (lN_ne hS0 hSb) ?_
          refine lv_topl (fun v17 ev17 => ?_)
          have hrm : v17 = lN (du * c0 i27 % sm c0 8) := bc_rem (by omega) (hcb i27 (by omega)) hS0 hSb ev14 ev17
          refine va_last hx hb hE.1 hP hD hS 2 1 rfl rfl (vp_in_nI (n := i27) (by omega) (by decide)) dX2_divideByCaps_69 (fun H locs hP hD hS => ?_)
          refine k_re (w := [(oX2 s2 d0 d1 d2), (aIc cI d0 8 D0), (aJc cJ d2 8 (vp_updL a_d2_27 (Int32.toNatClampNeg (nI i27)) v17)), (aIc cI d1 8 (upd a_d1_27 (Int32.toNatClampNeg (nI i27)) (nI (du * c0 i27 / sm c0 8))))]) hP hD (fun hP hD => ?_)
          refine lv_iload hx hb dX2_divideByCaps_70 (lv_at hl 2 rfl) ?_
          refine lv_aload_n hx hb dX2_divideByCaps_72 rfl (lv_at hl 4 rfl) ?_
          refine va_get (D := D) (ci := 2) (v := .ref d1) (C := RX2) (T := TX2) (N := 3) hx hb hts hiX2 hown hE.1 hP 0 rfl rfl 1 (by decide) (hts _ (List.mem_cons_of_mem _ wd_89)) (fun _ h9 => h9) rfl dX2_divideByCaps_73 ?_
          refine lv_iload hx hb dX2_divideByCaps_76 (lv_at hl 1 rfl) ?_
          refine va_iald hx hb hE.1 hP 3 0 rfl rfl (vp_in_nI (n := i27) (by omega) (by decide)) dX2_divideByCaps_78 ?_
          refine lv_topi (fun v18 ev18 => ?_)
          obtain rfl : v18 = nI (du * c0 i27 / sm c0 8) := ev18.trans pk_us
          have hfl : sm (fun k => du * c0 k / sm c0 8) (i27 + 1) ≤ du := fl_le hS0 (sm_mono c0 (by omega))
          have hfs : sm (fun k => du * c0 k / sm c0 8) (i27 + 1) = sm (fun k => du * c0 k / sm c0 8) i27 + du * c0 i27 / sm c0 8 := rfl
          refine lv_isub hx hb dX2_divideByCaps_79 ?_
          refine lv_topi (fun v19 ev19 => ?_)
          obtain rfl : v19 = nI (h4_27 - du * c0 i27 / sm c0 8) := by rw [ev19]; exact pk_sub (by omega)
          refine lv_istore (lv' := [(4, .int (nI (h4_27 - du * c0 i27 / sm c0 8))), (6, .long v14), (5, .int (nI i27)), (2, .long (lN (sm c0 8))), (0, .ref s2), (1, .int (nI du))]) hx hb dX2_divideByCaps_80 hl (by decide) rfl (fun ls hl => ?_)
          refine lv_iinc (v := (nI (i27 + 1))) (lv' := [(5, .int (nI (i27 + 1))), (4, .int (nI (h4_27 - du * c0 i27 / sm c0 8))), (6, .long v14), (2, .long (lN (sm c0 8))), (0, .ref s2), (1, .int (nI du))]) hx hb dX2_divideByCaps_82 hl (k := 2) rfl (nI_1 _) (by decide) rfl (fun ls hl => ?_)
          refine lv_goto (tgt := 27) hx hb dX2_divideByCaps_85 (by decide) ?_
          exact ih27 (i27 + 1) (h4_27 - du * c0 i27 / sm c0 8) (upd a_d1_27 (Int32.toNatClampNeg (nI i27)) (nI (du * c0 i27 / sm c0 8))) (vp_updL a_d2_27 (Int32.toNatClampNeg (nI i27)) v17) (by omega) (bl_step (by omega) hbl_27 rfl hrm) (hov_step hov_27 hfs hfl) (by omega) _ _ _ hP hD hS (lv_sub hl [0, 1, 3, 4, 5] rfl)
    exact J27 _ 0 du (fl 8 0 D1) D2 (by omega) (fun k hk => absurd hk (Nat.not_lt_zero k)) rfl (Nat.lt_succ_self _) _ _ _ hP hD hS (lv_sub hl [0, 1, 2, 3, 4] rfl)
  · skip
    have hS0 : sm c0 8 = 0 := Nat.le_zero.mp (Nat.le_of_not_lt (fun q => c5 ((lN_lt (a := 0) (by decide) hSb).mpr q)))
    refine k_vret (u := [(oX2 s2 d0 d1 d2), (aIc cI d0 8 D0), (aIc cI d1 8 (fl 8 0 D1)), (aJc cJ d2 8 D2)]) hx hb hr hlk (k_sub hP [0, 1, 3, 2] rfl) (hD.sub [0, 1, 3, 2] (by decide +kernel) rfl) hS dX2_divideByCaps_20 ?_
    exact ⟨(fl 8 0 D1), D2, (fun k hk => by rw [if_pos hS0]; exact if_pos hk), rfl⟩

