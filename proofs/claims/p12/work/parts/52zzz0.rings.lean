set_option maxHeartbeats 4000000 in
set_option maxRecDepth 100000 in
theorem e_X8_bits (l : Launch) (D : va_G) (cI cJ : ClassId) (sz : Nat) (se : Int32) : Met l yX8_bits wtX8_bits { frames := 0, cells := 0, slots := 0, locals := 0 } (cPc D cI cJ [.int se] sz []) (cQi D (fun r u => r = (nI (NB se)) ∧ u = []) (va_A [] sz)) 0 0 (va_A [] sz) := by
  refine k_ofW (Qc := cQi D (fun r u => r = (nI (NB se)) ∧ u = [])) (by decide) rfl (Nat.le_of_ble_eq_true rfl) ?_
  intro p e s m below meth c A ls hx hb hr hml hts hown hlk hnm hsz hE hP hD hS hA hl
  have hown : s.vm.findClass RX8 = some m.cls := hown
  have hl : lv_has ls 3 [(0, .int se)] := hl
  refine lv_iconst (v := 0) hx hb dX8_bits_0 (by decide) ?_
  refine lv_istore_n (lv' := [(1, .int 0), (0, .int se)]) hx hb dX8_bits_1 rfl hl (by decide) rfl (fun ls hl => ?_)
  refine lv_iconst (v := 0) hx hb dX8_bits_2 (by decide) ?_
  refine lv_istore_n (lv' := [(2, .int 0), (1, .int 0), (0, .int se)]) hx hb dX8_bits_3 rfl hl (by decide) rfl (fun ls hl => ?_)
  have J4 : ∀ (zz : Nat) (i4 h1_4 : Nat), (i4 ≤ 8) → (h1_4 = sm (fun k => if bt se k = true then 1 else 0) i4) → (8 - i4) < zz → ∀ (H : Heap) (locs : List Loc) (ls : Array Slot), va_P D vwCl [] H → va_D A [] → va_S A s.heap H locs → lv_has ls 3 [(2, .int (nI i4)), (1, .int (nI h1_4)), (0, .int se)] → W p l e { frames := 0, cells := 0, slots := 0, locals := 0 } s m [.int se].toArray below meth c H locs 0 0 (MQ below (cQi D (fun r u => r = (nI (NB se)) ∧ u = []) A) [.int se].toArray s 0 0 A) (F0 m 4 ls []) := by
    intro zz
    induction zz with
    | zero => intro i4 h1_4 _ _; exact fun h => absurd h (Nat.not_lt_zero _)
    | succ zz ih4 =>
      intro i4 h1_4 hc2_4 hs_4 hmu4 H locs ls hP hD hS hl
      refine lv_iload_n hx hb dX8_bits_4 rfl (lv_at hl 0 rfl) ?_
      refine lv_bipush (v := 8) hx hb dX8_bits_5 (by decide) ?_
      refine lv_icmp_ge (tgt := 24) hx hb dX8_bits_7 (by decide) (fun c1 => ?_) (fun c1 => ?_)
      · skip
        have nc1 : 8 ≤ i4 := (nI_leI (a := 8) (b := i4) (by omega) (by omega)).mp c1
        refine lv_iload_n hx hb dX8_bits_24 rfl (lv_at hl 1 rfl) ?_
        refine k_iret (u := []) hx hb hr hlk hP hD hS dX8_bits_25 ?_
        exact ⟨(congrArg nI (by obtain rfl : i4 = 8 := (by omega); exact hs_4)), rfl⟩
      · skip
        have nc1 : ¬ 8 ≤ i4 := fun q9 => c1 ((nI_leI (a := 8) (b := i4) (by omega) (by omega)).mpr q9)
        refine lv_iload_n hx hb dX8_bits_10 rfl (lv_at hl 1 rfl) ?_
        refine lv_iload_n hx hb dX8_bits_11 rfl (lv_at hl 2 rfl) ?_
        refine lv_iload_n hx hb dX8_bits_12 rfl (lv_at hl 0 rfl) ?_
        refine lv_ishr hx hb dX8_bits_13 ?_
        refine lv_topi (fun v2 ev2 => ?_)
        refine lv_iconst (v := 1) hx hb dX8_bits_14 (by decide) ?_
        refine lv_iand hx hb dX8_bits_15 ?_
        refine lv_topi (fun v3 ev3 => ?_)
        obtain rfl : v3 = nI (if bt se i4 = true then 1 else 0) := nb_bit (by omega) (by rw [ev3, ev2])
        refine lv_iadd hx hb dX8_bits_16 ?_
        refine lv_topi (fun v4 ev4 => ?_)
        obtain rfl : v4 = (nI (h1_4 + (if bt se i4 = true then 1 else 0))) := by rw [ev4]; exact nI_add h1_4 (if bt se i4 = true then 1 else 0)
        refine lv_istore_n (lv' := [(1, .int (nI (h1_4 + (if bt se i4 = true then 1 else 0)))), (2, .int (nI i4)), (0, .int se)]) hx hb dX8_bits_17 rfl hl (by decide) rfl (fun ls hl => ?_)
        refine lv_iinc (v := (nI (i4 + 1))) (lv' := [(2, .int (nI (i4 + 1))), (1, .int (nI (h1_4 + (if bt se i4 = true then 1 else 0)))), (0, .int se)]) hx hb dX8_bits_18 hl (k := 1) rfl (nI_1 _) (by decide) rfl (fun ls hl => ?_)
        refine lv_goto (tgt := 4) hx hb dX8_bits_21 (by decide) ?_
        exact ih4 (i4 + 1) (h1_4 + (if bt se i4 = true then 1 else 0)) (by omega) (sm_at (F := fun k => if bt se k = true then 1 else 0) hs_4 rfl) (by omega) _ _ _ hP hD hS (lv_sub hl [0, 1, 2] rfl)
  exact J4 _ 0 0 (by omega) rfl (Nat.lt_succ_self _) _ _ _ hP hD hS (lv_sub hl [0, 1, 2] rfl)
set_option maxHeartbeats 4000000 in
set_option maxRecDepth 100000 in
theorem e_X6_countYields (l : Launch) (D : va_G) (cI cJ : ClassId) (sz : Nat) (s1 w0 w1 w2 w3 w4 w8 wn lv : Nat) (wi6 : Int32) (W1 Y0 : Nat → Int32) (hY : ∀ k, k < 8 → W1 k = Y0 k) (hyw : ∀ k, k < 8 → isw8 (Y0 k)) : Met l yX6_countYields wtX6_countYields { frames := 1, cells := 0, slots := 0, locals := 20 } (cPc D cI cJ [.ref s1] sz [(oX6 s1 w0 w1 w2 w3 w4 (nI wn) wi6 (nI lv) w8), (aIc cI w1 8 W1)]) (cQi D (fun r u => r = (nI (sm (fun p => NB (Y0 p)) 8)) ∧ u = [(oX6 s1 w0 w1 w2 w3 w4 (nI wn) wi6 (nI lv) w8), (aIc cI w1 8 W1)]) (va_A [(oX6 s1 w0 w1 w2 w3 w4 (nI wn) wi6 (nI lv) w8), (aIc cI w1 8 W1)] sz)) 0 0 (va_A [(oX6 s1 w0 w1 w2 w3 w4 (nI wn) wi6 (nI lv) w8), (aIc cI w1 8 W1)] sz) := by
  refine k_ofW (Qc := cQi D (fun r u => r = (nI (sm (fun p => NB (Y0 p)) 8)) ∧ u = [(oX6 s1 w0 w1 w2 w3 w4 (nI wn) wi6 (nI lv) w8), (aIc cI w1 8 W1)])) (by decide) rfl (Nat.le_of_ble_eq_true rfl) ?_
  intro p e s m below meth c A ls hx hb hr hml hts hown hlk hnm hsz hE hP hD hS hA hl
  have hown : s.vm.findClass RX6 = some m.cls := hown
  have hiX6 : ∀ w ∈ u_ws RX6 TX6 9, w ∈ wtX6_countYields := fun w h => List.mem_cons_of_mem _ (iuX6 w h)
  have hl : lv_has ls 3 [(0, .ref s1)] := hl
  refine lv_iconst (v := 0) hx hb dX6_countYields_0 (by decide) ?_
  refine lv_istore_n (lv' := [(1, .int 0), (0, .ref s1)]) hx hb dX6_countYields_1 rfl hl (by decide) rfl (fun ls hl => ?_)
  refine lv_iconst (v := 0) hx hb dX6_countYields_2 (by decide) ?_
  refine lv_istore_n (lv' := [(2, .int 0), (1, .int 0), (0, .ref s1)]) hx hb dX6_countYields_3 rfl hl (by decide) rfl (fun ls hl => ?_)
  have J4 : ∀ (zz : Nat) (i4 h1_4 : Nat), (i4 ≤ 8) → (h1_4 = sm (fun p => NB (Y0 p)) i4) → (8 - i4) < zz → ∀ (H : Heap) (locs : List Loc) (ls : Array Slot), va_P D vwCl [(oX6 s1 w0 w1 w2 w3 w4 (nI wn) wi6 (nI lv) w8), (aIc cI w1 8 W1)] H → va_D A [(oX6 s1 w0 w1 w2 w3 w4 (nI wn) wi6 (nI lv) w8), (aIc cI w1 8 W1)] → va_S A s.heap H locs → lv_has ls 3 [(2, .int (nI i4)), (1, .int (nI h1_4)), (0, .ref s1)] → W p l e { frames := 1, cells := 0, slots := 0, locals := 20 } s m [.ref s1].toArray below meth c H locs 0 0 (MQ below (cQi D (fun r u => r = (nI (sm (fun p => NB (Y0 p)) 8)) ∧ u = [(oX6 s1 w0 w1 w2 w3 w4 (nI wn) wi6 (nI lv) w8), (aIc cI w1 8 W1)]) A) [.ref s1].toArray s 0 0 A) (F0 m 4 ls []) := by
    intro zz
    induction zz with
    | zero => intro i4 h1_4 _ _; exact fun h => absurd h (Nat.not_lt_zero _)
    | succ zz ih4 =>
      intro i4 h1_4 hc2_4 hs_4 hmu4 H locs ls hP hD hS hl
      refine lv_iload_n hx hb dX6_countYields_4 rfl (lv_at hl 0 rfl) ?_
      refine lv_bipush (v := 8) hx hb dX6_countYields_5 (by decide) ?_
      refine lv_icmp_ge (tgt := 28) hx hb dX6_countYields_7 (by decide) (fun c1 => ?_) (fun c1 => ?_)
      · skip
        have nc1 : 8 ≤ i4 := (nI_leI (a := 8) (b := i4) (by omega) (by omega)).mp c1
        refine lv_iload_n hx hb dX6_countYields_28 rfl (lv_at hl 1 rfl) ?_
        refine k_iret (u := [(oX6 s1 w0 w1 w2 w3 w4 (nI wn) wi6 (nI lv) w8), (aIc cI w1 8 W1)]) hx hb hr hlk hP hD hS dX6_countYields_29 ?_
        exact ⟨(congrArg nI (by obtain rfl : i4 = 8 := (by omega); exact hs_4)), rfl⟩
      · skip
        have nc1 : ¬ 8 ≤ i4 := fun q9 => c1 ((nI_leI (a := 8) (b := i4) (by omega) (by omega)).mpr q9)
        refine lv_iload_n hx hb dX6_countYields_10 rfl (lv_at hl 1 rfl) ?_
        refine lv_aload_n hx hb dX6_countYields_11 rfl (lv_at hl 2 rfl) ?_
        refine va_get (D := D) (ci := 6) (v := .ref w1) (C := RX6) (T := TX6) (N := 9) hx hb hts hiX6 hown hE.1 hP 0 rfl rfl 1 (by decide) (hts _ (List.mem_cons_of_mem _ wd_80)) (fun _ h9 => h9) rfl dX6_countYields_12 ?_
        refine lv_iload_n hx hb dX6_countYields_15 rfl (lv_at hl 0 rfl) ?_
        refine va_iald hx hb hE.1 hP 1 0 rfl rfl (vp_in_nI (n := i4) (by omega) (by decide)) dX6_countYields_16 ?_
        refine lv_topi (fun v2 ev2 => ?_)
        refine k_iS (va_runS (As := [.int v2]) (rest := [.int (nI h1_4)]) ⟨hx, hb, hml, hown, hts⟩ (m_bitCount l D cI cJ H.size v2) (va_cwS 1 hts gX6_countYields_J6_bitCount_0f7a4 rfl rfl rfl (by decide +kernel) ⟨Nat.le_of_ble_eq_true rfl, Nat.le_of_ble_eq_true rfl⟩) (k_pre hE hP hD [] (by decide +kernel) rfl) rfl rfl hl.1 rfl (lv_room (Nat.le_of_ble_eq_true rfl)) dX6_countYields_17 ⟨Nat.le_of_ble_eq_true rfl, Nat.le_of_ble_eq_true rfl⟩) hP hD hS hA [] rfl (fun _ _ ⟨_, h9⟩ => h9) (fun r3 H locs hw4 hP hD hS => ?_)
        obtain ⟨rfl, -⟩ := hw4
        have hcy9 : v2 = Y0 i4 := (cl_at (A := W1) (by omega) ev2).trans (hY i4 (by omega))
        refine lv_topi (fun v5 ev5 => ?_)
        obtain rfl : v5 = nI (NB (Y0 i4)) := by rw [ev5, hcy9]; exact bc_w8 (hyw i4 (by omega))
        refine lv_iadd hx hb dX6_countYields_20 ?_
        refine lv_topi (fun v6 ev6 => ?_)
        obtain rfl : v6 = (nI (h1_4 + (NB (Y0 i4)))) := by rw [ev6]; exact nI_add h1_4 (NB (Y0 i4))
        refine lv_istore_n (lv' := [(1, .int (nI (h1_4 + (NB (Y0 i4))))), (2, .int (nI i4)), (0, .ref s1)]) hx hb dX6_countYields_21 rfl hl (by decide) rfl (fun ls hl => ?_)
        refine lv_iinc (v := (nI (i4 + 1))) (lv' := [(2, .int (nI (i4 + 1))), (1, .int (nI (h1_4 + (NB (Y0 i4))))), (0, .ref s1)]) hx hb dX6_countYields_22 hl (k := 1) rfl (nI_1 _) (by decide) rfl (fun ls hl => ?_)
        refine lv_goto (tgt := 4) hx hb dX6_countYields_25 (by decide) ?_
        exact ih4 (i4 + 1) (h1_4 + (NB (Y0 i4))) (by omega) (sm_at (F := fun p => NB (Y0 p)) hs_4 rfl) (by omega) _ _ _ hP hD hS (lv_sub hl [0, 1, 2] rfl)
  exact J4 _ 0 0 (by omega) rfl (Nat.lt_succ_self _) _ _ _ hP hD hS (lv_sub hl [0, 1, 2] rfl)
set_option maxHeartbeats 4000000 in
set_option maxRecDepth 100000 in
theorem e_X6_countTrueYields (l : Launch) (D : va_G) (cI cJ : ClassId) (sz : Nat) (s1 w0 w1 w2 w3 w4 w8 wn lv : Nat) (wi6 : Int32) (W1 W2 Y0 : Nat → Int32) (hY : ∀ k, k < 8 → W1 k = Y0 k) (hR : ∀ k, k < 8 → W2 k = RIN (clo Y0 8) k) (hyw : ∀ k, k < 8 → isw8 (Y0 k)) : Met l yX6_countTrueYields wtX6_countTrueYields { frames := 1, cells := 0, slots := 0, locals := 21 } (cPc D cI cJ [.ref s1] sz [(oX6 s1 w0 w1 w2 w3 w4 (nI wn) wi6 (nI lv) w8), (aIc cI w1 8 W1), (aIc cI w2 8 W2)]) (cQi D (fun r u => r = (nI (sm (fun p => NB (TT Y0 p)) 8)) ∧ u = [(oX6 s1 w0 w1 w2 w3 w4 (nI wn) wi6 (nI lv) w8), (aIc cI w1 8 W1), (aIc cI w2 8 W2)]) (va_A [(oX6 s1 w0 w1 w2 w3 w4 (nI wn) wi6 (nI lv) w8), (aIc cI w1 8 W1), (aIc cI w2 8 W2)] sz)) 0 0 (va_A [(oX6 s1 w0 w1 w2 w3 w4 (nI wn) wi6 (nI lv) w8), (aIc cI w1 8 W1), (aIc cI w2 8 W2)] sz) := by
  refine k_ofW (Qc := cQi D (fun r u => r = (nI (sm (fun p => NB (TT Y0 p)) 8)) ∧ u = [(oX6 s1 w0 w1 w2 w3 w4 (nI wn) wi6 (nI lv) w8), (aIc cI w1 8 W1), (aIc cI w2 8 W2)])) (by decide) rfl (Nat.le_of_ble_eq_true rfl) ?_
  intro p e s m below meth c A ls hx hb hr hml hts hown hlk hnm hsz hE hP hD hS hA hl
  have hown : s.vm.findClass RX6 = some m.cls := hown
  have hl : lv_has ls 3 [(0, .ref s1)] := hl
  refine lv_iconst (v := 0) hx hb dX6_countTrueYields_0 (by decide) ?_
  refine lv_istore_n (lv' := [(1, .int 0), (0, .ref s1)]) hx hb dX6_countTrueYields_1 rfl hl (by decide) rfl (fun ls hl => ?_)
  refine lv_iconst (v := 0) hx hb dX6_countTrueYields_2 (by decide) ?_
  refine lv_istore_n (lv' := [(2, .int 0), (1, .int 0), (0, .ref s1)]) hx hb dX6_countTrueYields_3 rfl hl (by decide) rfl (fun ls hl => ?_)
  have J4 : ∀ (zz : Nat) (i4 h1_4 : Nat), (i4 ≤ 8) → (h1_4 = sm (fun p => NB (TT Y0 p)) i4) → (8 - i4) < zz → ∀ (H : Heap) (locs : List Loc) (ls : Array Slot), va_P D vwCl [(oX6 s1 w0 w1 w2 w3 w4 (nI wn) wi6 (nI lv) w8), (aIc cI w1 8 W1), (aIc cI w2 8 W2)] H → va_D A [(oX6 s1 w0 w1 w2 w3 w4 (nI wn) wi6 (nI lv) w8), (aIc cI w1 8 W1), (aIc cI w2 8 W2)] → va_S A s.heap H locs → lv_has ls 3 [(2, .int (nI i4)), (1, .int (nI h1_4)), (0, .ref s1)] → W p l e { frames := 1, cells := 0, slots := 0, locals := 21 } s m [.ref s1].toArray below meth c H locs 0 0 (MQ below (cQi D (fun r u => r = (nI (sm (fun p => NB (TT Y0 p)) 8)) ∧ u = [(oX6 s1 w0 w1 w2 w3 w4 (nI wn) wi6 (nI lv) w8), (aIc cI w1 8 W1), (aIc cI w2 8 W2)]) A) [.ref s1].toArray s 0 0 A) (F0 m 4 ls []) := by
    intro zz
    induction zz with
    | zero => intro i4 h1_4 _ _; exact fun h => absurd h (Nat.not_lt_zero _)
    | succ zz ih4 =>
      intro i4 h1_4 hc2_4 hs_4 hmu4 H locs ls hP hD hS hl
      refine lv_iload_n hx hb dX6_countTrueYields_4 rfl (lv_at hl 0 rfl) ?_
      refine lv_bipush (v := 8) hx hb dX6_countTrueYields_5 (by decide) ?_
      refine lv_icmp_ge (tgt := 27) hx hb dX6_countTrueYields_7 (by decide) (fun c1 => ?_) (fun c1 => ?_)
      · skip
        have nc1 : 8 ≤ i4 := (nI_leI (a := 8) (b := i4) (by omega) (by omega)).mp c1
        refine lv_iload_n hx hb dX6_countTrueYields_27 rfl (lv_at hl 1 rfl) ?_
        refine k_iret (u := [(oX6 s1 w0 w1 w2 w3 w4 (nI wn) wi6 (nI lv) w8), (aIc cI w1 8 W1), (aIc cI w2 8 W2)]) hx hb hr hlk hP hD hS dX6_countTrueYields_28 ?_
        exact ⟨(congrArg nI (by obtain rfl : i4 = 8 := (by omega); exact hs_4)), rfl⟩
      · skip
        have nc1 : ¬ 8 ≤ i4 := fun q9 => c1 ((nI_leI (a := 8) (b := i4) (by omega) (by omega)).mpr q9)
        refine lv_iload_n hx hb dX6_countTrueYields_10 rfl (lv_at hl 1 rfl) ?_
        refine lv_aload_n hx hb dX6_countTrueYields_11 rfl (lv_at hl 2 rfl) ?_
        refine lv_iload_n hx hb dX6_countTrueYields_12 rfl (lv_at hl 0 rfl) ?_
        refine k_iS (va_runV (As := [.int (nI i4)]) (rest := [.int (nI h1_4)]) ⟨hx, hb, hml, hown, hts⟩ (e_X6_trueYields l D cI cJ H.size s1 w0 w1 w2 w3 w4 w8 i4 wn lv wi6 W1 W2 Y0 (by omega) hY hR) (cwV 1 hts gX6_countTrueYields_X6_trueYields rfl rfl rfl (by decide +kernel) ⟨Nat.le_of_ble_eq_true rfl, Nat.le_of_ble_eq_true rfl⟩) (k_preV hE hP hD [0, 1, 2] (by decide +kernel) rfl 0 rfl rfl) rfl rfl hl.1 rfl (lv_room (Nat.le_of_ble_eq_true rfl)) dX6_countTrueYields_13 ⟨Nat.le_of_ble_eq_true rfl, Nat.le_of_ble_eq_true rfl⟩) hP hD hS hA [0, 1, 2] rfl (fun _ _ ⟨_, h9⟩ => h9) (fun r2 H locs hw3 hP hD hS => ?_)
        obtain ⟨rfl, -⟩ := hw3
        refine k_iS (va_runS (As := [.int (TT Y0 i4)]) (rest := [.int (nI h1_4)]) ⟨hx, hb, hml, hown, hts⟩ (m_bitCount l D cI cJ H.size (TT Y0 i4)) (va_cwS 1 hts gX6_countTrueYields_J6_bitCount_0f7a4 rfl rfl rfl (by decide +kernel) ⟨Nat.le_of_ble_eq_true rfl, Nat.le_of_ble_eq_true rfl⟩) (k_pre hE hP hD [] (by decide +kernel) rfl) rfl rfl hl.1 rfl (lv_room (Nat.le_of_ble_eq_true rfl)) dX6_countTrueYields_16 ⟨Nat.le_of_ble_eq_true rfl, Nat.le_of_ble_eq_true rfl⟩) hP hD hS hA [] rfl (fun _ _ ⟨_, h9⟩ => h9) (fun r4 H locs hw5 hP hD hS => ?_)
        obtain ⟨rfl, -⟩ := hw5
        refine lv_topi (fun v6 ev6 => ?_)
        obtain rfl : v6 = nI (NB (TT Y0 i4)) := by rw [ev6]; exact bc_w8 (tt_w8 (hyw i4 (by omega)))
        refine lv_iadd hx hb dX6_countTrueYields_19 ?_
        refine lv_topi (fun v7 ev7 => ?_)
        obtain rfl : v7 = (nI (h1_4 + (NB (TT Y0 i4)))) := by rw [ev7]; exact nI_add h1_4 (NB (TT Y0 i4))
        refine lv_istore_n (lv' := [(1, .int (nI (h1_4 + (NB (TT Y0 i4))))), (2, .int (nI i4)), (0, .ref s1)]) hx hb dX6_countTrueYields_20 rfl hl (by decide) rfl (fun ls hl => ?_)
        refine lv_iinc (v := (nI (i4 + 1))) (lv' := [(2, .int (nI (i4 + 1))), (1, .int (nI (h1_4 + (NB (TT Y0 i4))))), (0, .ref s1)]) hx hb dX6_countTrueYields_21 hl (k := 1) rfl (nI_1 _) (by decide) rfl (fun ls hl => ?_)
        refine lv_goto (tgt := 4) hx hb dX6_countTrueYields_24 (by decide) ?_
        exact ih4 (i4 + 1) (h1_4 + (NB (TT Y0 i4))) (by omega) (sm_at (F := fun p => NB (TT Y0 p)) hs_4 rfl) (by omega) _ _ _ hP hD hS (lv_sub hl [0, 1, 2] rfl)
  exact J4 _ 0 0 (by omega) rfl (Nat.lt_succ_self _) _ _ _ hP hD hS (lv_sub hl [0, 1, 2] rfl)
set_option maxHeartbeats 4000000 in
set_option maxRecDepth 100000 in
theorem e_X6_isLeastOfRing (l : Launch) (D : va_G) (cI cJ : ClassId) (sz : Nat) (s1 w0 w1 w2 w3 w4 w8 p0 wn lv : Nat) (wi6 : Int32) (W2 R0 : Nat → Int32) (hp : p0 < 8) (hR : ∀ k, k < 8 → W2 k = R0 k) : Met l yX6_isLeastOfRing wtX6_isLeastOfRing { frames := 0, cells := 0, slots := 0, locals := 0 } (cPc D cI cJ [.ref s1, .int (nI p0)] sz [(oX6 s1 w0 w1 w2 w3 w4 (nI wn) wi6 (nI lv) w8), (aIc cI w2 8 W2)]) (cQi D (fun r u => r = bz (LEA (R0 p0) p0 = true) ∧ u = [(oX6 s1 w0 w1 w2 w3 w4 (nI wn) wi6 (nI lv) w8), (aIc cI w2 8 W2)]) (va_A [(oX6 s1 w0 w1 w2 w3 w4 (nI wn) wi6 (nI lv) w8), (aIc cI w2 8 W2)] sz)) 0 0 (va_A [(oX6 s1 w0 w1 w2 w3 w4 (nI wn) wi6 (nI lv) w8), (aIc cI w2 8 W2)] sz) := by
  refine k_ofW (Qc := cQi D (fun r u => r = bz (LEA (R0 p0) p0 = true) ∧ u = [(oX6 s1 w0 w1 w2 w3 w4 (nI wn) wi6 (nI lv) w8), (aIc cI w2 8 W2)])) (by decide) rfl (Nat.le_of_ble_eq_true rfl) ?_
  intro p e s m below meth c A ls hx hb hr hml hts hown hlk hnm hsz hE hP hD hS hA hl
  have hown : s.vm.findClass RX6 = some m.cls := hown
  have hiX6 : ∀ w ∈ u_ws RX6 TX6 9, w ∈ wtX6_isLeastOfRing := fun w h => List.mem_cons_of_mem _ (iuX6 w h)
  have hl : lv_has ls 2 [(0, .ref s1), (1, .int (nI p0))] := hl
  refine lv_aload_n hx hb dX6_isLeastOfRing_0 rfl (lv_at hl 0 rfl) ?_
  refine va_get (D := D) (ci := 6) (v := .ref w2) (C := RX6) (T := TX6) (N := 9) hx hb hts hiX6 hown hE.1 hP 0 rfl rfl 2 (by decide) (hts _ (List.mem_cons_of_mem _ wd_81)) (fun _ h9 => h9) rfl dX6_isLeastOfRing_1 ?_
  refine lv_iload_n hx hb dX6_isLeastOfRing_4 rfl (lv_at hl 1 rfl) ?_
  refine va_iald hx hb hE.1 hP 1 0 rfl rfl (vp_in_nI (n := p0) (by omega) (by decide)) dX6_isLeastOfRing_5 ?_
  refine lv_topi (fun v1 ev1 => ?_)
  refine lv_if_eq (tgt := 28) hx hb dX6_isLeastOfRing_6 (by decide) (fun c2 => ?_) (fun c2 => ?_)
  · skip
    refine lv_iconst (v := 0) hx hb dX6_isLeastOfRing_28 (by decide) ?_
    refine k_zret (u := [(oX6 s1 w0 w1 w2 w3 w4 (nI wn) wi6 (nI lv) w8), (aIc cI w2 8 W2)]) hx hb hr (by decide) hlk hP hD hS dX6_isLeastOfRing_29 ?_
    exact ⟨(bz_f (lea_1 (((cl_at (A := W2) hp ev1).trans (hR p0 hp)).symm.trans c2))), rfl⟩
  · skip
    refine lv_aload_n hx hb dX6_isLeastOfRing_9 rfl (lv_at hl 0 rfl) ?_
    refine va_get (D := D) (ci := 6) (v := .ref w2) (C := RX6) (T := TX6) (N := 9) hx hb hts hiX6 hown hE.1 hP 0 rfl rfl 2 (by decide) (hts _ (List.mem_cons_of_mem _ wd_81)) (fun _ h9 => h9) rfl dX6_isLeastOfRing_10 ?_
    refine lv_iload_n hx hb dX6_isLeastOfRing_13 rfl (lv_at hl 1 rfl) ?_
    refine va_iald hx hb hE.1 hP 1 0 rfl rfl (vp_in_nI (n := p0) (by omega) (by decide)) dX6_isLeastOfRing_14 ?_
    refine lv_topi (fun v3 ev3 => ?_)
    refine lv_iconst (v := 1) hx hb dX6_isLeastOfRing_15 (by decide) ?_
    refine lv_iload_n hx hb dX6_isLeastOfRing_16 rfl (lv_at hl 1 rfl) ?_
    refine lv_ishl hx hb dX6_isLeastOfRing_17 ?_
    refine lv_topi (fun v4 ev4 => ?_)
    refine lv_iconst (v := 1) hx hb dX6_isLeastOfRing_18 (by decide) ?_
    refine lv_isub hx hb dX6_isLeastOfRing_19 ?_
    refine lv_topi (fun v5 ev5 => ?_)
    refine lv_iand hx hb dX6_isLeastOfRing_20 ?_
    refine lv_topi (fun v6 ev6 => ?_)
    refine lv_if_ne (tgt := 28) hx hb dX6_isLeastOfRing_21 (by decide) (fun c7 => ?_) (fun c7 => ?_)
    · skip
      refine lv_iconst (v := 0) hx hb dX6_isLeastOfRing_28 (by decide) ?_
      refine k_zret (u := [(oX6 s1 w0 w1 w2 w3 w4 (nI wn) wi6 (nI lv) w8), (aIc cI w2 8 W2)]) hx hb hr (by decide) hlk hP hD hS dX6_isLeastOfRing_29 ?_
      exact ⟨(bz_f (lea_2 ev4 ev5 (by rw [ev6, cl_at (A := W2) hp ev3, hR p0 hp]) c7)), rfl⟩
    · skip
      refine lv_iconst (v := 1) hx hb dX6_isLeastOfRing_24 (by decide) ?_
      refine lv_goto (tgt := 29) hx hb dX6_isLeastOfRing_25 (by decide) ?_
      refine k_zret (u := [(oX6 s1 w0 w1 w2 w3 w4 (nI wn) wi6 (nI lv) w8), (aIc cI w2 8 W2)]) hx hb hr (by decide) hlk hP hD hS dX6_isLeastOfRing_29 ?_
      exact ⟨(bz_t (lea_y (fun q9 => c2 (((cl_at (A := W2) hp ev1).trans (hR p0 hp)).trans q9)) ev4 ev5 (by rw [ev6, cl_at (A := W2) hp ev3, hR p0 hp]) c7)), rfl⟩
set_option maxHeartbeats 4000000 in
set_option maxRecDepth 100000 in
theorem e_X8_isLead (l : Launch) (D : va_G) (cI cJ : ClassId) (sz : Nat) (g g2 g3 g4 g5 g6 g7 g8 g9 g10 g12 g13 g15 g16 g17 g19 g20 g21 g22 g23 g24 g25 g26 g27 g28 g33 g34 g35 g36 g37 g38 g39 g41 g42 g44 g45 p0 mn ml mv : Nat) (gi0 gi14 gi18 gi29 gi30 gi32 gi40 gi43 : Int32) (G23 R0 : Nat → Int32) (hp : p0 < 8) (hR : ∀ k, k < 8 → G23 k = R0 k) : Met l yX8_isLead wtX8_isLead { frames := 0, cells := 0, slots := 0, locals := 0 } (cPc D cI cJ [.ref g, .int (nI p0)] sz [(oX8 g gi0 (nI mn) g2 g3 g4 g5 g6 g7 g8 g9 g10 (nI ml) g12 g13 gi14 g15 g16 g17 gi18 g19 g20 g21 g22 g23 g24 g25 g26 g27 g28 gi29 gi30 (nI mv) gi32 g33 g34 g35 g36 g37 g38 g39 gi40 g41 g42 gi43 g44 g45), (aIc cI g23 8 G23)]) (cQi D (fun r u => r = bz (LEA (R0 p0) p0 = true) ∧ u = [(oX8 g gi0 (nI mn) g2 g3 g4 g5 g6 g7 g8 g9 g10 (nI ml) g12 g13 gi14 g15 g16 g17 gi18 g19 g20 g21 g22 g23 g24 g25 g26 g27 g28 gi29 gi30 (nI mv) gi32 g33 g34 g35 g36 g37 g38 g39 gi40 g41 g42 gi43 g44 g45), (aIc cI g23 8 G23)]) (va_A [(oX8 g gi0 (nI mn) g2 g3 g4 g5 g6 g7 g8 g9 g10 (nI ml) g12 g13 gi14 g15 g16 g17 gi18 g19 g20 g21 g22 g23 g24 g25 g26 g27 g28 gi29 gi30 (nI mv) gi32 g33 g34 g35 g36 g37 g38 g39 gi40 g41 g42 gi43 g44 g45), (aIc cI g23 8 G23)] sz)) 0 0 (va_A [(oX8 g gi0 (nI mn) g2 g3 g4 g5 g6 g7 g8 g9 g10 (nI ml) g12 g13 gi14 g15 g16 g17 gi18 g19 g20 g21 g22 g23 g24 g25 g26 g27 g28 gi29 gi30 (nI mv) gi32 g33 g34 g35 g36 g37 g38 g39 gi40 g41 g42 gi43 g44 g45), (aIc cI g23 8 G23)] sz) := by
  refine k_ofW (Qc := cQi D (fun r u => r = bz (LEA (R0 p0) p0 = true) ∧ u = [(oX8 g gi0 (nI mn) g2 g3 g4 g5 g6 g7 g8 g9 g10 (nI ml) g12 g13 gi14 g15 g16 g17 gi18 g19 g20 g21 g22 g23 g24 g25 g26 g27 g28 gi29 gi30 (nI mv) gi32 g33 g34 g35 g36 g37 g38 g39 gi40 g41 g42 gi43 g44 g45), (aIc cI g23 8 G23)])) (by decide) rfl (Nat.le_of_ble_eq_true rfl) ?_
  intro p e s m below meth c A ls hx hb hr hml hts hown hlk hnm hsz hE hP hD hS hA hl
  have hown : s.vm.findClass RX8 = some m.cls := hown
  have hiX8 : ∀ w ∈ u_ws RX8 TX8 46, w ∈ wtX8_isLead := fun w h => List.mem_cons_of_mem _ (iuX8 w h)
  have hl : lv_has ls 2 [(0, .ref g), (1, .int (nI p0))] := hl
  refine lv_aload_n hx hb dX8_isLead_0 rfl (lv_at hl 0 rfl) ?_
  refine va_get (D := D) (ci := 8) (v := .ref g23) (C := RX8) (T := TX8) (N := 46) hx hb hts hiX8 hown hE.1 hP 0 rfl rfl 23 (by decide) (hts _ (List.mem_cons_of_mem _ wd_134)) (fun _ h9 => h9) rfl dX8_isLead_1 ?_
  refine lv_iload_n hx hb dX8_isLead_4 rfl (lv_at hl 1 rfl) ?_
  refine va_iald hx hb hE.1 hP 1 0 rfl rfl (vp_in_nI (n := p0) (by omega) (by decide)) dX8_isLead_5 ?_
  refine lv_topi (fun v1 ev1 => ?_)
  refine lv_if_eq (tgt := 28) hx hb dX8_isLead_6 (by decide) (fun c2 => ?_) (fun c2 => ?_)
  · skip
    refine lv_iconst (v := 0) hx hb dX8_isLead_28 (by decide) ?_
    refine k_zret (u := [(oX8 g gi0 (nI mn) g2 g3 g4 g5 g6 g7 g8 g9 g10 (nI ml) g12 g13 gi14 g15 g16 g17 gi18 g19 g20 g21 g22 g23 g24 g25 g26 g27 g28 gi29 gi30 (nI mv) gi32 g33 g34 g35 g36 g37 g38 g39 gi40 g41 g42 gi43 g44 g45), (aIc cI g23 8 G23)]) hx hb hr (by decide) hlk hP hD hS dX8_isLead_29 ?_
    exact ⟨(bz_f (lea_1 (((cl_at (A := G23) hp ev1).trans (hR p0 hp)).symm.trans c2))), rfl⟩
  · skip
    refine lv_aload_n hx hb dX8_isLead_9 rfl (lv_at hl 0 rfl) ?_
    refine va_get (D := D) (ci := 8) (v := .ref g23) (C := RX8) (T := TX8) (N := 46) hx hb hts hiX8 hown hE.1 hP 0 rfl rfl 23 (by decide) (hts _ (List.mem_cons_of_mem _ wd_134)) (fun _ h9 => h9) rfl dX8_isLead_10 ?_
    refine lv_iload_n hx hb dX8_isLead_13 rfl (lv_at hl 1 rfl) ?_
    refine va_iald hx hb hE.1 hP 1 0 rfl rfl (vp_in_nI (n := p0) (by omega) (by decide)) dX8_isLead_14 ?_
    refine lv_topi (fun v3 ev3 => ?_)
    refine lv_iconst (v := 1) hx hb dX8_isLead_15 (by decide) ?_
    refine lv_iload_n hx hb dX8_isLead_16 rfl (lv_at hl 1 rfl) ?_
    refine lv_ishl hx hb dX8_isLead_17 ?_
    refine lv_topi (fun v4 ev4 => ?_)
    refine lv_iconst (v := 1) hx hb dX8_isLead_18 (by decide) ?_
    refine lv_isub hx hb dX8_isLead_19 ?_
    refine lv_topi (fun v5 ev5 => ?_)
    refine lv_iand hx hb dX8_isLead_20 ?_
    refine lv_topi (fun v6 ev6 => ?_)
    refine lv_if_ne (tgt := 28) hx hb dX8_isLead_21 (by decide) (fun c7 => ?_) (fun c7 => ?_)
    · skip
      refine lv_iconst (v := 0) hx hb dX8_isLead_28 (by decide) ?_
      refine k_zret (u := [(oX8 g gi0 (nI mn) g2 g3 g4 g5 g6 g7 g8 g9 g10 (nI ml) g12 g13 gi14 g15 g16 g17 gi18 g19 g20 g21 g22 g23 g24 g25 g26 g27 g28 gi29 gi30 (nI mv) gi32 g33 g34 g35 g36 g37 g38 g39 gi40 g41 g42 gi43 g44 g45), (aIc cI g23 8 G23)]) hx hb hr (by decide) hlk hP hD hS dX8_isLead_29 ?_
      exact ⟨(bz_f (lea_2 ev4 ev5 (by rw [ev6, cl_at (A := G23) hp ev3, hR p0 hp]) c7)), rfl⟩
    · skip
      refine lv_iconst (v := 1) hx hb dX8_isLead_24 (by decide) ?_
      refine lv_goto (tgt := 29) hx hb dX8_isLead_25 (by decide) ?_
      refine k_zret (u := [(oX8 g gi0 (nI mn) g2 g3 g4 g5 g6 g7 g8 g9 g10 (nI ml) g12 g13 gi14 g15 g16 g17 gi18 g19 g20 g21 g22 g23 g24 g25 g26 g27 g28 gi29 gi30 (nI mv) gi32 g33 g34 g35 g36 g37 g38 g39 gi40 g41 g42 gi43 g44 g45), (aIc cI g23 8 G23)]) hx hb hr (by decide) hlk hP hD hS dX8_isLead_29 ?_
      exact ⟨(bz_t (lea_y (fun q9 => c2 (((cl_at (A := G23) hp ev1).trans (hR p0 hp)).trans q9)) ev4 ev5 (by rw [ev6, cl_at (A := G23) hp ev3, hR p0 hp]) c7)), rfl⟩
set_option maxHeartbeats 4000000 in
set_option maxRecDepth 100000 in
theorem e_X6_countRings (l : Launch) (D : va_G) (cI cJ : ClassId) (sz : Nat) (s1 w0 w1 w2 w3 w4 w8 wn lv : Nat) (wi6 : Int32) (W2 R0 : Nat → Int32) (hR : ∀ k, k < 8 → W2 k = R0 k) : Met l yX6_countRings wtX6_countRings { frames := 1, cells := 0, slots := 0, locals := 21 } (cPc D cI cJ [.ref s1] sz [(oX6 s1 w0 w1 w2 w3 w4 (nI wn) wi6 (nI lv) w8), (aIc cI w2 8 W2)]) (cQi D (fun r u => r = (nI (NR R0 8)) ∧ u = [(oX6 s1 w0 w1 w2 w3 w4 (nI wn) wi6 (nI lv) w8), (aIc cI w2 8 W2)]) (va_A [(oX6 s1 w0 w1 w2 w3 w4 (nI wn) wi6 (nI lv) w8), (aIc cI w2 8 W2)] sz)) 0 0 (va_A [(oX6 s1 w0 w1 w2 w3 w4 (nI wn) wi6 (nI lv) w8), (aIc cI w2 8 W2)] sz) := by
  refine k_ofW (Qc := cQi D (fun r u => r = (nI (NR R0 8)) ∧ u = [(oX6 s1 w0 w1 w2 w3 w4 (nI wn) wi6 (nI lv) w8), (aIc cI w2 8 W2)])) (by decide) rfl (Nat.le_of_ble_eq_true rfl) ?_
  intro p e s m below meth c A ls hx hb hr hml hts hown hlk hnm hsz hE hP hD hS hA hl
  have hown : s.vm.findClass RX6 = some m.cls := hown
  have hl : lv_has ls 3 [(0, .ref s1)] := hl
  refine lv_iconst (v := 0) hx hb dX6_countRings_0 (by decide) ?_
  refine lv_istore_n (lv' := [(1, .int 0), (0, .ref s1)]) hx hb dX6_countRings_1 rfl hl (by decide) rfl (fun ls hl => ?_)
  refine lv_iconst (v := 0) hx hb dX6_countRings_2 (by decide) ?_
  refine lv_istore_n (lv' := [(2, .int 0), (1, .int 0), (0, .ref s1)]) hx hb dX6_countRings_3 rfl hl (by decide) rfl (fun ls hl => ?_)
  have J4 : ∀ (zz : Nat) (i4 h1_4 : Nat), (i4 ≤ 8) → (h1_4 = NR R0 i4) → (8 - i4) < zz → ∀ (H : Heap) (locs : List Loc) (ls : Array Slot), va_P D vwCl [(oX6 s1 w0 w1 w2 w3 w4 (nI wn) wi6 (nI lv) w8), (aIc cI w2 8 W2)] H → va_D A [(oX6 s1 w0 w1 w2 w3 w4 (nI wn) wi6 (nI lv) w8), (aIc cI w2 8 W2)] → va_S A s.heap H locs → lv_has ls 3 [(2, .int (nI i4)), (1, .int (nI h1_4)), (0, .ref s1)] → W p l e { frames := 1, cells := 0, slots := 0, locals := 21 } s m [.ref s1].toArray below meth c H locs 0 0 (MQ below (cQi D (fun r u => r = (nI (NR R0 8)) ∧ u = [(oX6 s1 w0 w1 w2 w3 w4 (nI wn) wi6 (nI lv) w8), (aIc cI w2 8 W2)]) A) [.ref s1].toArray s 0 0 A) (F0 m 4 ls []) := by
    intro zz
    induction zz with
    | zero => intro i4 h1_4 _ _; exact fun h => absurd h (Nat.not_lt_zero _)
    | succ zz ih4 =>
      intro i4 h1_4 hc2_4 hs_4 hmu4 H locs ls hP hD hS hl
      refine lv_iload_n hx hb dX6_countRings_4 rfl (lv_at hl 0 rfl) ?_
      refine lv_bipush (v := 8) hx hb dX6_countRings_5 (by decide) ?_
      refine lv_icmp_ge (tgt := 27) hx hb dX6_countRings_7 (by decide) (fun c1 => ?_) (fun c1 => ?_)
      · skip
        have nc1 : 8 ≤ i4 := (nI_leI (a := 8) (b := i4) (by omega) (by omega)).mp c1
        refine lv_iload_n hx hb dX6_countRings_27 rfl (lv_at hl 1 rfl) ?_
        refine k_iret (u := [(oX6 s1 w0 w1 w2 w3 w4 (nI wn) wi6 (nI lv) w8), (aIc cI w2 8 W2)]) hx hb hr hlk hP hD hS dX6_countRings_28 ?_
        exact ⟨(congrArg nI (by obtain rfl : i4 = 8 := (by omega); exact hs_4)), rfl⟩
      · skip
        have nc1 : ¬ 8 ≤ i4 := fun q9 => c1 ((nI_leI (a := 8) (b := i4) (by omega) (by omega)).mpr q9)
        refine lv_aload_n hx hb dX6_countRings_10 rfl (lv_at hl 2 rfl) ?_
        refine lv_iload_n hx hb dX6_countRings_11 rfl (lv_at hl 0 rfl) ?_
        refine k_iS (va_runV (As := [.int (nI i4)]) (rest := []) ⟨hx, hb, hml, hown, hts⟩ (e_X6_isLeastOfRing l D cI cJ H.size s1 w0 w1 w2 w3 w4 w8 i4 wn lv wi6 W2 R0 (by omega) hR) (cwV 1 hts gX6_countRings_X6_isLeastOfRing rfl rfl rfl (by decide +kernel) ⟨Nat.le_of_ble_eq_true rfl, Nat.le_of_ble_eq_true rfl⟩) (k_preV hE hP hD [0, 1] (by decide +kernel) rfl 0 rfl rfl) rfl rfl hl.1 rfl (lv_room (Nat.le_of_ble_eq_true rfl)) dX6_countRings_12 ⟨Nat.le_of_ble_eq_true rfl, Nat.le_of_ble_eq_true rfl⟩) hP hD hS hA [0, 1] rfl (fun _ _ ⟨_, h9⟩ => h9) (fun r2 H locs hw3 hP hD hS => ?_)
        obtain ⟨hb4, -⟩ := hw3
        refine lv_if_eq (tgt := 21) hx hb dX6_countRings_15 (by decide) (fun c5 => ?_) (fun c5 => ?_)
        · skip
          have hc5 : ¬ (LEA (R0 i4) i4 = true) := bz_0 hb4 c5
          refine lv_iinc (v := (nI (i4 + 1))) (lv' := [(2, .int (nI (i4 + 1))), (1, .int (nI h1_4)), (0, .ref s1)]) hx hb dX6_countRings_21 hl (k := 0) rfl (nI_1 _) (by decide) rfl (fun ls hl => ?_)
          refine lv_goto (tgt := 4) hx hb dX6_countRings_24 (by decide) ?_
          exact ih4 (i4 + 1) h1_4 (by omega) (nr_n hs_4 hc5) (by omega) _ _ _ hP hD hS (lv_sub hl [0, 1, 2] rfl)
        · skip
          have hc5 : LEA (R0 i4) i4 = true := bz_1 hb4 c5
          refine lv_iinc (v := (nI (h1_4 + 1))) (lv' := [(1, .int (nI (h1_4 + 1))), (2, .int (nI i4)), (0, .ref s1)]) hx hb dX6_countRings_18 hl (k := 1) rfl (nI_1 _) (by decide) rfl (fun ls hl => ?_)
          refine lv_iinc (v := (nI (i4 + 1))) (lv' := [(2, .int (nI (i4 + 1))), (1, .int (nI (h1_4 + 1))), (0, .ref s1)]) hx hb dX6_countRings_21 hl (k := 1) rfl (nI_1 _) (by decide) rfl (fun ls hl => ?_)
          refine lv_goto (tgt := 4) hx hb dX6_countRings_24 (by decide) ?_
          exact ih4 (i4 + 1) (h1_4 + 1) (by omega) (nr_y hs_4 hc5) (by omega) _ _ _ hP hD hS (lv_sub hl [0, 1, 2] rfl)
  exact J4 _ 0 0 (by omega) rfl (Nat.lt_succ_self _) _ _ _ hP hD hS (lv_sub hl [0, 1, 2] rfl)
set_option maxHeartbeats 4000000 in
set_option maxRecDepth 100000 in
theorem e_X8_rings (l : Launch) (D : va_G) (cI cJ : ClassId) (sz : Nat) (g g2 g3 g4 g5 g6 g7 g8 g9 g10 g12 g13 g15 g16 g17 g19 g20 g21 g22 g23 g24 g25 g26 g27 g28 g33 g34 g35 g36 g37 g38 g39 g41 g42 g44 g45 mn ml mv : Nat) (gi0 gi14 gi18 gi29 gi30 gi32 gi40 gi43 : Int32) (G23 R0 : Nat → Int32) (hR : ∀ k, k < 8 → G23 k = R0 k) : Met l yX8_rings wtX8_rings { frames := 1, cells := 0, slots := 0, locals := 21 } (cPc D cI cJ [.ref g] sz [(oX8 g gi0 (nI mn) g2 g3 g4 g5 g6 g7 g8 g9 g10 (nI ml) g12 g13 gi14 g15 g16 g17 gi18 g19 g20 g21 g22 g23 g24 g25 g26 g27 g28 gi29 gi30 (nI mv) gi32 g33 g34 g35 g36 g37 g38 g39 gi40 g41 g42 gi43 g44 g45), (aIc cI g23 8 G23)]) (cQi D (fun r u => r = (nI (NR R0 8)) ∧ u = [(oX8 g gi0 (nI mn) g2 g3 g4 g5 g6 g7 g8 g9 g10 (nI ml) g12 g13 gi14 g15 g16 g17 gi18 g19 g20 g21 g22 g23 g24 g25 g26 g27 g28 gi29 gi30 (nI mv) gi32 g33 g34 g35 g36 g37 g38 g39 gi40 g41 g42 gi43 g44 g45), (aIc cI g23 8 G23)]) (va_A [(oX8 g gi0 (nI mn) g2 g3 g4 g5 g6 g7 g8 g9 g10 (nI ml) g12 g13 gi14 g15 g16 g17 gi18 g19 g20 g21 g22 g23 g24 g25 g26 g27 g28 gi29 gi30 (nI mv) gi32 g33 g34 g35 g36 g37 g38 g39 gi40 g41 g42 gi43 g44 g45), (aIc cI g23 8 G23)] sz)) 0 0 (va_A [(oX8 g gi0 (nI mn) g2 g3 g4 g5 g6 g7 g8 g9 g10 (nI ml) g12 g13 gi14 g15 g16 g17 gi18 g19 g20 g21 g22 g23 g24 g25 g26 g27 g28 gi29 gi30 (nI mv) gi32 g33 g34 g35 g36 g37 g38 g39 gi40 g41 g42 gi43 g44 g45), (aIc cI g23 8 G23)] sz) := by
  refine k_ofW (Qc := cQi D (fun r u => r = (nI (NR R0 8)) ∧ u = [(oX8 g gi0 (nI mn) g2 g3 g4 g5 g6 g7 g8 g9 g10 (nI ml) g12 g13 gi14 g15 g16 g17 gi18 g19 g20 g21 g22 g23 g24 g25 g26 g27 g28 gi29 gi30 (nI mv) gi32 g33 g34 g35 g36 g37 g38 g39 gi40 g41 g42 gi43 g44 g45), (aIc cI g23 8 G23)])) (by decide) rfl (Nat.le_of_ble_eq_true rfl) ?_
  intro p e s m below meth c A ls hx hb hr hml hts hown hlk hnm hsz hE hP hD hS hA hl
  have hown : s.vm.findClass RX8 = some m.cls := hown
  have hl : lv_has ls 3 [(0, .ref g)] := hl
  refine lv_iconst (v := 0) hx hb dX8_rings_0 (by decide) ?_
  refine lv_istore_n (lv' := [(1, .int 0), (0, .ref g)]) hx hb dX8_rings_1 rfl hl (by decide) rfl (fun ls hl => ?_)
  refine lv_iconst (v := 0) hx hb dX8_rings_2 (by decide) ?_
  refine lv_istore_n (lv' := [(2, .int 0), (1, .int 0), (0, .ref g)]) hx hb dX8_rings_3 rfl hl (by decide) rfl (fun ls hl => ?_)
  have J4 : ∀ (zz : Nat) (i4 h1_4 : Nat), (i4 ≤ 8) → (h1_4 = NR R0 i4) → (8 - i4) < zz → ∀ (H : Heap) (locs : List Loc) (ls : Array Slot), va_P D vwCl [(oX8 g gi0 (nI mn) g2 g3 g4 g5 g6 g7 g8 g9 g10 (nI ml) g12 g13 gi14 g15 g16 g17 gi18 g19 g20 g21 g22 g23 g24 g25 g26 g27 g28 gi29 gi30 (nI mv) gi32 g33 g34 g35 g36 g37 g38 g39 gi40 g41 g42 gi43 g44 g45), (aIc cI g23 8 G23)] H → va_D A [(oX8 g gi0 (nI mn) g2 g3 g4 g5 g6 g7 g8 g9 g10 (nI ml) g12 g13 gi14 g15 g16 g17 gi18 g19 g20 g21 g22 g23 g24 g25 g26 g27 g28 gi29 gi30 (nI mv) gi32 g33 g34 g35 g36 g37 g38 g39 gi40 g41 g42 gi43 g44 g45), (aIc cI g23 8 G23)] → va_S A s.heap H locs → lv_has ls 3 [(2, .int (nI i4)), (1, .int (nI h1_4)), (0, .ref g)] → W p l e { frames := 1, cells := 0, slots := 0, locals := 21 } s m [.ref g].toArray below meth c H locs 0 0 (MQ below (cQi D (fun r u => r = (nI (NR R0 8)) ∧ u = [(oX8 g gi0 (nI mn) g2 g3 g4 g5 g6 g7 g8 g9 g10 (nI ml) g12 g13 gi14 g15 g16 g17 gi18 g19 g20 g21 g22 g23 g24 g25 g26 g27 g28 gi29 gi30 (nI mv) gi32 g33 g34 g35 g36 g37 g38 g39 gi40 g41 g42 gi43 g44 g45), (aIc cI g23 8 G23)]) A) [.ref g].toArray s 0 0 A) (F0 m 4 ls []) := by
    intro zz
    induction zz with
    | zero => intro i4 h1_4 _ _; exact fun h => absurd h (Nat.not_lt_zero _)
    | succ zz ih4 =>
      intro i4 h1_4 hc2_4 hs_4 hmu4 H locs ls hP hD hS hl
      refine lv_iload_n hx hb dX8_rings_4 rfl (lv_at hl 0 rfl) ?_
      refine lv_bipush (v := 8) hx hb dX8_rings_5 (by decide) ?_
      refine lv_icmp_ge (tgt := 32) hx hb dX8_rings_7 (by decide) (fun c1 => ?_) (fun c1 => ?_)
      · skip
        have nc1 : 8 ≤ i4 := (nI_leI (a := 8) (b := i4) (by omega) (by omega)).mp c1
        refine lv_iload_n hx hb dX8_rings_32 rfl (lv_at hl 1 rfl) ?_
        refine k_iret (u := [(oX8 g gi0 (nI mn) g2 g3 g4 g5 g6 g7 g8 g9 g10 (nI ml) g12 g13 gi14 g15 g16 g17 gi18 g19 g20 g21 g22 g23 g24 g25 g26 g27 g28 gi29 gi30 (nI mv) gi32 g33 g34 g35 g36 g37 g38 g39 gi40 g41 g42 gi43 g44 g45), (aIc cI g23 8 G23)]) hx hb hr hlk hP hD hS dX8_rings_33 ?_
        exact ⟨(congrArg nI (by obtain rfl : i4 = 8 := (by omega); exact hs_4)), rfl⟩
      · skip
        have nc1 : ¬ 8 ≤ i4 := fun q9 => c1 ((nI_leI (a := 8) (b := i4) (by omega) (by omega)).mpr q9)
        refine lv_iload_n hx hb dX8_rings_10 rfl (lv_at hl 1 rfl) ?_
        refine lv_aload_n hx hb dX8_rings_11 rfl (lv_at hl 2 rfl) ?_
        refine lv_iload_n hx hb dX8_rings_12 rfl (lv_at hl 0 rfl) ?_
        refine k_iS (va_runV (As := [.int (nI i4)]) (rest := [.int (nI h1_4)]) ⟨hx, hb, hml, hown, hts⟩ (e_X8_isLead l D cI cJ H.size g g2 g3 g4 g5 g6 g7 g8 g9 g10 g12 g13 g15 g16 g17 g19 g20 g21 g22 g23 g24 g25 g26 g27 g28 g33 g34 g35 g36 g37 g38 g39 g41 g42 g44 g45 i4 mn ml mv gi0 gi14 gi18 gi29 gi30 gi32 gi40 gi43 G23 R0 (by omega) hR) (cwV 1 hts gX8_rings_X8_isLead rfl rfl rfl (by decide +kernel) ⟨Nat.le_of_ble_eq_true rfl, Nat.le_of_ble_eq_true rfl⟩) (k_preV hE hP hD [0, 1] (by decide +kernel) rfl 0 rfl rfl) rfl rfl hl.1 rfl (lv_room (Nat.le_of_ble_eq_true rfl)) dX8_rings_13 ⟨Nat.le_of_ble_eq_true rfl, Nat.le_of_ble_eq_true rfl⟩) hP hD hS hA [0, 1] rfl (fun _ _ ⟨_, h9⟩ => h9) (fun r2 H locs hw3 hP hD hS => ?_)
        obtain ⟨hb4, -⟩ := hw3
        refine lv_if_eq (tgt := 23) hx hb dX8_rings_16 (by decide) (fun c5 => ?_) (fun c5 => ?_)
        · skip
          have hc5 : ¬ (LEA (R0 i4) i4 = true) := bz_0 hb4 c5
          refine lv_iconst (v := 0) hx hb dX8_rings_23 (by decide) ?_
          refine lv_iadd hx hb dX8_rings_24 ?_
          refine lv_topi (fun v6 ev6 => ?_)
          obtain rfl : v6 = (nI h1_4) := by rw [ev6]; exact nI_add h1_4 0
          refine lv_istore_n (lv' := [(1, .int (nI h1_4)), (2, .int (nI i4)), (0, .ref g)]) hx hb dX8_rings_25 rfl hl (by decide) rfl (fun ls hl => ?_)
          refine lv_iinc (v := (nI (i4 + 1))) (lv' := [(2, .int (nI (i4 + 1))), (1, .int (nI h1_4)), (0, .ref g)]) hx hb dX8_rings_26 hl (k := 1) rfl (nI_1 _) (by decide) rfl (fun ls hl => ?_)
          refine lv_goto (tgt := 4) hx hb dX8_rings_29 (by decide) ?_
          exact ih4 (i4 + 1) h1_4 (by omega) (nr_n hs_4 hc5) (by omega) _ _ _ hP hD hS (lv_sub hl [0, 1, 2] rfl)
        · skip
          have hc5 : LEA (R0 i4) i4 = true := bz_1 hb4 c5
          refine lv_iconst (v := 1) hx hb dX8_rings_19 (by decide) ?_
          refine lv_goto (tgt := 24) hx hb dX8_rings_20 (by decide) ?_
          refine lv_iadd hx hb dX8_rings_24 ?_
          refine lv_topi (fun v7 ev7 => ?_)
          obtain rfl : v7 = (nI (h1_4 + 1)) := by rw [ev7]; exact nI_add h1_4 1
          refine lv_istore_n (lv' := [(1, .int (nI (h1_4 + 1))), (2, .int (nI i4)), (0, .ref g)]) hx hb dX8_rings_25 rfl hl (by decide) rfl (fun ls hl => ?_)
          refine lv_iinc (v := (nI (i4 + 1))) (lv' := [(2, .int (nI (i4 + 1))), (1, .int (nI (h1_4 + 1))), (0, .ref g)]) hx hb dX8_rings_26 hl (k := 1) rfl (nI_1 _) (by decide) rfl (fun ls hl => ?_)
          refine lv_goto (tgt := 4) hx hb dX8_rings_29 (by decide) ?_
          exact ih4 (i4 + 1) (h1_4 + 1) (by omega) (nr_y hs_4 hc5) (by omega) _ _ _ hP hD hS (lv_sub hl [0, 1, 2] rfl)
  exact J4 _ 0 0 (by omega) rfl (Nat.lt_succ_self _) _ _ _ hP hD hS (lv_sub hl [0, 1, 2] rfl)
