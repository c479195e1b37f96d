set_option maxHeartbeats 4000000 in
set_option maxRecDepth 100000 in
theorem e_X0_limitsOn (l : Launch) (D : va_G) (cI cJ : ClassId) (sz : Nat) (x0 b0 b1 b2 b3 b4 b5 b6 b7 b8 b9 b10 b11 im np nl : Nat) (bi14 : Int32) (B0 B4 : Nat → Int32) (li0 : Nat → Nat) (hnp : np ≤ 8) (hnl : nl ≤ 10) (him : im < 8) (hliv : nv B0 li0) (hlib : ∀ k, k < 8 → li0 k ≤ 1000000) : Met l yX0_limitsOn wtX0_limitsOn { frames := 1, cells := 0, slots := 0, locals := 21 } (cPc D cI cJ [.ref x0, .int (nI im)] sz [(oX0 x0 b0 b1 b2 b3 b4 b5 b6 b7 b8 b9 b10 b11 (nI np) (nI nl) bi14), (aIc cI b0 8 B0), (aIc cI b4 8 B4)]) (cQi D (fun r u => r = (nI (sm (LF li0 li0 B4 im) np)) ∧ u = [(oX0 x0 b0 b1 b2 b3 b4 b5 b6 b7 b8 b9 b10 b11 (nI np) (nI nl) bi14), (aIc cI b0 8 B0), (aIc cI b4 8 B4)]) (va_A [(oX0 x0 b0 b1 b2 b3 b4 b5 b6 b7 b8 b9 b10 b11 (nI np) (nI nl) bi14), (aIc cI b0 8 B0), (aIc cI b4 8 B4)] sz)) 0 0 (va_A [(oX0 x0 b0 b1 b2 b3 b4 b5 b6 b7 b8 b9 b10 b11 (nI np) (nI nl) bi14), (aIc cI b0 8 B0), (aIc cI b4 8 B4)] sz) := by
  refine k_ofW (Qc := cQi D (fun r u => r = (nI (sm (LF li0 li0 B4 im) np)) ∧ u = [(oX0 x0 b0 b1 b2 b3 b4 b5 b6 b7 b8 b9 b10 b11 (nI np) (nI nl) bi14), (aIc cI b0 8 B0), (aIc cI b4 8 B4)])) (by decide) rfl (Nat.le_of_ble_eq_true rfl) ?_
  intro p e s m below meth c A ls hx hb hr hml hts hown hlk hnm hsz hE hP hD hS hA hl
  have hown : s.vm.findClass RX0 = some m.cls := hown
  have hiX0 : ∀ w ∈ u_ws RX0 TX0 15, w ∈ wtX0_limitsOn := fun w h => List.mem_cons_of_mem _ (iuX0 w h)
  have hl : lv_has ls 4 [(0, .ref x0), (1, .int (nI im))] := hl
  refine lv_iconst (v := 0) hx hb dX0_limitsOn_0 (by decide) ?_
  refine lv_istore_n (lv' := [(2, .int 0), (0, .ref x0), (1, .int (nI im))]) hx hb dX0_limitsOn_1 rfl hl (by decide) rfl (fun ls hl => ?_)
  refine lv_iconst (v := 0) hx hb dX0_limitsOn_2 (by decide) ?_
  refine lv_istore_n (lv' := [(3, .int 0), (2, .int 0), (0, .ref x0), (1, .int (nI im))]) hx hb dX0_limitsOn_3 rfl hl (by decide) rfl (fun ls hl => ?_)
  have J4 : ∀ (zz : Nat) (i4 h2_4 : Nat), (i4 ≤ 8) → (h2_4 = sm (LF li0 li0 B4 im) i4) → (i4 ≤ np) → (8 - i4) < zz → ∀ (H : Heap) (locs : List Loc) (ls : Array Slot), va_P D vwCl [(oX0 x0 b0 b1 b2 b3 b4 b5 b6 b7 b8 b9 b10 b11 (nI np) (nI nl) bi14), (aIc cI b0 8 B0), (aIc cI b4 8 B4)] H → va_D A [(oX0 x0 b0 b1 b2 b3 b4 b5 b6 b7 b8 b9 b10 b11 (nI np) (nI nl) bi14), (aIc cI b0 8 B0), (aIc cI b4 8 B4)] → va_S A s.heap H locs → lv_has ls 4 [(3, .int (nI i4)), (2, .int (nI h2_4)), (0, .ref x0), (1, .int (nI im))] → W p l e { frames := 1, cells := 0, slots := 0, locals := 21 } s m [.ref x0, .int (nI im)].toArray below meth c H locs 0 0 (MQ below (cQi D (fun r u => r = (nI (sm (LF li0 li0 B4 im) np)) ∧ u = [(oX0 x0 b0 b1 b2 b3 b4 b5 b6 b7 b8 b9 b10 b11 (nI np) (nI nl) bi14), (aIc cI b0 8 B0), (aIc cI b4 8 B4)]) A) [.ref x0, .int (nI im)].toArray s 0 0 A) (F0 m 4 ls []) := by
    intro zz
    induction zz with
    | zero => intro i4 h2_4 _ _ _; exact fun h => absurd h (Nat.not_lt_zero _)
    | succ zz ih4 =>
      intro i4 h2_4 hc3_4 hs_4 hil_4 hmu4 H locs ls hP hD hS hl
      refine lv_iload_n hx hb dX0_limitsOn_4 rfl (lv_at hl 0 rfl) ?_
      refine lv_aload_n hx hb dX0_limitsOn_5 rfl (lv_at hl 2 rfl) ?_
      refine va_get (D := D) (ci := 0) (v := .int (nI np)) (C := RX0) (T := TX0) (N := 15) hx hb hts hiX0 hown hE.1 hP 0 rfl rfl 12 (by decide) (hts _ (List.mem_cons_of_mem _ wd_296)) (fun _ h9 => h9) rfl dX0_limitsOn_6 ?_
      refine lv_icmp_ge (tgt := 46) hx hb dX0_limitsOn_9 (by decide) (fun c1 => ?_) (fun c1 => ?_)
      · skip
        have nc1 : np ≤ i4 := (nI_leI (a := np) (b := i4) (by omega) (by omega)).mp c1
        refine lv_iload_n hx hb dX0_limitsOn_46 rfl (lv_at hl 1 rfl) ?_
        refine k_iret (u := [(oX0 x0 b0 b1 b2 b3 b4 b5 b6 b7 b8 b9 b10 b11 (nI np) (nI nl) bi14), (aIc cI b0 8 B0), (aIc cI b4 8 B4)]) hx hb hr hlk hP hD hS dX0_limitsOn_47 ?_
        exact ⟨(congrArg nI (by obtain rfl : i4 = np := (by omega); exact hs_4)), rfl⟩
      · skip
        have nc1 : ¬ np ≤ i4 := fun q9 => c1 ((nI_leI (a := np) (b := i4) (by omega) (by omega)).mpr q9)
        refine lv_iload_n hx hb dX0_limitsOn_12 rfl (lv_at hl 0 rfl) ?_
        refine lv_bipush (v := 8) hx hb dX0_limitsOn_13 (by decide) ?_
        refine lv_icmp_ge (tgt := 46) hx hb dX0_limitsOn_15 (by decide) (fun c2 => ?_) (fun c2 => ?_)
        · skip
          have nc2 : 8 ≤ i4 := (nI_leI (a := 8) (b := i4) (by omega) (by omega)).mp c2
          refine lv_iload_n hx hb dX0_limitsOn_46 rfl (lv_at hl 1 rfl) ?_
          refine k_iret (u := [(oX0 x0 b0 b1 b2 b3 b4 b5 b6 b7 b8 b9 b10 b11 (nI np) (nI nl) bi14), (aIc cI b0 8 B0), (aIc cI b4 8 B4)]) hx hb hr hlk hP hD hS dX0_limitsOn_47 ?_
          exact ⟨(congrArg nI (by obtain rfl : i4 = np := (by omega); exact hs_4)), rfl⟩
        · skip
          have nc2 : ¬ 8 ≤ i4 := fun q9 => c2 ((nI_leI (a := 8) (b := i4) (by omega) (by omega)).mpr q9)
          refine lv_aload_n hx hb dX0_limitsOn_18 rfl (lv_at hl 2 rfl) ?_
          refine va_get (D := D) (ci := 0) (v := .ref b4) (C := RX0) (T := TX0) (N := 15) hx hb hts hiX0 hown hE.1 hP 0 rfl rfl 4 (by decide) (hts _ (List.mem_cons_of_mem _ wd_64)) (fun _ h9 => h9) rfl dX0_limitsOn_19 ?_
          refine lv_iload_n hx hb dX0_limitsOn_22 rfl (lv_at hl 0 rfl) ?_
          refine va_iald hx hb hE.1 hP 2 0 rfl rfl (vp_in_nI (n := i4) (by omega) (by decide)) dX0_limitsOn_23 ?_
          refine lv_topi (fun v3 ev3 => ?_)
          refine lv_iload_n hx hb dX0_limitsOn_24 rfl (lv_at hl 3 rfl) ?_
          refine k_iS (va_runSN (As := [.int v3, .int (nI im)]) (rest := []) ⟨hx, hb, hml, hown, hts⟩ (m_X7_has l D cI cJ H.size v3 (nI im)) ⟨va_cnB 2 hts gX0_limitsOn_X7_has_n61 rfl rfl rfl (nwk11 hE.2) (hts _ (List.mem_cons_of_mem _ wd_2)) (by decide +kernel) ⟨Nat.le_of_ble_eq_true rfl, Nat.le_of_ble_eq_true rfl⟩, (hts _ (List.mem_cons_of_mem _ wd_311)), trivial⟩ (k_pre hE hP hD [] (by decide +kernel) rfl) rfl rfl hl.1 rfl (lv_room (Nat.le_of_ble_eq_true rfl)) dX0_limitsOn_25 ⟨Nat.le_of_ble_eq_true rfl, Nat.le_of_ble_eq_true rfl⟩) hP hD hS hA [] rfl (fun _ _ h9 => h9.2) (fun r4 H locs hw5 hP hD hS => ?_)
          obtain ⟨hw5, -⟩ := hw5
          refine lv_if_eq (tgt := 40) hx hb dX0_limitsOn_28 (by decide) (fun c6 => ?_) (fun c6 => ?_)
          · skip
            have hc6 : ¬ (¬ (v3 >>> ((nI im) &&& 31)) &&& 1 = 0) := bz_0 hw5 c6
            refine lv_iinc (v := (nI (i4 + 1))) (lv' := [(3, .int (nI (i4 + 1))), (2, .int (nI h2_4)), (0, .ref x0), (1, .int (nI im))]) hx hb dX0_limitsOn_40 hl (k := 0) rfl (nI_1 _) (by decide) rfl (fun ls hl => ?_)
            refine lv_goto (tgt := 4) hx hb dX0_limitsOn_43 (by decide) ?_
            have hb9 : ¬ bt (B4 i4) im = true := fun q9 => hc6 ((r_nz him).mpr (by rw [r_at (A := B4) (by omega) ev3]; exact q9))
            exact ih4 (i4 + 1) h2_4 (by omega) (r_off hs_4 (lf_off hb9)) (by omega) (by omega) _ _ _ hP hD hS (lv_sub hl [0, 1, 2, 3] rfl)
          · skip
            have hc6 : ¬ (v3 >>> ((nI im) &&& 31)) &&& 1 = 0 := bz_1 hw5 c6
            refine lv_iload_n hx hb dX0_limitsOn_31 rfl (lv_at hl 1 rfl) ?_
            refine lv_aload_n hx hb dX0_limitsOn_32 rfl (lv_at hl 2 rfl) ?_
            refine va_get (D := D) (ci := 0) (v := .ref b0) (C := RX0) (T := TX0) (N := 15) hx hb hts hiX0 hown hE.1 hP 0 rfl rfl 0 (by decide) (hts _ (List.mem_cons_of_mem _ wd_60)) (fun _ h9 => h9) rfl dX0_limitsOn_33 ?_
            refine lv_iload_n hx hb dX0_limitsOn_36 rfl (lv_at hl 0 rfl) ?_
            refine va_iald hx hb hE.1 hP 1 0 rfl rfl (vp_in_nI (n := i4) (by omega) (by decide)) dX0_limitsOn_37 ?_
            refine lv_topi (fun v7 ev7 => ?_)
            obtain rfl : v7 = nI (li0 i4) := ev7.trans (nv_at hliv (by omega))
            refine lv_iadd hx hb dX0_limitsOn_38 ?_
            refine lv_topi (fun v8 ev8 => ?_)
            obtain rfl : v8 = (nI (h2_4 + (li0 i4))) := by rw [ev8]; exact nI_add h2_4 (li0 i4)
            refine lv_istore_n (lv' := [(2, .int (nI (h2_4 + (li0 i4)))), (3, .int (nI i4)), (0, .ref x0), (1, .int (nI im))]) hx hb dX0_limitsOn_39 rfl hl (by decide) rfl (fun ls hl => ?_)
            refine lv_iinc (v := (nI (i4 + 1))) (lv' := [(3, .int (nI (i4 + 1))), (2, .int (nI (h2_4 + (li0 i4)))), (0, .ref x0), (1, .int (nI im))]) hx hb dX0_limitsOn_40 hl (k := 1) rfl (nI_1 _) (by decide) rfl (fun ls hl => ?_)
            refine lv_goto (tgt := 4) hx hb dX0_limitsOn_43 (by decide) ?_
            have hb9 : bt (B4 i4) im = true := by rw [← r_at (A := B4) (by omega) ev3]; exact (r_nz him).mp hc6
            exact ih4 (i4 + 1) (h2_4 + (li0 i4)) (by omega) (r_on hs_4 (lf_on hb9)) (by omega) (by omega) _ _ _ hP hD hS (lv_sub hl [0, 1, 2, 3] rfl)
  exact J4 _ 0 0 (by omega) rfl (by omega) (Nat.lt_succ_self _) _ _ _ hP hD hS (lv_sub hl [0, 1, 2, 3] rfl)
set_option maxHeartbeats 4000000 in
set_option maxRecDepth 100000 in
theorem e_X7_returned (l : Launch) (D : va_G) (cI cJ : ClassId) (sz : Nat) (x x0 x1 x2 x3 x4 x5 b0 b1 b2 b3 b4 b5 b6 b7 b8 b9 b10 b11 np nl : Nat) (bi14 p0 p1 : Int32) (B0 B4 B7 B9 : Nat → Int32) (li0 : Nat → Nat) (hnp : np ≤ 8) (hnl : nl ≤ 10) (hliv : nv B0 li0) (hlib : ∀ k, k < 8 → li0 k ≤ 1000000) (hl1 : ∀ k, k < np → 1 ≤ li0 k) : Met l yX7_returned wtX7_returned { frames := 3, cells := 0, slots := 0, locals := 64 } (cPc D cI cJ [.ref x, .int p0, .int p1] sz [(oX7 x x0 x1 x2 x3 x4 x5), (oX0 x0 b0 b1 b2 b3 b4 b5 b6 b7 b8 b9 b10 b11 (nI np) (nI nl) bi14), (aIc cI b0 8 B0), (aIc cI b4 8 B4), (aIc cI b7 8 B7), (aIc cI b9 8 B9)]) (cQi D (fun r u => r = (A_re np li0 B4 B7 B9 p0 p1) ∧ u = [(oX7 x x0 x1 x2 x3 x4 x5), (oX0 x0 b0 b1 b2 b3 b4 b5 b6 b7 b8 b9 b10 b11 (nI np) (nI nl) bi14), (aIc cI b0 8 B0), (aIc cI b4 8 B4), (aIc cI b7 8 B7), (aIc cI b9 8 B9)]) (va_A [(oX7 x x0 x1 x2 x3 x4 x5), (oX0 x0 b0 b1 b2 b3 b4 b5 b6 b7 b8 b9 b10 b11 (nI np) (nI nl) bi14), (aIc cI b0 8 B0), (aIc cI b4 8 B4), (aIc cI b7 8 B7), (aIc cI b9 8 B9)] sz)) 0 0 (va_A [(oX7 x x0 x1 x2 x3 x4 x5), (oX0 x0 b0 b1 b2 b3 b4 b5 b6 b7 b8 b9 b10 b11 (nI np) (nI nl) bi14), (aIc cI b0 8 B0), (aIc cI b4 8 B4), (aIc cI b7 8 B7), (aIc cI b9 8 B9)] sz) := by
  refine k_ofW (Qc := cQi D (fun r u => r = (A_re np li0 B4 B7 B9 p0 p1) ∧ u = [(oX7 x x0 x1 x2 x3 x4 x5), (oX0 x0 b0 b1 b2 b3 b4 b5 b6 b7 b8 b9 b10 b11 (nI np) (nI nl) bi14), (aIc cI b0 8 B0), (aIc cI b4 8 B4), (aIc cI b7 8 B7), (aIc cI b9 8 B9)])) (by decide) rfl (Nat.le_of_ble_eq_true rfl) ?_
  intro p e s m below meth c A ls hx hb hr hml hts hown hlk hnm hsz hE hP hD hS hA hl
  have hown : s.vm.findClass RX7 = some m.cls := hown
  have hiX7 : ∀ w ∈ u_ws RX7 TX7 6, w ∈ wtX7_returned := fun w h => List.mem_cons_of_mem _ (iuX7 w h)
  have hiX0 : ∀ w ∈ u_ws RX0 TX0 15, w ∈ wtX7_returned := fun w h => List.mem_cons_of_mem _ (iuX0 w h)
  have hl : lv_has ls 7 [(0, .ref x), (1, .int p0), (2, .int p1)] := hl
  refine lv_aload_n hx hb dX7_returned_0 rfl (lv_at hl 0 rfl) ?_
  refine lv_iload_n hx hb dX7_returned_1 rfl (lv_at hl 1 rfl) ?_
  refine k_iS (va_runV (As := [.int p0]) (rest := []) ⟨hx, hb, hml, hown, hts⟩ (m_X7_isPolicyOrNone l D cI cJ (s.heap).size x x0 x1 x2 x3 x4 x5 b0 b1 b2 b3 b4 b5 b6 b7 b8 b9 b10 b11 (nI np) (nI nl) bi14 p0) (cwV 1 hts gX7_returned_X7_isPolicyOrNone rfl rfl rfl (by decide +kernel) ⟨Nat.le_of_ble_eq_true rfl, Nat.le_of_ble_eq_true rfl⟩) (k_preV hE hP hD [0, 1] (by decide +kernel) rfl 0 rfl rfl) rfl rfl hl.1 rfl (lv_room (Nat.le_of_ble_eq_true rfl)) dX7_returned_2 ⟨Nat.le_of_ble_eq_true rfl, Nat.le_of_ble_eq_true rfl⟩) hP hD hS hA [0, 1] rfl (fun _ _ h9 => h9.2) (fun r1 H locs hw2 hP hD hS => ?_)
  obtain ⟨hw2, -⟩ := hw2
  refine lv_if_eq (tgt := 27) hx hb dX7_returned_5 (by decide) (fun c3 => ?_) (fun c3 => ?_)
  · skip
    have hc3 : ¬ (p0 = (-1) ∨ (0 ≤ p0 ∧ p0 ≤ (nI np) - 1)) := bz_0 hw2 c3
    refine lv_iconst (v := (-1)) hx hb dX7_returned_27 (by decide) ?_
    refine k_iret (u := [(oX7 x x0 x1 x2 x3 x4 x5), (oX0 x0 b0 b1 b2 b3 b4 b5 b6 b7 b8 b9 b10 b11 (nI np) (nI nl) bi14), (aIc cI b0 8 B0), (aIc cI b4 8 B4), (aIc cI b7 8 B7), (aIc cI b9 8 B9)]) hx hb hr hlk hP hD hS dX7_returned_28 ?_
    exact ⟨(a_re_3 (fun z9 => hc3 (Or.inl z9)) (fun z9 => hc3 (Or.inr z9))), rfl⟩
  · skip
    have hc3 : p0 = (-1) ∨ (0 ≤ p0 ∧ p0 ≤ (nI np) - 1) := bz_1 hw2 c3
    refine lv_iload_n hx hb dX7_returned_8 rfl (lv_at hl 2 rfl) ?_
    refine k_iS (va_runS (As := [.int p1]) (rest := []) ⟨hx, hb, hml, hown, hts⟩ (m_X7_isItem l D cI cJ H.size p1) (va_cwS 1 hts gX7_returned_X7_isItem rfl rfl rfl (by decide +kernel) ⟨Nat.le_of_ble_eq_true rfl, Nat.le_of_ble_eq_true rfl⟩) (k_pre hE hP hD [] (by decide +kernel) rfl) rfl rfl hl.1 rfl (lv_room (Nat.le_of_ble_eq_true rfl)) dX7_returned_9 ⟨Nat.le_of_ble_eq_true rfl, Nat.le_of_ble_eq_true rfl⟩) hP hD hS hA [] rfl (fun _ _ h9 => h9.2) (fun r4 H locs hw5 hP hD hS => ?_)
    obtain ⟨hw5, -⟩ := hw5
    refine lv_if_eq (tgt := 27) hx hb dX7_returned_12 (by decide) (fun c6 => ?_) (fun c6 => ?_)
    · skip
      have hc6 : ¬ (0 ≤ p1 ∧ p1 ≤ 7) := bz_0 hw5 c6
      refine lv_iconst (v := (-1)) hx hb dX7_returned_27 (by decide) ?_
      refine k_iret (u := [(oX7 x x0 x1 x2 x3 x4 x5), (oX0 x0 b0 b1 b2 b3 b4 b5 b6 b7 b8 b9 b10 b11 (nI np) (nI nl) bi14), (aIc cI b0 8 B0), (aIc cI b4 8 B4), (aIc cI b7 8 B7), (aIc cI b9 8 B9)]) hx hb hr hlk hP hD hS dX7_returned_28 ?_
      exact ⟨(a_re_1 hc6), rfl⟩
    · skip
      have hc6 : 0 ≤ p1 ∧ p1 ≤ 7 := bz_1 hw5 c6
      obtain ⟨ij, hij, eij⟩ := wi_07 hc6
      rw [eij] at hl
      have hSb9 := sm_bound (f := (LF li0 li0 B4 ij)) (c := 1000000) (n := np) (fun k hk => lf_le (hlib k (by omega)))
      have hS8 : sm (LF li0 li0 B4 ij) np ≤ 8000000 := by omega
      refine lv_aload_n hx hb dX7_returned_15 rfl (lv_at hl 0 rfl) ?_
      refine va_get (D := D) (ci := 7) (v := .ref x0) (C := RX7) (T := TX7) (N := 6) hx hb hts hiX7 hown hE.1 hP 0 rfl rfl 0 (by decide) (hts _ (List.mem_cons_of_mem _ wd_19)) (fun _ h9 => h9) rfl dX7_returned_16 ?_
      refine va_get (D := D) (ci := 0) (v := .ref b9) (C := RX0) (T := TX0) (N := 15) hx hb hts hiX0 hown hE.1 hP 1 rfl rfl 9 (by decide) (hts _ (List.mem_cons_of_mem _ wd_234)) (fun _ h9 => h9) rfl dX7_returned_19 ?_
      refine lv_iload_n hx hb dX7_returned_22 rfl (lv_at hl 2 rfl) ?_
      refine va_iald hx hb hE.1 hP 5 0 rfl rfl (vp_in_nI (n := ij) (by omega) (by decide)) dX7_returned_23 ?_
      refine lv_topi (fun v7 ev7 => ?_)
      refine lv_if_ne (tgt := 29) hx hb dX7_returned_24 (by decide) (fun c8 => ?_) (fun c8 => ?_)
      · skip
        refine lv_aload_n hx hb dX7_returned_29 rfl (lv_at hl 0 rfl) ?_
        refine va_get (D := D) (ci := 7) (v := .ref x0) (C := RX7) (T := TX7) (N := 6) hx hb hts hiX7 hown hE.1 hP 0 rfl rfl 0 (by decide) (hts _ (List.mem_cons_of_mem _ wd_19)) (fun _ h9 => h9) rfl dX7_returned_30 ?_
        refine lv_iload_n hx hb dX7_returned_33 rfl (lv_at hl 2 rfl) ?_
        refine k_iS (va_runV (As := [.int (nI ij)]) (rest := []) ⟨hx, hb, hml, hown, hts⟩ (e_X0_limitsOn l D cI cJ H.size x0 b0 b1 b2 b3 b4 b5 b6 b7 b8 b9 b10 b11 ij np nl bi14 B0 B4 li0 hnp hnl (by omega) hliv hlib) (cwV 1 hts gX7_returned_X0_limitsOn rfl rfl rfl (by decide +kernel) ⟨Nat.le_of_ble_eq_true rfl, Nat.le_of_ble_eq_true rfl⟩) (k_preV hE hP hD [1, 2, 3] (by decide +kernel) rfl 1 rfl rfl) rfl rfl hl.1 rfl (lv_room (Nat.le_of_ble_eq_true rfl)) dX7_returned_34 ⟨Nat.le_of_ble_eq_true rfl, Nat.le_of_ble_eq_true rfl⟩) hP hD hS hA [1, 2, 3] rfl (fun _ _ ⟨_, h9⟩ => h9) (fun r9 H locs hw10 hP hD hS => ?_)
        obtain ⟨rfl, -⟩ := hw10
        refine lv_i2l hx hb dX7_returned_37 rfl ?_
        refine lv_topl (fun v11 ev11 => ?_)
        obtain rfl : v11 = lN (sm (LF li0 li0 B4 ij) np) := ev11.trans (nI_l (by omega))
        refine lv_lstore_n (lv' := [(3, .long (lN (sm (LF li0 li0 B4 ij) np))), (0, .ref x), (1, .int p0), (2, .int (nI ij))]) hx hb dX7_returned_38 rfl hl (by decide) rfl (fun ls hl => ?_)
        refine lv_lload_n hx hb dX7_returned_39 rfl (lv_at hl 0 rfl) ?_
        refine lv_aload_n hx hb dX7_returned_40 rfl (lv_at hl 1 rfl) ?_
        refine va_get (D := D) (ci := 7) (v := .ref x0) (C := RX7) (T := TX7) (N := 6) hx hb hts hiX7 hown hE.1 hP 0 rfl rfl 0 (by decide) (hts _ (List.mem_cons_of_mem _ wd_19)) (fun _ h9 => h9) rfl dX7_returned_41 ?_
        refine va_get (D := D) (ci := 0) (v := .ref b9) (C := RX0) (T := TX0) (N := 15) hx hb hts hiX0 hown hE.1 hP 1 rfl rfl 9 (by decide) (hts _ (List.mem_cons_of_mem _ wd_234)) (fun _ h9 => h9) rfl dX7_returned_44 ?_
        refine lv_iload_n hx hb dX7_returned_47 rfl (lv_at hl 3 rfl) ?_
        refine va_iald hx hb hE.1 hP 5 0 rfl rfl (vp_in_nI (n := ij) (by omega) (by decide)) dX7_returned_48 ?_
        refine lv_topi (fun v12 ev12 => ?_)
        refine lv_i2l hx hb dX7_returned_49 rfl ?_
        refine lv_lsub hx hb dX7_returned_50 ?_
        refine lv_topl (fun v13 ev13 => ?_)
        refine lv_lconst (v := 0) hx hb dX7_returned_51 (by decide) ?_
        refine va_mmax_long hx hb (by rw [hml]; exact hl.1.symm) hown (hts _ (List.mem_cons_of_mem _ wd_870)) (hts _ (List.mem_cons_of_mem _ wd_871)) (hts _ (List.mem_cons_of_mem _ wd_324)) (hts _ (List.mem_cons_of_mem _ wd_872)) (Nat.le_of_ble_eq_true rfl) (Nat.le_of_ble_eq_true rfl) (Nat.le_of_ble_eq_true rfl) (Nat.le_of_ble_eq_true rfl) dX7_returned_52 ?_
        refine lv_topl (fun v14 ev14 => ?_)
        refine lv_lstore (lv' := [(5, .long v14), (3, .long (lN (sm (LF li0 li0 B4 ij) np))), (0, .ref x), (1, .int p0), (2, .int (nI ij))]) hx hb dX7_returned_55 hl (by decide) rfl (fun ls hl => ?_)
        refine lv_iload_n hx hb dX7_returned_57 rfl (lv_at hl 3 rfl) ?_
        refine lv_iconst (v := (-1)) hx hb dX7_returned_58 (by decide) ?_
        refine lv_icmp_ne (tgt := 66) hx hb dX7_returned_59 (by decide) (fun c15 => ?_) (fun c15 => ?_)
        · skip
          obtain ⟨pj, hpj, epj⟩ := wi_n (by omega) (hc3.resolve_left c15)
          rw [epj] at hl
          refine lv_aload_n hx hb dX7_returned_66 rfl (lv_at hl 2 rfl) ?_
          refine va_get (D := D) (ci := 7) (v := .ref x0) (C := RX7) (T := TX7) (N := 6) hx hb hts hiX7 hown hE.1 hP 0 rfl rfl 0 (by decide) (hts _ (List.mem_cons_of_mem _ wd_19)) (fun _ h9 => h9) rfl dX7_returned_67 ?_
          refine va_get (D := D) (ci := 0) (v := .ref b4) (C := RX0) (T := TX0) (N := 15) hx hb hts hiX0 hown hE.1 hP 1 rfl rfl 4 (by decide) (hts _ (List.mem_cons_of_mem _ wd_163)) (fun _ h9 => h9) rfl dX7_returned_70 ?_
          refine lv_iload_n hx hb dX7_returned_73 rfl (lv_at hl 3 rfl) ?_
          refine va_iald hx hb hE.1 hP 3 0 rfl rfl (vp_in_nI (n := pj) (by omega) (by decide)) dX7_returned_74 ?_
          refine lv_topi (fun v16 ev16 => ?_)
          refine lv_iload_n hx hb dX7_returned_75 rfl (lv_at hl 4 rfl) ?_
          refine k_iS (va_runS (As := [.int v16, .int (nI ij)]) (rest := []) ⟨hx, hb, hml, hown, hts⟩ (m_X7_has l D cI cJ H.size v16 (nI ij)) (va_cwS 2 hts gX7_returned_X7_has rfl rfl rfl (by decide +kernel) ⟨Nat.le_of_ble_eq_true rfl, Nat.le_of_ble_eq_true rfl⟩) (k_pre hE hP hD [] (by decide +kernel) rfl) rfl rfl hl.1 rfl (lv_room (Nat.le_of_ble_eq_true rfl)) dX7_returned_76 ⟨Nat.le_of_ble_eq_true rfl, Nat.le_of_ble_eq_true rfl⟩) hP hD hS hA [] rfl (fun _ _ h9 => h9.2) (fun r17 H locs hw18 hP hD hS => ?_)
          obtain ⟨hw18, -⟩ := hw18
          refine lv_if_eq (tgt := 88) hx hb dX7_returned_79 (by decide) (fun c19 => ?_) (fun c19 => ?_)
          · skip
            have hc19 : ¬ (¬ (v16 >>> ((nI ij) &&& 31)) &&& 1 = 0) := bz_0 hw18 c19
            refine lv_iconst (v := (-1)) hx hb dX7_returned_88 (by decide) ?_
            refine k_iret (u := [(oX7 x x0 x1 x2 x3 x4 x5), (oX0 x0 b0 b1 b2 b3 b4 b5 b6 b7 b8 b9 b10 b11 (nI np) (nI nl) bi14), (aIc cI b0 8 B0), (aIc cI b4 8 B4), (aIc cI b7 8 B7), (aIc cI b9 8 B9)]) hx hb hr hlk hP hD hS dX7_returned_89 ?_
            exact ⟨(a_re_4 c15 epj eij (by omega) hij (fun q9 => hc19 ((r_nz (by omega)).mpr (by rw [r_at (A := B4) (by omega) ev16]; exact q9)))), rfl⟩
          · skip
            have hc19 : ¬ (v16 >>> ((nI ij) &&& 31)) &&& 1 = 0 := bz_1 hw18 c19
            refine lv_lload_n hx hb dX7_returned_82 rfl (lv_at hl 1 rfl) ?_
            refine lv_lconst (v := 0) hx hb dX7_returned_83 (by decide) ?_
            refine k_lcmp_ne (tgt := 90) hx hb dX7_returned_84 dX7_returned_85 (by decide) (fun c20 => ?_) (fun c20 => ?_)
            · skip
              refine lv_aload_n hx hb dX7_returned_90 rfl (lv_at hl 2 rfl) ?_
              refine va_get (D := D) (ci := 7) (v := .ref x0) (C := RX7) (T := TX7) (N := 6) hx hb hts hiX7 hown hE.1 hP 0 rfl rfl 0 (by decide) (hts _ (List.mem_cons_of_mem _ wd_19)) (fun _ h9 => h9) rfl dX7_returned_91 ?_
              refine va_get (D := D) (ci := 0) (v := .ref b7) (C := RX0) (T := TX0) (N := 15) hx hb hts hiX0 hown hE.1 hP 1 rfl rfl 7 (by decide) (hts _ (List.mem_cons_of_mem _ wd_235)) (fun _ h9 => h9) rfl dX7_returned_94 ?_
              refine lv_iload_n hx hb dX7_returned_97 rfl (lv_at hl 3 rfl) ?_
              refine va_iald hx hb hE.1 hP 4 0 rfl rfl (vp_in_nI (n := pj) (by omega) (by decide)) dX7_returned_98 ?_
              refine lv_topi (fun v21 ev21 => ?_)
              refine lv_i2l hx hb dX7_returned_99 rfl ?_
              refine lv_lload hx hb dX7_returned_100 (lv_at hl 0 rfl) ?_
              refine lv_lmul hx hb dX7_returned_102 ?_
              refine lv_topl (fun v22 ev22 => ?_)
              refine lv_lload_n hx hb dX7_returned_103 rfl (lv_at hl 1 rfl) ?_
              refine lv_ldiv hx hb dX7_returned_104 c20 ?_
              refine lv_topl (fun v23 ev23 => ?_)
              refine lv_l2i hx hb dX7_returned_105 rfl ?_
              refine lv_topi (fun v24 ev24 => ?_)
              refine k_iret (u := [(oX7 x x0 x1 x2 x3 x4 x5), (oX0 x0 b0 b1 b2 b3 b4 b5 b6 b7 b8 b9 b10 b11 (nI np) (nI nl) bi14), (aIc cI b0 8 B0), (aIc cI b4 8 B4), (aIc cI b7 8 B7), (aIc cI b9 8 B9)]) hx hb hr hlk hP hD hS dX7_returned_106 ?_
              exact ⟨(a_re_y hc6 eij hij ev7 c8 c15 (hc3.resolve_left c15) epj (by omega) (by rw [← r_at (A := B4) (by omega) ev16]; exact (r_nz (by omega)).mp hc19) (ov_c hS8 (congrArg Int32.toInt64 ev12) ev13 ev14) ev21 rfl ev22 ev23 ev24), rfl⟩
            · skip
              have hb9 : bt (B4 pj) ij = true := by rw [← r_at (A := B4) (by omega) ev16]; exact (r_nz (by omega)).mp hc19
              have hge := sm_get (LF li0 li0 B4 ij) (k := pj) (n := np) (by omega)
              rw [lf_on hb9] at hge
              have hl19 := hl1 pj (by omega)
              exact (lN_ne (S := sm (LF li0 li0 B4 ij) np) (by omega) (by omega) c20).elim
        · skip
          refine lv_lload hx hb dX7_returned_62 (lv_at hl 0 rfl) ?_
          refine lv_l2i hx hb dX7_returned_64 rfl ?_
          refine lv_topi (fun v25 ev25 => ?_)
          refine k_iret (u := [(oX7 x x0 x1 x2 x3 x4 x5), (oX0 x0 b0 b1 b2 b3 b4 b5 b6 b7 b8 b9 b10 b11 (nI np) (nI nl) bi14), (aIc cI b0 8 B0), (aIc cI b4 8 B4), (aIc cI b7 8 B7), (aIc cI b9 8 B9)]) hx hb hr hlk hP hD hS dX7_returned_65 ?_
          exact ⟨(a_re_o hc6 eij hij ev7 c8 c15 (ov_c hS8 (congrArg Int32.toInt64 ev12) ev13 ev14) ev25), rfl⟩
      · skip
        refine lv_iconst (v := (-1)) hx hb dX7_returned_27 (by decide) ?_
        refine k_iret (u := [(oX7 x x0 x1 x2 x3 x4 x5), (oX0 x0 b0 b1 b2 b3 b4 b5 b6 b7 b8 b9 b10 b11 (nI np) (nI nl) bi14), (aIc cI b0 8 B0), (aIc cI b4 8 B4), (aIc cI b7 8 B7), (aIc cI b9 8 B9)]) hx hb hr hlk hP hD hS dX7_returned_28 ?_
        exact ⟨(a_re_2 eij ev7 c8), rfl⟩

