set_option maxHeartbeats 4000000 in
set_option maxRecDepth 100000 in
theorem e_X0_amountsTogether (l : Launch) (D : va_G) (cI cJ : ClassId) (sz : Nat) (x0 b0 b1 b2 b3 b4 b5 b6 b7 b8 b9 b10 b11 np nl : Nat) (bi14 : Int32) (B11 : Nat → Int32) (lam0 : Nat → Nat) (hnp : np ≤ 8) (hnl : nl ≤ 10) (hax : ∀ k, k < 10 → B11 k = nI (lam0 k) ∧ lam0 k ≤ 1000000) : Met l yX0_amountsTogether wtX0_amountsTogether { frames := 0, cells := 0, slots := 0, locals := 0 } (cPc D cI cJ [.ref x0] sz [(oX0 x0 b0 b1 b2 b3 b4 b5 b6 b7 b8 b9 b10 b11 (nI np) (nI nl) bi14), (aIc cI b11 10 B11)]) (cQi D (fun r u => r = (nI (sm lam0 nl)) ∧ u = [(oX0 x0 b0 b1 b2 b3 b4 b5 b6 b7 b8 b9 b10 b11 (nI np) (nI nl) bi14), (aIc cI b11 10 B11)]) (va_A [(oX0 x0 b0 b1 b2 b3 b4 b5 b6 b7 b8 b9 b10 b11 (nI np) (nI nl) bi14), (aIc cI b11 10 B11)] sz)) 0 0 (va_A [(oX0 x0 b0 b1 b2 b3 b4 b5 b6 b7 b8 b9 b10 b11 (nI np) (nI nl) bi14), (aIc cI b11 10 B11)] sz) := by
  refine k_ofW (Qc := cQi D (fun r u => r = (nI (sm lam0 nl)) ∧ u = [(oX0 x0 b0 b1 b2 b3 b4 b5 b6 b7 b8 b9 b10 b11 (nI np) (nI nl) bi14), (aIc cI b11 10 B11)])) (by decide) rfl (Nat.le_of_ble_eq_true rfl) ?_
  intro p e s m below meth c A ls hx hb hr hml hts hown hlk hnm hsz hE hP hD hS hA hl
  have hown : s.vm.findClass RX0 = some m.cls := hown
  have hiX0 : ∀ w ∈ u_ws RX0 TX0 15, w ∈ wtX0_amountsTogether := fun w h => List.mem_cons_of_mem _ (iuX0 w h)
  have hl : lv_has ls 3 [(0, .ref x0)] := hl
  refine lv_iconst (v := 0) hx hb dX0_amountsTogether_0 (by decide) ?_
  refine lv_istore_n (lv' := [(1, .int 0), (0, .ref x0)]) hx hb dX0_amountsTogether_1 rfl hl (by decide) rfl (fun ls hl => ?_)
  refine lv_iconst (v := 0) hx hb dX0_amountsTogether_2 (by decide) ?_
  refine lv_istore_n (lv' := [(2, .int 0), (1, .int 0), (0, .ref x0)]) hx hb dX0_amountsTogether_3 rfl hl (by decide) rfl (fun ls hl => ?_)
  have J4 : ∀ (zz : Nat) (i4 h1_4 : Nat), (i4 ≤ 10) → (h1_4 = sm lam0 i4) → (i4 ≤ nl) → (10 - i4) < zz → ∀ (H : Heap) (locs : List Loc) (ls : Array Slot), va_P D vwCl [(oX0 x0 b0 b1 b2 b3 b4 b5 b6 b7 b8 b9 b10 b11 (nI np) (nI nl) bi14), (aIc cI b11 10 B11)] H → va_D A [(oX0 x0 b0 b1 b2 b3 b4 b5 b6 b7 b8 b9 b10 b11 (nI np) (nI nl) bi14), (aIc cI b11 10 B11)] → va_S A s.heap H locs → lv_has ls 3 [(2, .int (nI i4)), (1, .int (nI h1_4)), (0, .ref x0)] → W p l e { frames := 0, cells := 0, slots := 0, locals := 0 } s m [.ref x0].toArray below meth c H locs 0 0 (MQ below (cQi D (fun r u => r = (nI (sm lam0 nl)) ∧ u = [(oX0 x0 b0 b1 b2 b3 b4 b5 b6 b7 b8 b9 b10 b11 (nI np) (nI nl) bi14), (aIc cI b11 10 B11)]) A) [.ref x0].toArray s 0 0 A) (F0 m 4 ls []) := by
    intro zz
    induction zz with
    | zero => intro i4 h1_4 _ _ _; exact fun h => absurd h (Nat.not_lt_zero _)
    | succ zz ih4 =>
      intro i4 h1_4 hc2_4 hs_4 hil_4 hmu4 H locs ls hP hD hS hl
      refine lv_iload_n hx hb dX0_amountsTogether_4 rfl (lv_at hl 0 rfl) ?_
      refine lv_aload_n hx hb dX0_amountsTogether_5 rfl (lv_at hl 2 rfl) ?_
      refine va_get (D := D) (ci := 0) (v := .int (nI nl)) (C := RX0) (T := TX0) (N := 15) hx hb hts hiX0 hown hE.1 hP 0 rfl rfl 13 (by decide) (hts _ (List.mem_cons_of_mem _ wd_398)) (fun _ h9 => h9) rfl dX0_amountsTogether_6 ?_
      refine lv_icmp_ge (tgt := 33) hx hb dX0_amountsTogether_9 (by decide) (fun c1 => ?_) (fun c1 => ?_)
      · skip
        have nc1 : nl ≤ i4 := (nI_leI (a := nl) (b := i4) (by omega) (by omega)).mp c1
        refine lv_iload_n hx hb dX0_amountsTogether_33 rfl (lv_at hl 1 rfl) ?_
        refine k_iret (u := [(oX0 x0 b0 b1 b2 b3 b4 b5 b6 b7 b8 b9 b10 b11 (nI np) (nI nl) bi14), (aIc cI b11 10 B11)]) hx hb hr hlk hP hD hS dX0_amountsTogether_34 ?_
        exact ⟨(congrArg nI (by obtain rfl : i4 = nl := (by omega); exact hs_4)), rfl⟩
      · skip
        have nc1 : ¬ nl ≤ i4 := fun q9 => c1 ((nI_leI (a := nl) (b := i4) (by omega) (by omega)).mpr q9)
        refine lv_iload_n hx hb dX0_amountsTogether_12 rfl (lv_at hl 0 rfl) ?_
        refine lv_bipush (v := 10) hx hb dX0_amountsTogether_13 (by decide) ?_
        refine lv_icmp_ge (tgt := 33) hx hb dX0_amountsTogether_15 (by decide) (fun c2 => ?_) (fun c2 => ?_)
        · skip
          have nc2 : 10 ≤ i4 := (nI_leI (a := 10) (b := i4) (by omega) (by omega)).mp c2
          refine lv_iload_n hx hb dX0_amountsTogether_33 rfl (lv_at hl 1 rfl) ?_
          refine k_iret (u := [(oX0 x0 b0 b1 b2 b3 b4 b5 b6 b7 b8 b9 b10 b11 (nI np) (nI nl) bi14), (aIc cI b11 10 B11)]) hx hb hr hlk hP hD hS dX0_amountsTogether_34 ?_
          exact ⟨(congrArg nI (by obtain rfl : i4 = nl := (by omega); exact hs_4)), rfl⟩
        · skip
          have nc2 : ¬ 10 ≤ i4 := fun q9 => c2 ((nI_leI (a := 10) (b := i4) (by omega) (by omega)).mpr q9)
          refine lv_iload_n hx hb dX0_amountsTogether_18 rfl (lv_at hl 1 rfl) ?_
          refine lv_aload_n hx hb dX0_amountsTogether_19 rfl (lv_at hl 2 rfl) ?_
          refine va_get (D := D) (ci := 0) (v := .ref b11) (C := RX0) (T := TX0) (N := 15) hx hb hts hiX0 hown hE.1 hP 0 rfl rfl 11 (by decide) (hts _ (List.mem_cons_of_mem _ wd_71)) (fun _ h9 => h9) rfl dX0_amountsTogether_20 ?_
          refine lv_iload_n hx hb dX0_amountsTogether_23 rfl (lv_at hl 0 rfl) ?_
          refine va_iald hx hb hE.1 hP 1 0 rfl rfl (vp_in_nI (n := i4) (by omega) (by decide)) dX0_amountsTogether_24 ?_
          refine lv_topi (fun v3 ev3 => ?_)
          obtain ⟨eax9, hax9⟩ := hax i4 (by omega)
          obtain rfl : v3 = nI (lam0 i4) := ev3.trans (by rw [nI_clamp (by omega)]; exact eax9)
          refine lv_iadd hx hb dX0_amountsTogether_25 ?_
          refine lv_topi (fun v4 ev4 => ?_)
          obtain rfl : v4 = (nI (h1_4 + (lam0 i4))) := by rw [ev4]; exact nI_add h1_4 (lam0 i4)
          refine lv_istore_n (lv' := [(1, .int (nI (h1_4 + (lam0 i4)))), (2, .int (nI i4)), (0, .ref x0)]) hx hb dX0_amountsTogether_26 rfl hl (by decide) rfl (fun ls hl => ?_)
          refine lv_iinc (v := (nI (i4 + 1))) (lv' := [(2, .int (nI (i4 + 1))), (1, .int (nI (h1_4 + (lam0 i4)))), (0, .ref x0)]) hx hb dX0_amountsTogether_27 hl (k := 1) rfl (nI_1 _) (by decide) rfl (fun ls hl => ?_)
          refine lv_goto (tgt := 4) hx hb dX0_amountsTogether_30 (by decide) ?_
          exact ih4 (i4 + 1) (h1_4 + (lam0 i4)) (by omega) (sm_at hs_4 rfl) (by omega) (by omega) _ _ _ hP hD hS (lv_sub hl [0, 1, 2] rfl)
  exact J4 _ 0 0 (by omega) rfl (by omega) (Nat.lt_succ_self _) _ _ _ hP hD hS (lv_sub hl [0, 1, 2] rfl)
set_option maxHeartbeats 4000000 in
set_option maxRecDepth 100000 in
theorem e_X4_usedUp (l : Launch) (D : va_G) (cI cJ : ClassId) (sz : Nat) (x1 x0 s1 s2 s5 s6 s7 s8 s9 s10 s11 pn tt0 at0 : Nat) (si4 : Int32) (S5 : Nat → Int32) (lf0 : Nat → Nat) (hlfv : nv S5 lf0) (hlfb : ∀ k, k < 8 → lf0 k ≤ 9000000) : Met l yX4_usedUp wtX4_usedUp { frames := 1, cells := 0, slots := 0, locals := 21 } (cPc D cI cJ [.ref x1] sz [(oX4 x1 x0 s1 s2 (nI pn) si4 s5 s6 s7 s8 s9 s10 s11 (nI tt0) (nI at0)), (aIc cI s5 8 S5)]) (cQi D (fun r u => r = (ORS (fun p => bt (nI pn) p && decide (lf0 p = 0)) 8) ∧ u = [(oX4 x1 x0 s1 s2 (nI pn) si4 s5 s6 s7 s8 s9 s10 s11 (nI tt0) (nI at0)), (aIc cI s5 8 S5)]) (va_A [(oX4 x1 x0 s1 s2 (nI pn) si4 s5 s6 s7 s8 s9 s10 s11 (nI tt0) (nI at0)), (aIc cI s5 8 S5)] sz)) 0 0 (va_A [(oX4 x1 x0 s1 s2 (nI pn) si4 s5 s6 s7 s8 s9 s10 s11 (nI tt0) (nI at0)), (aIc cI s5 8 S5)] sz) := by
  refine k_ofW (Qc := cQi D (fun r u => r = (ORS (fun p => bt (nI pn) p && decide (lf0 p = 0)) 8) ∧ u = [(oX4 x1 x0 s1 s2 (nI pn) si4 s5 s6 s7 s8 s9 s10 s11 (nI tt0) (nI at0)), (aIc cI s5 8 S5)])) (by decide) rfl (Nat.le_of_ble_eq_true rfl) ?_
  intro p e s m below meth c A ls hx hb hr hml hts hown hlk hnm hsz hE hP hD hS hA hl
  have hown : s.vm.findClass RX4 = some m.cls := hown
  have hiX4 : ∀ w ∈ u_ws RX4 TX4 14, w ∈ wtX4_usedUp := fun w h => List.mem_cons_of_mem _ (iuX4 w h)
  have hl : lv_has ls 3 [(0, .ref x1)] := hl
  refine lv_iconst (v := 0) hx hb dX4_usedUp_0 (by decide) ?_
  refine lv_istore_n (lv' := [(1, .int 0), (0, .ref x1)]) hx hb dX4_usedUp_1 rfl hl (by decide) rfl (fun ls hl => ?_)
  refine lv_iconst (v := 0) hx hb dX4_usedUp_2 (by decide) ?_
  refine lv_istore_n (lv' := [(2, .int 0), (1, .int 0), (0, .ref x1)]) hx hb dX4_usedUp_3 rfl hl (by decide) rfl (fun ls hl => ?_)
  have J4 : ∀ (zz : Nat) (i4 : Nat) (h1_4 : Int32), (i4 ≤ 8) → (h1_4 = ORS (fun p => bt (nI pn) p && decide (lf0 p = 0)) i4) → (8 - i4) < zz → ∀ (H : Heap) (locs : List Loc) (ls : Array Slot), va_P D vwCl [(oX4 x1 x0 s1 s2 (nI pn) si4 s5 s6 s7 s8 s9 s10 s11 (nI tt0) (nI at0)), (aIc cI s5 8 S5)] H → va_D A [(oX4 x1 x0 s1 s2 (nI pn) si4 s5 s6 s7 s8 s9 s10 s11 (nI tt0) (nI at0)), (aIc cI s5 8 S5)] → va_S A s.heap H locs → lv_has ls 3 [(2, .int (nI i4)), (1, .int h1_4), (0, .ref x1)] → W p l e { frames := 1, cells := 0, slots := 0, locals := 21 } s m [.ref x1].toArray below meth c H locs 0 0 (MQ below (cQi D (fun r u => r = (ORS (fun p => bt (nI pn) p && decide (lf0 p = 0)) 8) ∧ u = [(oX4 x1 x0 s1 s2 (nI pn) si4 s5 s6 s7 s8 s9 s10 s11 (nI tt0) (nI at0)), (aIc cI s5 8 S5)]) A) [.ref x1].toArray s 0 0 A) (F0 m 4 ls []) := by
    intro zz
    induction zz with
    | zero => intro i4 h1_4 _ _; exact fun h => absurd h (Nat.not_lt_zero _)
    | succ zz ih4 =>
      intro i4 h1_4 hc2_4 hin_4 hmu4 H locs ls hP hD hS hl
      refine lv_iload_n hx hb dX4_usedUp_4 rfl (lv_at hl 0 rfl) ?_
      refine lv_bipush (v := 8) hx hb dX4_usedUp_5 (by decide) ?_
      refine lv_icmp_ge (tgt := 42) hx hb dX4_usedUp_7 (by decide) (fun c1 => ?_) (fun c1 => ?_)
      · skip
        have nc1 : 8 ≤ i4 := (nI_leI (a := 8) (b := i4) (by omega) (by omega)).mp c1
        refine lv_iload_n hx hb dX4_usedUp_42 rfl (lv_at hl 1 rfl) ?_
        refine k_iret (u := [(oX4 x1 x0 s1 s2 (nI pn) si4 s5 s6 s7 s8 s9 s10 s11 (nI tt0) (nI at0)), (aIc cI s5 8 S5)]) hx hb hr hlk hP hD hS dX4_usedUp_43 ?_
        exact ⟨(by obtain rfl : i4 = 8 := (by omega); exact hin_4), rfl⟩
      · skip
        have nc1 : ¬ 8 ≤ i4 := fun q9 => c1 ((nI_leI (a := 8) (b := i4) (by omega) (by omega)).mpr q9)
        refine lv_aload_n hx hb dX4_usedUp_10 rfl (lv_at hl 2 rfl) ?_
        refine va_get (D := D) (ci := 4) (v := .int (nI pn)) (C := RX4) (T := TX4) (N := 14) hx hb hts hiX4 hown hE.1 hP 0 rfl rfl 3 (by decide) (hts _ (List.mem_cons_of_mem _ wd_283)) (fun _ h9 => h9) rfl dX4_usedUp_11 ?_
        refine lv_iload_n hx hb dX4_usedUp_14 rfl (lv_at hl 0 rfl) ?_
        refine k_iS (va_runSN (As := [.int (nI pn), .int (nI i4)]) (rest := []) ⟨hx, hb, hml, hown, hts⟩ (m_X7_has l D cI cJ H.size (nI pn) (nI i4)) ⟨va_cnB 2 hts gX4_usedUp_X7_has_n113 rfl rfl rfl (nwk5 hE.2) (hts _ (List.mem_cons_of_mem _ wd_2)) (by decide +kernel) ⟨Nat.le_of_ble_eq_true rfl, Nat.le_of_ble_eq_true rfl⟩, (hts _ (List.mem_cons_of_mem _ wd_311)), trivial⟩ (k_pre hE hP hD [] (by decide +kernel) rfl) rfl rfl hl.1 rfl (lv_room (Nat.le_of_ble_eq_true rfl)) dX4_usedUp_15 ⟨Nat.le_of_ble_eq_true rfl, Nat.le_of_ble_eq_true rfl⟩) hP hD hS hA [] rfl (fun _ _ h9 => h9.2) (fun r2 H locs hw3 hP hD hS => ?_)
        obtain ⟨hw3, -⟩ := hw3
        refine lv_if_eq (tgt := 36) hx hb dX4_usedUp_18 (by decide) (fun c4 => ?_) (fun c4 => ?_)
        · skip
          have hc4 : ¬ (¬ ((nI pn) >>> ((nI i4) &&& 31)) &&& 1 = 0) := bz_0 hw3 c4
          refine lv_iinc (v := (nI (i4 + 1))) (lv' := [(2, .int (nI (i4 + 1))), (1, .int h1_4), (0, .ref x1)]) hx hb dX4_usedUp_36 hl (k := 0) rfl (nI_1 _) (by decide) rfl (fun ls hl => ?_)
          refine lv_goto (tgt := 4) hx hb dX4_usedUp_39 (by decide) ?_
          have hb9 : ¬ bt (nI pn) i4 = true := fun q9 => hc4 ((bt_nz (by omega)).mpr q9)
          exact ih4 (i4 + 1) h1_4 (by omega) (ors_k (pu_1 hb9) hin_4) (by omega) _ _ _ hP hD hS (lv_sub hl [0, 1, 2] rfl)
        · skip
          have hc4 : ¬ ((nI pn) >>> ((nI i4) &&& 31)) &&& 1 = 0 := bz_1 hw3 c4
          refine lv_aload_n hx hb dX4_usedUp_21 rfl (lv_at hl 2 rfl) ?_
          refine va_get (D := D) (ci := 4) (v := .ref s5) (C := RX4) (T := TX4) (N := 14) hx hb hts hiX4 hown hE.1 hP 0 rfl rfl 5 (by decide) (hts _ (List.mem_cons_of_mem _ wd_49)) (fun _ h9 => h9) rfl dX4_usedUp_22 ?_
          refine lv_iload_n hx hb dX4_usedUp_25 rfl (lv_at hl 0 rfl) ?_
          refine va_iald hx hb hE.1 hP 1 0 rfl rfl (vp_in_nI (n := i4) (by omega) (by decide)) dX4_usedUp_26 ?_
          refine lv_topi (fun v5 ev5 => ?_)
          have hlfb_ := hlfb i4 (by omega)
          obtain rfl : v5 = nI (lf0 i4) := ev5.trans (nv_at hlfv (by omega))
          refine lv_if_ne (tgt := 36) hx hb dX4_usedUp_27 (by decide) (fun c6 => ?_) (fun c6 => ?_)
          · skip
            have nc6 : ¬ lf0 i4 = 0 := fun q9 => c6 ((nI_eq (a := (lf0 i4)) (b := 0) (by omega) (by omega)).mpr q9)
            refine lv_iinc (v := (nI (i4 + 1))) (lv' := [(2, .int (nI (i4 + 1))), (1, .int h1_4), (0, .ref x1)]) hx hb dX4_usedUp_36 hl (k := 0) rfl (nI_1 _) (by decide) rfl (fun ls hl => ?_)
            refine lv_goto (tgt := 4) hx hb dX4_usedUp_39 (by decide) ?_
            have hb9 : bt (nI pn) i4 = true := (bt_nz (by omega)).mp hc4
            exact ih4 (i4 + 1) h1_4 (by omega) (ors_k (pu_2 nc6) hin_4) (by omega) _ _ _ hP hD hS (lv_sub hl [0, 1, 2] rfl)
          · skip
            have nc6 : lf0 i4 = 0 := (nI_eq (a := (lf0 i4)) (b := 0) (by omega) (by omega)).mp c6
            refine lv_iload_n hx hb dX4_usedUp_30 rfl (lv_at hl 1 rfl) ?_
            refine lv_iconst (v := 1) hx hb dX4_usedUp_31 (by decide) ?_
            refine lv_iload_n hx hb dX4_usedUp_32 rfl (lv_at hl 0 rfl) ?_
            refine lv_ishl hx hb dX4_usedUp_33 ?_
            refine lv_topi (fun v7 ev7 => ?_)
            refine lv_ior hx hb dX4_usedUp_34 ?_
            refine lv_topi (fun v8 ev8 => ?_)
            refine lv_istore_n (lv' := [(1, .int v8), (2, .int (nI i4)), (0, .ref x1)]) hx hb dX4_usedUp_35 rfl hl (by decide) rfl (fun ls hl => ?_)
            refine lv_iinc (v := (nI (i4 + 1))) (lv' := [(2, .int (nI (i4 + 1))), (1, .int v8), (0, .ref x1)]) hx hb dX4_usedUp_36 hl (k := 1) rfl (nI_1 _) (by decide) rfl (fun ls hl => ?_)
            refine lv_goto (tgt := 4) hx hb dX4_usedUp_39 (by decide) ?_
            have hb9 : bt (nI pn) i4 = true := (bt_nz (by omega)).mp hc4
            exact ih4 (i4 + 1) v8 (by omega) (ors_y (pu_y hb9 nc6) hin_4 ev7 ev8) (by omega) _ _ _ hP hD hS (lv_sub hl [0, 1, 2] rfl)
  exact J4 _ 0 0 (by omega) rfl (Nat.lt_succ_self _) _ _ _ hP hD hS (lv_sub hl [0, 1, 2] rfl)
set_option maxHeartbeats 4000000 in
set_option maxRecDepth 100000 in
theorem e_X7_count (l : Launch) (D : va_G) (cI cJ : ClassId) (sz : Nat) (x x0 x1 x2 x3 x4 x5 s1 s2 s5 s6 s7 s8 s9 s10 s11 b0 b1 b2 b3 b4 b5 b6 b7 b8 b9 b10 b11 w0 w1 w2 w3 w4 w8 d0 d1 d2 wn lv np nl pn tt0 at0 : Nat) (si4 bi14 wi6 p0 : Int32) (B0 B1 B2 B3 B4 B6 B8 B10 B11 S5 S6 S7 S8 S9 S10 S11 W0 W1 W2 W3 W4 W8 D0 D1 : Nat → Int32) (D2 : Nat → Int64) (B5 : Nat → Int32) (li0 wo0 de0 su0 ag0 lim0 lam0 : Nat → Nat) (hnp : np ≤ 8) (hnl : nl ≤ 10) (hwn : wn < 256) (hlv : lv ≤ 8) (hliv : nv B0 li0) (hlib : ∀ k, k < 8 → li0 k ≤ 1000000) (hwov : nv B3 wo0) (hwob : ∀ k, k < 8 → wo0 k ≤ 9000000) (hdev : nv B2 de0) (hdeb : ∀ k, k < 8 → de0 k ≤ 99999) (hsb : SUB B8 su0) (hix : ∀ k, k < 10 → B10 k = nI (lim0 k) ∧ lim0 k < 8) (hax : ∀ k, k < 10 → B11 k = nI (lam0 k) ∧ lam0 k ≤ 1000000) (hagv : nv B1 ag0) (hagb : ∀ k, k < 8 → ag0 k ≤ 9000000) (hto : ∀ k, k < 8 → isw8 (B6 k)) (hpn : pn < 256) : Met l yX7_count wtX7_count { frames := 6, cells := 0, slots := 0, locals := 145 } (cPc D cI cJ [.ref x, .int p0] sz [(oX7 x x0 x1 x2 x3 x4 x5), (oX4 x1 x0 s1 s2 (nI pn) si4 s5 s6 s7 s8 s9 s10 s11 (nI tt0) (nI at0)), (oX0 x0 b0 b1 b2 b3 b4 b5 b6 b7 b8 b9 b10 b11 (nI np) (nI nl) bi14), (oX6 s1 w0 w1 w2 w3 w4 (nI wn) wi6 (nI lv) w8), (oX2 s2 d0 d1 d2), (aIc cI b0 8 B0), (aIc cI b1 8 B1), (aIc cI b2 8 B2), (aIc cI b3 8 B3), (aIc cI b4 8 B4), (aIc cI b6 8 B6), (aIc cI b8 64 B8), (aIc cI b10 10 B10), (aIc cI b11 10 B11), (aIc cI s5 8 S5), (aIc cI s6 8 S6), (aIc cI s7 8 S7), (aIc cI s8 8 S8), (aIc cI s9 8 S9), (aIc cI s10 8 S10), (aIc cI s11 8 S11), (aIc cI w0 8 W0), (aIc cI w1 8 W1), (aIc cI w2 8 W2), (aIc cI w3 8 W3), (aIc cI w4 8 W4), (aIc cI w8 8 W8), (aIc cI d0 8 D0), (aIc cI d1 8 D1), (aJc cJ d2 8 D2), (aIc cI b5 8 B5)]) (cQi D (fun r u => ∃ (S5p S6p S7p S8p S9p S10p S11p W1p W2p W3p W4p W8p D0p D1p : Nat → Int32) (D2p : Nat → Int64) (ttp atp : Nat) (wi6p : Int32) (lvp wnp : Nat) (W0p : Nat → Int32) (si4p : Int32) (pnp : Nat), (lvp ≤ 8) ∧ (wnp < 256) ∧ (pnp < 256) ∧ r = (A_cn np nl li0 wo0 de0 su0 B4 B5 B6 bi14 ag0 lim0 lam0 p0) ∧ u = [(oX7 x x0 x1 x2 x3 x4 x5), (oX4 x1 x0 s1 s2 (nI pnp) si4p s5 s6 s7 s8 s9 s10 s11 (nI ttp) (nI atp)), (oX0 x0 b0 b1 b2 b3 b4 b5 b6 b7 b8 b9 b10 b11 (nI np) (nI nl) bi14), (oX6 s1 w0 w1 w2 w3 w4 (nI wnp) wi6p (nI lvp) w8), (oX2 s2 d0 d1 d2), (aIc cI b0 8 B0), (aIc cI b1 8 B1), (aIc cI b2 8 B2), (aIc cI b3 8 B3), (aIc cI b4 8 B4), (aIc cI b6 8 B6), (aIc cI b8 64 B8), (aIc cI b10 10 B10), (aIc cI b11 10 B11), (aIc cI s5 8 S5p), (aIc cI s6 8 S6p), (aIc cI s7 8 S7p), (aIc cI s8 8 S8p), (aIc cI s9 8 S9p), (aIc cI s10 8 S10p), (aIc cI s11 8 S11p), (aIc cI w0 8 W0p), (aIc cI w1 8 W1p), (aIc cI w2 8 W2p), (aIc cI w3 8 W3p), (aIc cI w4 8 W4p), (aIc cI w8 8 W8p), (aIc cI d0 8 D0p), (aIc cI d1 8 D1p), (aJc cJ d2 8 D2p), (aIc cI b5 8 B5)]) (va_A [(oX7 x x0 x1 x2 x3 x4 x5), (oX4 x1 x0 s1 s2 (nI pn) si4 s5 s6 s7 s8 s9 s10 s11 (nI tt0) (nI at0)), (oX0 x0 b0 b1 b2 b3 b4 b5 b6 b7 b8 b9 b10 b11 (nI np) (nI nl) bi14), (oX6 s1 w0 w1 w2 w3 w4 (nI wn) wi6 (nI lv) w8), (oX2 s2 d0 d1 d2), (aIc cI b0 8 B0), (aIc cI b1 8 B1), (aIc cI b2 8 B2), (aIc cI b3 8 B3), (aIc cI b4 8 B4), (aIc cI b6 8 B6), (aIc cI b8 64 B8), (aIc cI b10 10 B10), (aIc cI b11 10 B11), (aIc cI s5 8 S5), (aIc cI s6 8 S6), (aIc cI s7 8 S7), (aIc cI s8 8 S8), (aIc cI s9 8 S9), (aIc cI s10 8 S10), (aIc cI s11 8 S11), (aIc cI w0 8 W0), (aIc cI w1 8 W1), (aIc cI w2 8 W2), (aIc cI w3 8 W3), (aIc cI w4 8 W4), (aIc cI w8 8 W8), (aIc cI d0 8 D0), (aIc cI d1 8 D1), (aJc cJ d2 8 D2), (aIc cI b5 8 B5)] sz)) 0 0 (va_A [(oX7 x x0 x1 x2 x3 x4 x5), (oX4 x1 x0 s1 s2 (nI pn) si4 s5 s6 s7 s8 s9 s10 s11 (nI tt0) (nI at0)), (oX0 x0 b0 b1 b2 b3 b4 b5 b6 b7 b8 b9 b10 b11 (nI np) (nI nl) bi14), (oX6 s1 w0 w1 w2 w3 w4 (nI wn) wi6 (nI lv) w8), (oX2 s2 d0 d1 d2), (aIc cI b0 8 B0), (aIc cI b1 8 B1), (aIc cI b2 8 B2), (aIc cI b3 8 B3), (aIc cI b4 8 B4), (aIc cI b6 8 B6), (aIc cI b8 64 B8), (aIc cI b10 10 B10), (aIc cI b11 10 B11), (aIc cI s5 8 S5), (aIc cI s6 8 S6), (aIc cI s7 8 S7), (aIc cI s8 8 S8), (aIc cI s9 8 S9), (aIc cI s10 8 S10), (aIc cI s11 8 S11), (aIc cI w0 8 W0), (aIc cI w1 8 W1), (aIc cI w2 8 W2), (aIc cI w3 8 W3), (aIc cI w4 8 W4), (aIc cI w8 8 W8), (aIc cI d0 8 D0), (aIc cI d1 8 D1), (aJc cJ d2 8 D2), (aIc cI b5 8 B5)] sz) := by
  refine k_ofW (Qc := cQi D (fun r u => ∃ (S5p S6p S7p S8p S9p S10p S11p W1p W2p W3p W4p W8p D0p D1p : Nat → Int32) (D2p : Nat → Int64) (ttp atp : Nat) (wi6p : Int32) (lvp wnp : Nat) (W0p : Nat → Int32) (si4p : Int32) (pnp : Nat), (lvp ≤ 8) ∧ (wnp < 256) ∧ (pnp < 256) ∧ r = (A_cn np nl li0 wo0 de0 su0 B4 B5 B6 bi14 ag0 lim0 lam0 p0) ∧ u = [(oX7 x x0 x1 x2 x3 x4 x5), (oX4 x1 x0 s1 s2 (nI pnp) si4p s5 s6 s7 s8 s9 s10 s11 (nI ttp) (nI atp)), (oX0 x0 b0 b1 b2 b3 b4 b5 b6 b7 b8 b9 b10 b11 (nI np) (nI nl) bi14), (oX6 s1 w0 w1 w2 w3 w4 (nI wnp) wi6p (nI lvp) w8), (oX2 s2 d0 d1 d2), (aIc cI b0 8 B0), (aIc cI b1 8 B1), (aIc cI b2 8 B2), (aIc cI b3 8 B3), (aIc cI b4 8 B4), (aIc cI b6 8 B6), (aIc cI b8 64 B8), (aIc cI b10 10 B10), (aIc cI b11 10 B11), (aIc cI s5 8 S5p), (aIc cI s6 8 S6p), (aIc cI s7 8 S7p), (aIc cI s8 8 S8p), (aIc cI s9 8 S9p), (aIc cI s10 8 S10p), (aIc cI s11 8 S11p), (aIc cI w0 8 W0p), (aIc cI w1 8 W1p), (aIc cI w2 8 W2p), (aIc cI w3 8 W3p), (aIc cI w4 8 W4p), (aIc cI w8 8 W8p), (aIc cI d0 8 D0p), (aIc cI d1 8 D1p), (aJc cJ d2 8 D2p), (aIc cI b5 8 B5)])) (by decide) rfl (Nat.le_of_ble_eq_true rfl) ?_
  intro p e s m below meth c A ls hx hb hr hml hts hown hlk hnm hsz hE hP hD hS hA hl
  have hown : s.vm.findClass RX7 = some m.cls := hown
  have hiX7 : ∀ w ∈ u_ws RX7 TX7 6, w ∈ wtX7_count := fun w h => List.mem_cons_of_mem _ (iuX7 w h)
  have hiX0 : ∀ w ∈ u_ws RX0 TX0 15, w ∈ wtX7_count := fun w h => List.mem_cons_of_mem _ (iuX0 w h)
  have hiX4 : ∀ w ∈ u_ws RX4 TX4 14, w ∈ wtX7_count := fun w h => List.mem_cons_of_mem _ (iuX4 w h)
  have hl : lv_has ls 2 [(0, .ref x), (1, .int p0)] := hl
  refine lv_iload_n hx hb dX7_count_0 rfl (lv_at hl 1 rfl) ?_
  by_cases c1 : p0 = 0
  · skip
    refine lv_tableIn (tgt := 40) hx hb dX7_count_1 (by rw [c1]; decide) (by rw [c1]; decide) (off := 39) (by rw [c1]; rfl) (by decide) ?_
    refine lv_aload_n hx hb dX7_count_40 rfl (lv_at hl 0 rfl) ?_
    refine va_get (D := D) (ci := 7) (v := .ref x0) (C := RX7) (T := TX7) (N := 6) hx hb hts hiX7 hown hE.1 hP 0 rfl rfl 0 (by decide) (hts _ (List.mem_cons_of_mem _ wd_19)) (fun _ h9 => h9) rfl dX7_count_41 ?_
    refine va_get (D := D) (ci := 0) (v := .int (nI np)) (C := RX0) (T := TX0) (N := 15) hx hb hts hiX0 hown hE.1 hP 2 rfl rfl 12 (by decide) (hts _ (List.mem_cons_of_mem _ wd_158)) (fun _ h9 => h9) rfl dX7_count_44 ?_
    refine k_iret (u := [(oX7 x x0 x1 x2 x3 x4 x5), (oX4 x1 x0 s1 s2 (nI pn) si4 s5 s6 s7 s8 s9 s10 s11 (nI tt0) (nI at0)), (oX0 x0 b0 b1 b2 b3 b4 b5 b6 b7 b8 b9 b10 b11 (nI np) (nI nl) bi14), (oX6 s1 w0 w1 w2 w3 w4 (nI wn) wi6 (nI lv) w8), (oX2 s2 d0 d1 d2), (aIc cI b0 8 B0), (aIc cI b1 8 B1), (aIc cI b2 8 B2), (aIc cI b3 8 B3), (aIc cI b4 8 B4), (aIc cI b6 8 B6), (aIc cI b8 64 B8), (aIc cI b10 10 B10), (aIc cI b11 10 B11), (aIc cI s5 8 S5), (aIc cI s6 8 S6), (aIc cI s7 8 S7), (aIc cI s8 8 S8), (aIc cI s9 8 S9), (aIc cI s10 8 S10), (aIc cI s11 8 S11), (aIc cI w0 8 W0), (aIc cI w1 8 W1), (aIc cI w2 8 W2), (aIc cI w3 8 W3), (aIc cI w4 8 W4), (aIc cI w8 8 W8), (aIc cI d0 8 D0), (aIc cI d1 8 D1), (aJc cJ d2 8 D2), (aIc cI b5 8 B5)]) hx hb hr hlk hP hD hS dX7_count_47 ?_
    exact ⟨S5, S6, S7, S8, S9, S10, S11, W1, W2, W3, W4, W8, D0, D1, D2, tt0, at0, wi6, lv, wn, W0, si4, pn, (by omega), (by omega), (by first | omega | exact ev_lt hnp), (by unfold A_cn; rw [if_pos c1]), rfl⟩
  by_cases c2 : p0 = 1
  · skip
    refine lv_tableIn (tgt := 48) hx hb dX7_count_1 (by rw [c2]; decide) (by rw [c2]; decide) (off := 47) (by rw [c2]; rfl) (by decide) ?_
    refine lv_aload_n hx hb dX7_count_48 rfl (lv_at hl 0 rfl) ?_
    refine va_get (D := D) (ci := 7) (v := .ref x0) (C := RX7) (T := TX7) (N := 6) hx hb hts hiX7 hown hE.1 hP 0 rfl rfl 0 (by decide) (hts _ (List.mem_cons_of_mem _ wd_19)) (fun _ h9 => h9) rfl dX7_count_49 ?_
    refine va_get (D := D) (ci := 0) (v := .int (nI nl)) (C := RX0) (T := TX0) (N := 15) hx hb hts hiX0 hown hE.1 hP 2 rfl rfl 13 (by decide) (hts _ (List.mem_cons_of_mem _ wd_244)) (fun _ h9 => h9) rfl dX7_count_52 ?_
    refine k_iret (u := [(oX7 x x0 x1 x2 x3 x4 x5), (oX4 x1 x0 s1 s2 (nI pn) si4 s5 s6 s7 s8 s9 s10 s11 (nI tt0) (nI at0)), (oX0 x0 b0 b1 b2 b3 b4 b5 b6 b7 b8 b9 b10 b11 (nI np) (nI nl) bi14), (oX6 s1 w0 w1 w2 w3 w4 (nI wn) wi6 (nI lv) w8), (oX2 s2 d0 d1 d2), (aIc cI b0 8 B0), (aIc cI b1 8 B1), (aIc cI b2 8 B2), (aIc cI b3 8 B3), (aIc cI b4 8 B4), (aIc cI b6 8 B6), (aIc cI b8 64 B8), (aIc cI b10 10 B10), (aIc cI b11 10 B11), (aIc cI s5 8 S5), (aIc cI s6 8 S6), (aIc cI s7 8 S7), (aIc cI s8 8 S8), (aIc cI s9 8 S9), (aIc cI s10 8 S10), (aIc cI s11 8 S11), (aIc cI w0 8 W0), (aIc cI w1 8 W1), (aIc cI w2 8 W2), (aIc cI w3 8 W3), (aIc cI w4 8 W4), (aIc cI w8 8 W8), (aIc cI d0 8 D0), (aIc cI d1 8 D1), (aJc cJ d2 8 D2), (aIc cI b5 8 B5)]) hx hb hr hlk hP hD hS dX7_count_55 ?_
    exact ⟨S5, S6, S7, S8, S9, S10, S11, W1, W2, W3, W4, W8, D0, D1, D2, tt0, at0, wi6, lv, wn, W0, si4, pn, (by omega), (by omega), (by first | omega | exact ev_lt hnp), (by unfold A_cn; rw [if_neg c1, if_pos c2]), rfl⟩
  by_cases c3 : p0 = 2
  · skip
    refine lv_tableIn (tgt := 56) hx hb dX7_count_1 (by rw [c3]; decide) (by rw [c3]; decide) (off := 55) (by rw [c3]; rfl) (by decide) ?_
    refine lv_aload_n hx hb dX7_count_56 rfl (lv_at hl 0 rfl) ?_
    refine va_get (D := D) (ci := 7) (v := .ref x0) (C := RX7) (T := TX7) (N := 6) hx hb hts hiX7 hown hE.1 hP 0 rfl rfl 0 (by decide) (hts _ (List.mem_cons_of_mem _ wd_19)) (fun _ h9 => h9) rfl dX7_count_57 ?_
    refine va_get (D := D) (ci := 0) (v := .int bi14) (C := RX0) (T := TX0) (N := 15) hx hb hts hiX0 hown hE.1 hP 2 rfl rfl 14 (by decide) (hts _ (List.mem_cons_of_mem _ wd_264)) (fun _ h9 => h9) rfl dX7_count_60 ?_
    refine k_iret (u := [(oX7 x x0 x1 x2 x3 x4 x5), (oX4 x1 x0 s1 s2 (nI pn) si4 s5 s6 s7 s8 s9 s10 s11 (nI tt0) (nI at0)), (oX0 x0 b0 b1 b2 b3 b4 b5 b6 b7 b8 b9 b10 b11 (nI np) (nI nl) bi14), (oX6 s1 w0 w1 w2 w3 w4 (nI wn) wi6 (nI lv) w8), (oX2 s2 d0 d1 d2), (aIc cI b0 8 B0), (aIc cI b1 8 B1), (aIc cI b2 8 B2), (aIc cI b3 8 B3), (aIc cI b4 8 B4), (aIc cI b6 8 B6), (aIc cI b8 64 B8), (aIc cI b10 10 B10), (aIc cI b11 10 B11), (aIc cI s5 8 S5), (aIc cI s6 8 S6), (aIc cI s7 8 S7), (aIc cI s8 8 S8), (aIc cI s9 8 S9), (aIc cI s10 8 S10), (aIc cI s11 8 S11), (aIc cI w0 8 W0), (aIc cI w1 8 W1), (aIc cI w2 8 W2), (aIc cI w3 8 W3), (aIc cI w4 8 W4), (aIc cI w8 8 W8), (aIc cI d0 8 D0), (aIc cI d1 8 D1), (aJc cJ d2 8 D2), (aIc cI b5 8 B5)]) hx hb hr hlk hP hD hS dX7_count_63 ?_
    exact ⟨S5, S6, S7, S8, S9, S10, S11, W1, W2, W3, W4, W8, D0, D1, D2, tt0, at0, wi6, lv, wn, W0, si4, pn, (by omega), (by omega), (by first | omega | exact ev_lt hnp), (by unfold A_cn; rw [if_neg c1, if_neg c2, if_pos c3]), rfl⟩
  by_cases c4 : p0 = 3
  · skip
    refine lv_tableIn (tgt := 64) hx hb dX7_count_1 (by rw [c4]; decide) (by rw [c4]; decide) (off := 63) (by rw [c4]; rfl) (by decide) ?_
    refine lv_aload_n hx hb dX7_count_64 rfl (lv_at hl 0 rfl) ?_
    refine k_v (va_runV (As := []) (rest := []) ⟨hx, hb, hml, hown, hts⟩ (e_X7_settleAll l D cI cJ (s.heap).size x x0 x1 x2 x3 x4 x5 s1 s2 s5 s6 s7 s8 s9 s10 s11 b0 b1 b2 b3 b4 b5 b6 b7 b8 b9 b10 b11 w0 w1 w2 w3 w4 w8 d0 d1 d2 wn lv np nl pn tt0 at0 si4 bi14 wi6 B0 B1 B2 B3 B4 B6 B8 B10 B11 S5 S6 S7 S8 S9 S10 S11 W0 W1 W2 W3 W4 W8 D0 D1 D2 B5 li0 wo0 de0 su0 ag0 lim0 lam0 hnp hnl hwn hlv hliv hlib hwov hwob hdev hdeb hsb hix hax hagv hagb hto) (cwV 0 hts gX7_count_X7_settleAll rfl rfl rfl (by decide +kernel) ⟨Nat.le_of_ble_eq_true rfl, Nat.le_of_ble_eq_true rfl⟩) (k_preV hE hP hD [0, 1, 2, 3, 4, 5, 6, 7, 8, 9, 10, 11, 12, 13, 14, 15, 16, 17, 18, 19, 20, 21, 22, 23, 24, 25, 26, 27, 28, 29, 30] (by decide +kernel) rfl 0 rfl rfl) rfl rfl hl.1 rfl (lv_room (Nat.le_of_ble_eq_true rfl)) dX7_count_65 ⟨Nat.le_of_ble_eq_true rfl, Nat.le_of_ble_eq_true rfl⟩) hP hD hS hA [0, 1, 2, 3, 4, 5, 6, 7, 8, 9, 10, 11, 12, 13, 14, 15, 16, 17, 18, 19, 20, 21, 22, 23, 24, 25, 26, 27, 28, 29, 30] [] rfl (wr := []) rfl (by decide +kernel) (by decide +kernel) (fun u H locs hw5 hP hD hS => ?_)
    obtain ⟨z6, z7, z8, z9, z10, z11, z12, z13, z14, z15, z16, z17, z18, z19, z20, z21, z22, z23, z24, z25, z26, hz27, hz28, hz29, hz30, hz31, hz32, rfl⟩ := hw5
    refine k_re (w := [(oX7 x x0 x1 x2 x3 x4 x5), (oX4 x1 x0 s1 s2 (nI (2 ^ np - 1)) bi14 s5 s6 s7 s8 s9 s10 s11 (nI z21) (nI z22)), (oX0 x0 b0 b1 b2 b3 b4 b5 b6 b7 b8 b9 b10 b11 (nI np) (nI nl) bi14), (oX6 s1 w0 w1 w2 w3 w4 (nI z25) z23 (nI z24) w8), (oX2 s2 d0 d1 d2), (aIc cI b0 8 B0), (aIc cI b1 8 B1), (aIc cI b2 8 B2), (aIc cI b3 8 B3), (aIc cI b4 8 B4), (aIc cI b6 8 B6), (aIc cI b8 64 B8), (aIc cI b10 10 B10), (aIc cI b11 10 B11), (aIc cI s5 8 z6), (aIc cI s6 8 z7), (aIc cI s7 8 z8), (aIc cI s8 8 z9), (aIc cI s9 8 z10), (aIc cI s10 8 z11), (aIc cI s11 8 z12), (aIc cI w0 8 z26), (aIc cI w1 8 z13), (aIc cI w2 8 z14), (aIc cI w3 8 z15), (aIc cI w4 8 z16), (aIc cI w8 8 z17), (aIc cI d0 8 z18), (aIc cI d1 8 z19), (aJc cJ d2 8 z20), (aIc cI b5 8 B5)]) hP hD (fun hP hD => ?_)
    refine lv_aload_n hx hb dX7_count_68 rfl (lv_at hl 0 rfl) ?_
    refine va_get (D := D) (ci := 7) (v := .ref x1) (C := RX7) (T := TX7) (N := 6) hx hb hts hiX7 hown hE.1 hP 0 rfl rfl 1 (by decide) (hts _ (List.mem_cons_of_mem _ wd_17)) (fun _ h9 => h9) rfl dX7_count_69 ?_
    refine va_get (D := D) (ci := 4) (v := .int (nI z22)) (C := RX4) (T := TX4) (N := 14) hx hb hts hiX4 hown hE.1 hP 1 rfl rfl 13 (by decide) (hts _ (List.mem_cons_of_mem _ wd_274)) (fun _ h9 => h9) rfl dX7_count_72 ?_
    refine k_iret (u := [(oX7 x x0 x1 x2 x3 x4 x5), (oX4 x1 x0 s1 s2 (nI (2 ^ np - 1)) bi14 s5 s6 s7 s8 s9 s10 s11 (nI z21) (nI z22)), (oX0 x0 b0 b1 b2 b3 b4 b5 b6 b7 b8 b9 b10 b11 (nI np) (nI nl) bi14), (oX6 s1 w0 w1 w2 w3 w4 (nI z25) z23 (nI z24) w8), (oX2 s2 d0 d1 d2), (aIc cI b0 8 B0), (aIc cI b1 8 B1), (aIc cI b2 8 B2), (aIc cI b3 8 B3), (aIc cI b4 8 B4), (aIc cI b6 8 B6), (aIc cI b8 64 B8), (aIc cI b10 10 B10), (aIc cI b11 10 B11), (aIc cI s5 8 z6), (aIc cI s6 8 z7), (aIc cI s7 8 z8), (aIc cI s8 8 z9), (aIc cI s9 8 z10), (aIc cI s10 8 z11), (aIc cI s11 8 z12), (aIc cI w0 8 z26), (aIc cI w1 8 z13), (aIc cI w2 8 z14), (aIc cI w3 8 z15), (aIc cI w4 8 z16), (aIc cI w8 8 z17), (aIc cI d0 8 z18), (aIc cI d1 8 z19), (aJc cJ d2 8 z20), (aIc cI b5 8 B5)]) hx hb hr hlk hP hD hS dX7_count_75 ?_
    exact ⟨z6, z7, z8, z9, z10, z11, z12, z13, z14, z15, z16, z17, z18, z19, z20, z21, z22, z23, z24, z25, z26, bi14, 2 ^ np - 1, (by omega), (by omega), (by first | omega | exact ev_lt hnp), (by unfold A_cn; rw [if_neg c1, if_neg c2, if_neg c3, if_pos c4]; exact (congrArg nI hz29)), rfl⟩
  by_cases c33 : p0 = 4
  · skip
    refine lv_tableIn (tgt := 76) hx hb dX7_count_1 (by rw [c33]; decide) (by rw [c33]; decide) (off := 75) (by rw [c33]; rfl) (by decide) ?_
    refine lv_aload_n hx hb dX7_count_76 rfl (lv_at hl 0 rfl) ?_
    refine va_get (D := D) (ci := 7) (v := .ref x0) (C := RX7) (T := TX7) (N := 6) hx hb hts hiX7 hown hE.1 hP 0 rfl rfl 0 (by decide) (hts _ (List.mem_cons_of_mem _ wd_19)) (fun _ h9 => h9) rfl dX7_count_77 ?_
    refine k_iS (va_runV (As := []) (rest := []) ⟨hx, hb, hml, hown, hts⟩ (e_X0_amountsTogether l D cI cJ (s.heap).size x0 b0 b1 b2 b3 b4 b5 b6 b7 b8 b9 b10 b11 np nl bi14 B11 lam0 hnp hnl hax) (cwV 0 hts gX7_count_X0_amountsTogether rfl rfl rfl (by decide +kernel) ⟨Nat.le_of_ble_eq_true rfl, Nat.le_of_ble_eq_true rfl⟩) (k_preV hE hP hD [2, 13] (by decide +kernel) rfl 2 rfl rfl) rfl rfl hl.1 rfl (lv_room (Nat.le_of_ble_eq_true rfl)) dX7_count_80 ⟨Nat.le_of_ble_eq_true rfl, Nat.le_of_ble_eq_true rfl⟩) hP hD hS hA [2, 13] rfl (fun _ _ ⟨_, h9⟩ => h9) (fun r34 H locs hw35 hP hD hS => ?_)
    obtain ⟨rfl, -⟩ := hw35
    refine k_iret (u := [(oX7 x x0 x1 x2 x3 x4 x5), (oX4 x1 x0 s1 s2 (nI pn) si4 s5 s6 s7 s8 s9 s10 s11 (nI tt0) (nI at0)), (oX0 x0 b0 b1 b2 b3 b4 b5 b6 b7 b8 b9 b10 b11 (nI np) (nI nl) bi14), (oX6 s1 w0 w1 w2 w3 w4 (nI wn) wi6 (nI lv) w8), (oX2 s2 d0 d1 d2), (aIc cI b0 8 B0), (aIc cI b1 8 B1), (aIc cI b2 8 B2), (aIc cI b3 8 B3), (aIc cI b4 8 B4), (aIc cI b6 8 B6), (aIc cI b8 64 B8), (aIc cI b10 10 B10), (aIc cI b11 10 B11), (aIc cI s5 8 S5), (aIc cI s6 8 S6), (aIc cI s7 8 S7), (aIc cI s8 8 S8), (aIc cI s9 8 S9), (aIc cI s10 8 S10), (aIc cI s11 8 S11), (aIc cI w0 8 W0), (aIc cI w1 8 W1), (aIc cI w2 8 W2), (aIc cI w3 8 W3), (aIc cI w4 8 W4), (aIc cI w8 8 W8), (aIc cI d0 8 D0), (aIc cI d1 8 D1), (aJc cJ d2 8 D2), (aIc cI b5 8 B5)]) hx hb hr hlk hP hD hS dX7_count_83 ?_
    exact ⟨S5, S6, S7, S8, S9, S10, S11, W1, W2, W3, W4, W8, D0, D1, D2, tt0, at0, wi6, lv, wn, W0, si4, pn, (by omega), (by omega), (by first | omega | exact ev_lt hnp), (by unfold A_cn; rw [if_neg c1, if_neg c2, if_neg c3, if_neg c4, if_pos c33]), rfl⟩
  by_cases c36 : p0 = 5
  · skip
    refine lv_tableIn (tgt := 84) hx hb dX7_count_1 (by rw [c36]; decide) (by rw [c36]; decide) (off := 83) (by rw [c36]; rfl) (by decide) ?_
    refine lv_aload_n hx hb dX7_count_84 rfl (lv_at hl 0 rfl) ?_
    refine k_v (va_runV (As := []) (rest := []) ⟨hx, hb, hml, hown, hts⟩ (e_X7_settleAll l D cI cJ (s.heap).size x x0 x1 x2 x3 x4 x5 s1 s2 s5 s6 s7 s8 s9 s10 s11 b0 b1 b2 b3 b4 b5 b6 b7 b8 b9 b10 b11 w0 w1 w2 w3 w4 w8 d0 d1 d2 wn lv np nl pn tt0 at0 si4 bi14 wi6 B0 B1 B2 B3 B4 B6 B8 B10 B11 S5 S6 S7 S8 S9 S10 S11 W0 W1 W2 W3 W4 W8 D0 D1 D2 B5 li0 wo0 de0 su0 ag0 lim0 lam0 hnp hnl hwn hlv hliv hlib hwov hwob hdev hdeb hsb hix hax hagv hagb hto) (cwV 0 hts gX7_count_X7_settleAll rfl rfl rfl (by decide +kernel) ⟨Nat.le_of_ble_eq_true rfl, Nat.le_of_ble_eq_true rfl⟩) (k_preV hE hP hD [0, 1, 2, 3, 4, 5, 6, 7, 8, 9, 10, 11, 12, 13, 14, 15, 16, 17, 18, 19, 20, 21, 22, 23, 24, 25, 26, 27, 28, 29, 30] (by decide +kernel) rfl 0 rfl rfl) rfl rfl hl.1 rfl (lv_room (Nat.le_of_ble_eq_true rfl)) dX7_count_85 ⟨Nat.le_of_ble_eq_true rfl, Nat.le_of_ble_eq_true rfl⟩) hP hD hS hA [0, 1, 2, 3, 4, 5, 6, 7, 8, 9, 10, 11, 12, 13, 14, 15, 16, 17, 18, 19, 20, 21, 22, 23, 24, 25, 26, 27, 28, 29, 30] [] rfl (wr := []) rfl (by decide +kernel) (by decide +kernel) (fun u H locs hw37 hP hD hS => ?_)
    obtain ⟨z38, z39, z40, z41, z42, z43, z44, z45, z46, z47, z48, z49, z50, z51, z52, z53, z54, z55, z56, z57, z58, hz59, hz60, hz61, hz62, hz63, hz64, rfl⟩ := hw37
    refine k_re (w := [(oX7 x x0 x1 x2 x3 x4 x5), (oX4 x1 x0 s1 s2 (nI (2 ^ np - 1)) bi14 s5 s6 s7 s8 s9 s10 s11 (nI z53) (nI z54)), (oX0 x0 b0 b1 b2 b3 b4 b5 b6 b7 b8 b9 b10 b11 (nI np) (nI nl) bi14), (oX6 s1 w0 w1 w2 w3 w4 (nI z57) z55 (nI z56) w8), (oX2 s2 d0 d1 d2), (aIc cI b0 8 B0), (aIc cI b1 8 B1), (aIc cI b2 8 B2), (aIc cI b3 8 B3), (aIc cI b4 8 B4), (aIc cI b6 8 B6), (aIc cI b8 64 B8), (aIc cI b10 10 B10), (aIc cI b11 10 B11), (aIc cI s5 8 z38), (aIc cI s6 8 z39), (aIc cI s7 8 z40), (aIc cI s8 8 z41), (aIc cI s9 8 z42), (aIc cI s10 8 z43), (aIc cI s11 8 z44), (aIc cI w0 8 z58), (aIc cI w1 8 z45), (aIc cI w2 8 z46), (aIc cI w3 8 z47), (aIc cI w4 8 z48), (aIc cI w8 8 z49), (aIc cI d0 8 z50), (aIc cI d1 8 z51), (aJc cJ d2 8 z52), (aIc cI b5 8 B5)]) hP hD (fun hP hD => ?_)
    refine lv_aload_n hx hb dX7_count_88 rfl (lv_at hl 0 rfl) ?_
    refine va_get (D := D) (ci := 7) (v := .ref x1) (C := RX7) (T := TX7) (N := 6) hx hb hts hiX7 hown hE.1 hP 0 rfl rfl 1 (by decide) (hts _ (List.mem_cons_of_mem _ wd_17)) (fun _ h9 => h9) rfl dX7_count_89 ?_
    refine k_iS (va_runV (As := []) (rest := []) ⟨hx, hb, hml, hown, hts⟩ (e_X4_usedUp l D cI cJ H.size x1 x0 s1 s2 s5 s6 s7 s8 s9 s10 s11 (2 ^ np - 1) z53 z54 bi14 z38 (LFN li0 wo0 de0 su0 B4 B5 B6 bi14 (nI (2 ^ np - 1)) ag0 lim0 lam0 nl) hz59 (fun k hk => lfn_b (hagb k hk))) (cwV 0 hts gX7_count_X4_usedUp rfl rfl rfl (by decide +kernel) ⟨Nat.le_of_ble_eq_true rfl, Nat.le_of_ble_eq_true rfl⟩) (k_preV hE hP hD [1, 14] (by decide +kernel) rfl 1 rfl rfl) rfl rfl hl.1 rfl (lv_room (Nat.le_of_ble_eq_true rfl)) dX7_count_92 ⟨Nat.le_of_ble_eq_true rfl, Nat.le_of_ble_eq_true rfl⟩) hP hD hS hA [1, 14] rfl (fun _ _ ⟨_, h9⟩ => h9) (fun r65 H locs hw66 hP hD hS => ?_)
    obtain ⟨rfl, -⟩ := hw66
    refine k_iret (u := [(oX7 x x0 x1 x2 x3 x4 x5), (oX4 x1 x0 s1 s2 (nI (2 ^ np - 1)) bi14 s5 s6 s7 s8 s9 s10 s11 (nI z53) (nI z54)), (oX0 x0 b0 b1 b2 b3 b4 b5 b6 b7 b8 b9 b10 b11 (nI np) (nI nl) bi14), (oX6 s1 w0 w1 w2 w3 w4 (nI z57) z55 (nI z56) w8), (oX2 s2 d0 d1 d2), (aIc cI b0 8 B0), (aIc cI b1 8 B1), (aIc cI b2 8 B2), (aIc cI b3 8 B3), (aIc cI b4 8 B4), (aIc cI b6 8 B6), (aIc cI b8 64 B8), (aIc cI b10 10 B10), (aIc cI b11 10 B11), (aIc cI s5 8 z38), (aIc cI s6 8 z39), (aIc cI s7 8 z40), (aIc cI s8 8 z41), (aIc cI s9 8 z42), (aIc cI s10 8 z43), (aIc cI s11 8 z44), (aIc cI w0 8 z58), (aIc cI w1 8 z45), (aIc cI w2 8 z46), (aIc cI w3 8 z47), (aIc cI w4 8 z48), (aIc cI w8 8 z49), (aIc cI d0 8 z50), (aIc cI d1 8 z51), (aJc cJ d2 8 z52), (aIc cI b5 8 B5)]) hx hb hr hlk hP hD hS dX7_count_95 ?_
    exact ⟨z38, z39, z40, z41, z42, z43, z44, z45, z46, z47, z48, z49, z50, z51, z52, z53, z54, z55, z56, z57, z58, bi14, 2 ^ np - 1, (by omega), (by omega), (by first | omega | exact ev_lt hnp), (by unfold A_cn; rw [if_neg c1, if_neg c2, if_neg c3, if_neg c4, if_neg c33, if_pos c36]), rfl⟩
  refine lv_tableOut (tgt := 96) hx hb dX7_count_1 (sw_out6 c1 c2 c3 c4 c33 c36) (by decide) ?_
  refine lv_iconst (v := (-1)) hx hb dX7_count_96 (by decide) ?_
  refine k_iret (u := [(oX7 x x0 x1 x2 x3 x4 x5), (oX4 x1 x0 s1 s2 (nI pn) si4 s5 s6 s7 s8 s9 s10 s11 (nI tt0) (nI at0)), (oX0 x0 b0 b1 b2 b3 b4 b5 b6 b7 b8 b9 b10 b11 (nI np) (nI nl) bi14), (oX6 s1 w0 w1 w2 w3 w4 (nI wn) wi6 (nI lv) w8), (oX2 s2 d0 d1 d2), (aIc cI b0 8 B0), (aIc cI b1 8 B1), (aIc cI b2 8 B2), (aIc cI b3 8 B3), (aIc cI b4 8 B4), (aIc cI b6 8 B6), (aIc cI b8 64 B8), (aIc cI b10 10 B10), (aIc cI b11 10 B11), (aIc cI s5 8 S5), (aIc cI s6 8 S6), (aIc cI s7 8 S7), (aIc cI s8 8 S8), (aIc cI s9 8 S9), (aIc cI s10 8 S10), (aIc cI s11 8 S11), (aIc cI w0 8 W0), (aIc cI w1 8 W1), (aIc cI w2 8 W2), (aIc cI w3 8 W3), (aIc cI w4 8 W4), (aIc cI w8 8 W8), (aIc cI d0 8 D0), (aIc cI d1 8 D1), (aJc cJ d2 8 D2), (aIc cI b5 8 B5)]) hx hb hr hlk hP hD hS dX7_count_97 ?_
  exact ⟨S5, S6, S7, S8, S9, S10, S11, W1, W2, W3, W4, W8, D0, D1, D2, tt0, at0, wi6, lv, wn, W0, si4, pn, (by omega), (by omega), (by first | omega | exact ev_lt hnp), (by unfold A_cn; rw [if_neg c1, if_neg c2, if_neg c3, if_neg c4, if_neg c33, if_neg c36]), rfl⟩

