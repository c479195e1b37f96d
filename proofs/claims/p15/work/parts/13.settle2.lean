theorem dX4_usedUp_0 : decode cX4_usedUp 0 = .ok (.iconst 0, 1) := by decide +kernel
theorem dX4_usedUp_1 : decode cX4_usedUp 1 = .ok (.istore_n 1, 1) := by decide +kernel
theorem dX4_usedUp_2 : decode cX4_usedUp 2 = .ok (.iconst 0, 1) := by decide +kernel
theorem dX4_usedUp_3 : decode cX4_usedUp 3 = .ok (.istore_n 2, 1) := by decide +kernel
theorem dX4_usedUp_4 : decode cX4_usedUp 4 = .ok (.iload_n 2, 1) := by decide +kernel
theorem dX4_usedUp_5 : decode cX4_usedUp 5 = .ok (.bipush 8, 2) := by decide +kernel
theorem dX4_usedUp_7 : decode cX4_usedUp 7 = .ok (.if_icmp .ge 35, 3) := by decide +kernel
theorem dX4_usedUp_10 : decode cX4_usedUp 10 = .ok (.aload_n 0, 1) := by decide +kernel
theorem dX4_usedUp_11 : decode cX4_usedUp 11 = .ok (.getfield 58, 3) := by decide +kernel
theorem dX4_usedUp_14 : decode cX4_usedUp 14 = .ok (.iload_n 2, 1) := by decide +kernel
theorem dX4_usedUp_15 : decode cX4_usedUp 15 = .ok (.invokestatic 113, 3) := by decide +kernel
theorem dX4_usedUp_18 : decode cX4_usedUp 18 = .ok (.ifCond .eq 18, 3) := by decide +kernel
theorem dX4_usedUp_21 : decode cX4_usedUp 21 = .ok (.aload_n 0, 1) := by decide +kernel
theorem dX4_usedUp_22 : decode cX4_usedUp 22 = .ok (.getfield 32, 3) := by decide +kernel
theorem dX4_usedUp_25 : decode cX4_usedUp 25 = .ok (.iload_n 2, 1) := by decide +kernel
theorem dX4_usedUp_26 : decode cX4_usedUp 26 = .ok (.iaload, 1) := by decide +kernel
theorem dX4_usedUp_27 : decode cX4_usedUp 27 = .ok (.ifCond .ne 9, 3) := by decide +kernel
theorem dX4_usedUp_30 : decode cX4_usedUp 30 = .ok (.iload_n 1, 1) := by decide +kernel
theorem dX4_usedUp_31 : decode cX4_usedUp 31 = .ok (.iconst 1, 1) := by decide +kernel
theorem dX4_usedUp_32 : decode cX4_usedUp 32 = .ok (.iload_n 2, 1) := by decide +kernel
theorem dX4_usedUp_33 : decode cX4_usedUp 33 = .ok (.ishl, 1) := by decide +kernel
theorem dX4_usedUp_34 : decode cX4_usedUp 34 = .ok (.ior, 1) := by decide +kernel
theorem dX4_usedUp_35 : decode cX4_usedUp 35 = .ok (.istore_n 1, 1) := by decide +kernel
theorem dX4_usedUp_36 : decode cX4_usedUp 36 = .ok (.iinc 2 1, 3) := by decide +kernel
theorem dX4_usedUp_39 : decode cX4_usedUp 39 = .ok (.goto (-35), 3) := by decide +kernel
theorem dX4_usedUp_42 : decode cX4_usedUp 42 = .ok (.iload_n 1, 1) := by decide +kernel
theorem dX4_usedUp_43 : decode cX4_usedUp 43 = .ok (.ireturn, 1) := by decide +kernel
theorem gX4_usedUp_X7_has_n113 : GoodIn wtX4_usedUp (wtX7_has) := tb_good (tb_c0 wd_312)
set_option maxHeartbeats 4000000 in
set_option maxRecDepth 100000 in
theorem m_X4_usedUp (l : Launch) (D : va_G) (cI cJ : ClassId) (sz : Nat) (x1 x0 s1 s2 s5 s6 s7 s8 s9 s10 s11 pn : Nat) (si4 si12 si13 : Int32) (S5 : Nat → Int32) : Met l yX4_usedUp wtX4_usedUp { frames := 1, cells := 0, slots := 0, locals := 21 } (cPc D cI cJ [.ref x1] sz [(oX4 x1 x0 s1 s2 (nI pn) si4 s5 s6 s7 s8 s9 s10 s11 si12 si13), (aIc cI s5 8 S5)]) (cQi D (fun r u => u = [(oX4 x1 x0 s1 s2 (nI pn) si4 s5 s6 s7 s8 s9 s10 s11 si12 si13), (aIc cI s5 8 S5)]) (va_A [(oX4 x1 x0 s1 s2 (nI pn) si4 s5 s6 s7 s8 s9 s10 s11 si12 si13), (aIc cI s5 8 S5)] sz)) 0 0 (va_A [(oX4 x1 x0 s1 s2 (nI pn) si4 s5 s6 s7 s8 s9 s10 s11 si12 si13), (aIc cI s5 8 S5)] sz) := by
  refine k_ofW (Qc := cQi D (fun r u => u = [(oX4 x1 x0 s1 s2 (nI pn) si4 s5 s6 s7 s8 s9 s10 s11 si12 si13), (aIc cI s5 8 S5)])) (by decide) rfl (Nat.le_of_ble_eq_true rfl) ?_
  intro p e s m below meth c A ls hx hb hr hml hts hown hlk hnm hsz hE hP hD hS hA hl
  have hown : s.vm.findClass RX4 = some m.cls := hown
  have hiX4 : ∀ w ∈ u_ws RX4 TX4 14, w ∈ wtX4_usedUp := fun w h => List.mem_cons_of_mem _ (iuX4 w h)
  have hl : lv_has ls 3 [(0, .ref x1)] := hl
  refine lv_iconst (v := 0) hx hb dX4_usedUp_0 (by decide) ?_
  refine lv_istore_n (lv' := [(1, .int 0), (0, .ref x1)]) hx hb dX4_usedUp_1 rfl hl (by decide) rfl (fun ls hl => ?_)
  refine lv_iconst (v := 0) hx hb dX4_usedUp_2 (by decide) ?_
  refine lv_istore_n (lv' := [(2, .int 0), (1, .int 0), (0, .ref x1)]) hx hb dX4_usedUp_3 rfl hl (by decide) rfl (fun ls hl => ?_)
  have J4 : ∀ (zz : Nat) (i4 : Nat) (h1_4 : Int32), (i4 ≤ 8) → (8 - i4) < zz → ∀ (H : Heap) (locs : List Loc) (ls : Array Slot), va_P D vwCl [(oX4 x1 x0 s1 s2 (nI pn) si4 s5 s6 s7 s8 s9 s10 s11 si12 si13), (aIc cI s5 8 S5)] H → va_D A [(oX4 x1 x0 s1 s2 (nI pn) si4 s5 s6 s7 s8 s9 s10 s11 si12 si13), (aIc cI s5 8 S5)] → va_S A s.heap H locs → lv_has ls 3 [(2, .int (nI i4)), (1, .int h1_4), (0, .ref x1)] → W p l e { frames := 1, cells := 0, slots := 0, locals := 21 } s m [.ref x1].toArray below meth c H locs 0 0 (MQ below (cQi D (fun r u => u = [(oX4 x1 x0 s1 s2 (nI pn) si4 s5 s6 s7 s8 s9 s10 s11 si12 si13), (aIc cI s5 8 S5)]) A) [.ref x1].toArray s 0 0 A) (F0 m 4 ls []) := by
    intro zz
    induction zz with
    | zero => intro i4 h1_4 _; exact fun h => absurd h (Nat.not_lt_zero _)
    | succ zz ih4 =>
      intro i4 h1_4 hc2_4 hmu4 H locs ls hP hD hS hl
      refine lv_iload_n hx hb dX4_usedUp_4 rfl (lv_at hl 0 rfl) ?_
      refine lv_bipush (v := 8) hx hb dX4_usedUp_5 (by decide) ?_
      refine lv_icmp_ge (tgt := 42) hx hb dX4_usedUp_7 (by decide) (fun c1 => ?_) (fun c1 => ?_)
      · skip
        have nc1 : 8 ≤ i4 := (nI_leI (a := 8) (b := i4) (by omega) (by omega)).mp c1
        refine lv_iload_n hx hb dX4_usedUp_42 rfl (lv_at hl 1 rfl) ?_
        refine k_iret (u := [(oX4 x1 x0 s1 s2 (nI pn) si4 s5 s6 s7 s8 s9 s10 s11 si12 si13), (aIc cI s5 8 S5)]) hx hb hr hlk hP hD hS dX4_usedUp_43 ?_
        exact rfl
      · skip
        have nc1 : ¬ 8 ≤ i4 := fun q9 => c1 ((nI_leI (a := 8) (b := i4) (by omega) (by omega)).mpr q9)
        refine lv_aload_n hx hb dX4_usedUp_10 rfl (lv_at hl 2 rfl) ?_
        refine va_get (D := D) (ci := 4) (v := .int (nI pn)) (C := RX4) (T := TX4) (N := 14) hx hb hts hiX4 hown hE.1 hP 0 rfl rfl 3 (by decide) (hts _ (List.mem_cons_of_mem _ wd_283)) (fun _ h9 => h9) rfl dX4_usedUp_11 ?_
        refine lv_iload_n hx hb dX4_usedUp_14 rfl (lv_at hl 0 rfl) ?_
        refine k_iS (va_runSN (As := [.int (nI pn), .int (nI i4)]) (rest := []) ⟨hx, hb, hml, hown, hts⟩ (m_X7_has l D cI cJ H.size (nI pn) (nI i4)) ⟨va_cnB 2 hts gX4_usedUp_X7_has_n113 rfl rfl rfl (nwk5 hE.2) (hts _ (List.mem_cons_of_mem _ wd_2)) (by decide +kernel) ⟨Nat.le_of_ble_eq_true rfl, Nat.le_of_ble_eq_true rfl⟩, (hts _ (List.mem_cons_of_mem _ wd_311)), trivial⟩ (k_pre hE hP hD [] (by decide +kernel) rfl) rfl rfl hl.1 rfl (lv_room (Nat.le_of_ble_eq_true rfl)) dX4_usedUp_15 ⟨Nat.le_of_ble_eq_true rfl, Nat.le_of_ble_eq_true rfl⟩) hP hD hS hA [] rfl (fun _ _ h9 => h9.2) (fun r2 H locs hw3 hP hD hS => ?_)
        obtain ⟨hw3, -⟩ := hw3
        refine lv_if_eq (tgt := 36) hx hb dX4_usedUp_18 (by decide) (fun c4 => ?_) (fun c4 => ?_)
        · skip
          have hc4 : ¬ (¬ ((nI pn) >>> ((nI i4) &&& 31)) &&& 1 = 0) := bz_0 hw3 c4
          refine lv_iinc (v := (nI (i4 + 1))) (lv' := [(2, .int (nI (i4 + 1))), (1, .int h1_4), (0, .ref x1)]) hx hb dX4_usedUp_36 hl (k := 0) rfl (nI_1 _) (by decide) rfl (fun ls hl => ?_)
          refine lv_goto (tgt := 4) hx hb dX4_usedUp_39 (by decide) ?_
          exact ih4 (i4 + 1) h1_4 (by omega) (by omega) _ _ _ hP hD hS (lv_sub hl [0, 1, 2] rfl)
        · skip
          have hc4 : ¬ ((nI pn) >>> ((nI i4) &&& 31)) &&& 1 = 0 := bz_1 hw3 c4
          refine lv_aload_n hx hb dX4_usedUp_21 rfl (lv_at hl 2 rfl) ?_
          refine va_get (D := D) (ci := 4) (v := .ref s5) (C := RX4) (T := TX4) (N := 14) hx hb hts hiX4 hown hE.1 hP 0 rfl rfl 5 (by decide) (hts _ (List.mem_cons_of_mem _ wd_49)) (fun _ h9 => h9) rfl dX4_usedUp_22 ?_
          refine lv_iload_n hx hb dX4_usedUp_25 rfl (lv_at hl 0 rfl) ?_
          refine va_iald hx hb hE.1 hP 1 0 rfl rfl (vp_in_nI (n := i4) (by omega) (by decide)) dX4_usedUp_26 ?_
          refine lv_topi (fun v5 ev5 => ?_)
          refine lv_if_ne (tgt := 36) hx hb dX4_usedUp_27 (by decide) (fun c6 => ?_) (fun c6 => ?_)
          · skip
            refine lv_iinc (v := (nI (i4 + 1))) (lv' := [(2, .int (nI (i4 + 1))), (1, .int h1_4), (0, .ref x1)]) hx hb dX4_usedUp_36 hl (k := 0) rfl (nI_1 _) (by decide) rfl (fun ls hl => ?_)
            refine lv_goto (tgt := 4) hx hb dX4_usedUp_39 (by decide) ?_
            exact ih4 (i4 + 1) h1_4 (by omega) (by omega) _ _ _ hP hD hS (lv_sub hl [0, 1, 2] rfl)
          · skip
            refine lv_iload_n hx hb dX4_usedUp_30 rfl (lv_at hl 1 rfl) ?_
            refine lv_iconst (v := 1) hx hb dX4_usedUp_31 (by decide) ?_
            refine lv_iload_n hx hb dX4_usedUp_32 rfl (lv_at hl 0 rfl) ?_
            refine lv_ishl hx hb dX4_usedUp_33 ?_
            refine lv_topi (fun v7 ev7 => ?_)
            refine lv_ior hx hb dX4_usedUp_34 ?_
            refine lv_topi (fun v8 ev8 => ?_)
            refine lv_istore_n (lv' := [(1, .int v8), (2, .int (nI i4)), (0, .ref x1)]) hx hb dX4_usedUp_35 rfl hl (by decide) rfl (fun ls hl => ?_)
            refine lv_iinc (v := (nI (i4 + 1))) (lv' := [(2, .int (nI (i4 + 1))), (1, .int v8), (0, .ref x1)]) hx hb dX4_usedUp_36 hl (k := 1) rfl (nI_1 _) (by decide) rfl (fun ls hl => ?_)
            refine lv_goto (tgt := 4) hx hb dX4_usedUp_39 (by decide) ?_
            exact ih4 (i4 + 1) v8 (by omega) (by omega) _ _ _ hP hD hS (lv_sub hl [0, 1, 2] rfl)
  exact J4 _ 0 0 (by omega) (Nat.lt_succ_self _) _ _ _ hP hD hS (lv_sub hl [0, 1, 2] rfl)
theorem vi_8 {x : Int32} (h : 0 ≤ x ∧ x ≤ 7) : vp_in x 8 := by
  obtain ⟨j, hj, rfl⟩ := wi_07 h
  exact vp_in_nI hj (by decide)
theorem dX4_burdenOn_0 : decode cX4_burdenOn 0 = .ok (.aload_n 0, 1) := by decide +kernel
theorem dX4_burdenOn_1 : decode cX4_burdenOn 1 = .ok (.getfield 21, 3) := by decide +kernel
theorem dX4_burdenOn_4 : decode cX4_burdenOn 4 = .ok (.getfield 169, 3) := by decide +kernel
theorem dX4_burdenOn_7 : decode cX4_burdenOn 7 = .ok (.iload_n 1, 1) := by decide +kernel
theorem dX4_burdenOn_8 : decode cX4_burdenOn 8 = .ok (.iaload, 1) := by decide +kernel
theorem dX4_burdenOn_9 : decode cX4_burdenOn 9 = .ok (.istore_n 2, 1) := by decide +kernel
theorem dX4_burdenOn_10 : decode cX4_burdenOn 10 = .ok (.iload_n 2, 1) := by decide +kernel
theorem dX4_burdenOn_11 : decode cX4_burdenOn 11 = .ok (.iconst 0, 1) := by decide +kernel
theorem dX4_burdenOn_12 : decode cX4_burdenOn 12 = .ok (.bipush 7, 2) := by decide +kernel
theorem dX4_burdenOn_14 : decode cX4_burdenOn 14 = .ok (.invokestatic 172, 3) := by decide +kernel
theorem dX4_burdenOn_17 : decode cX4_burdenOn 17 = .ok (.ifCond .eq 12, 3) := by decide +kernel
theorem dX4_burdenOn_20 : decode cX4_burdenOn 20 = .ok (.aload_n 0, 1) := by decide +kernel
theorem dX4_burdenOn_21 : decode cX4_burdenOn 21 = .ok (.getfield 51, 3) := by decide +kernel
theorem dX4_burdenOn_24 : decode cX4_burdenOn 24 = .ok (.iload_n 2, 1) := by decide +kernel
theorem dX4_burdenOn_25 : decode cX4_burdenOn 25 = .ok (.iaload, 1) := by decide +kernel
theorem dX4_burdenOn_26 : decode cX4_burdenOn 26 = .ok (.goto 4, 3) := by decide +kernel
theorem dX4_burdenOn_29 : decode cX4_burdenOn 29 = .ok (.iconst (-1), 1) := by decide +kernel
theorem dX4_burdenOn_30 : decode cX4_burdenOn 30 = .ok (.ireturn, 1) := by decide +kernel
theorem gX4_burdenOn_X7_within_n172 : GoodIn wtX4_burdenOn (wtX7_within) := tb_good (tb_c0 wd_166)
set_option maxHeartbeats 4000000 in
set_option maxRecDepth 100000 in
theorem m_X4_burdenOn (l : Launch) (D : va_G) (cI cJ : ClassId) (sz : Nat) (x1 x0 s1 s2 s5 s6 s7 s8 s9 s10 s11 w0 w1 w2 w3 w4 w8 p0 wn lv pn : Nat) (si4 si12 si13 wi6 : Int32) (W3 S11 : Nat → Int32) (hp : p0 < 8) : Met l yX4_burdenOn wtX4_burdenOn { frames := 1, cells := 0, slots := 0, locals := 22 } (cPc D cI cJ [.ref x1, .int (nI p0)] sz [(oX4 x1 x0 s1 s2 (nI pn) si4 s5 s6 s7 s8 s9 s10 s11 si12 si13), (oX6 s1 w0 w1 w2 w3 w4 (nI wn) wi6 (nI lv) w8), (aIc cI w3 8 W3), (aIc cI s11 8 S11)]) (cQi D (fun r u => u = [(oX4 x1 x0 s1 s2 (nI pn) si4 s5 s6 s7 s8 s9 s10 s11 si12 si13), (oX6 s1 w0 w1 w2 w3 w4 (nI wn) wi6 (nI lv) w8), (aIc cI w3 8 W3), (aIc cI s11 8 S11)]) (va_A [(oX4 x1 x0 s1 s2 (nI pn) si4 s5 s6 s7 s8 s9 s10 s11 si12 si13), (oX6 s1 w0 w1 w2 w3 w4 (nI wn) wi6 (nI lv) w8), (aIc cI w3 8 W3), (aIc cI s11 8 S11)] sz)) 0 0 (va_A [(oX4 x1 x0 s1 s2 (nI pn) si4 s5 s6 s7 s8 s9 s10 s11 si12 si13), (oX6 s1 w0 w1 w2 w3 w4 (nI wn) wi6 (nI lv) w8), (aIc cI w3 8 W3), (aIc cI s11 8 S11)] sz) := by
  refine k_ofW (Qc := cQi D (fun r u => u = [(oX4 x1 x0 s1 s2 (nI pn) si4 s5 s6 s7 s8 s9 s10 s11 si12 si13), (oX6 s1 w0 w1 w2 w3 w4 (nI wn) wi6 (nI lv) w8), (aIc cI w3 8 W3), (aIc cI s11 8 S11)])) (by decide) rfl (Nat.le_of_ble_eq_true rfl) ?_
  intro p e s m below meth c A ls hx hb hr hml hts hown hlk hnm hsz hE hP hD hS hA hl
  have hown : s.vm.findClass RX4 = some m.cls := hown
  have hiX4 : ∀ w ∈ u_ws RX4 TX4 14, w ∈ wtX4_burdenOn := fun w h => List.mem_cons_of_mem _ (iuX4 w h)
  have hiX6 : ∀ w ∈ u_ws RX6 TX6 9, w ∈ wtX4_burdenOn := fun w h => List.mem_cons_of_mem _ (iuX6 w h)
  have hl : lv_has ls 3 [(0, .ref x1), (1, .int (nI p0))] := hl
  refine lv_aload_n hx hb dX4_burdenOn_0 rfl (lv_at hl 0 rfl) ?_
  refine va_get (D := D) (ci := 4) (v := .ref s1) (C := RX4) (T := TX4) (N := 14) hx hb hts hiX4 hown hE.1 hP 0 rfl rfl 1 (by decide) (hts _ (List.mem_cons_of_mem _ wd_44)) (fun _ h9 => h9) rfl dX4_burdenOn_1 ?_
  refine va_get (D := D) (ci := 6) (v := .ref w3) (C := RX6) (T := TX6) (N := 9) hx hb hts hiX6 hown hE.1 hP 1 rfl rfl 3 (by decide) (hts _ (List.mem_cons_of_mem _ wd_592)) (fun _ h9 => h9) rfl dX4_burdenOn_4 ?_
  refine lv_iload_n hx hb dX4_burdenOn_7 rfl (lv_at hl 1 rfl) ?_
  refine va_iald hx hb hE.1 hP 2 0 rfl rfl (vp_in_nI (n := p0) (by omega) (by decide)) dX4_burdenOn_8 ?_
  refine lv_topi (fun v1 ev1 => ?_)
  refine lv_istore_n (lv' := [(2, .int v1), (0, .ref x1), (1, .int (nI p0))]) hx hb dX4_burdenOn_9 rfl hl (by decide) rfl (fun ls hl => ?_)
  refine lv_iload_n hx hb dX4_burdenOn_10 rfl (lv_at hl 0 rfl) ?_
  refine lv_iconst (v := 0) hx hb dX4_burdenOn_11 (by decide) ?_
  refine lv_bipush (v := 7) hx hb dX4_burdenOn_12 (by decide) ?_
  refine k_iS (va_runSN (As := [.int v1, .int 0, .int 7]) (rest := []) ⟨hx, hb, hml, hown, hts⟩ (m_X7_within l D cI cJ (s.heap).size v1 0 7) ⟨va_cnB 3 hts gX4_burdenOn_X7_within_n172 rfl rfl rfl (nwk12 hE.2) (hts _ (List.mem_cons_of_mem _ wd_2)) (by decide +kernel) ⟨Nat.le_of_ble_eq_true rfl, Nat.le_of_ble_eq_true rfl⟩, (hts _ (List.mem_cons_of_mem _ wd_165)), trivial⟩ (k_pre hE hP hD [] (by decide +kernel) rfl) rfl rfl hl.1 rfl (lv_room (Nat.le_of_ble_eq_true rfl)) dX4_burdenOn_14 ⟨Nat.le_of_ble_eq_true rfl, Nat.le_of_ble_eq_true rfl⟩) hP hD hS hA [] rfl (fun _ _ h9 => h9.2) (fun r2 H locs hw3 hP hD hS => ?_)
  obtain ⟨hw3, -⟩ := hw3
  refine lv_if_eq (tgt := 29) hx hb dX4_burdenOn_17 (by decide) (fun c4 => ?_) (fun c4 => ?_)
  · skip
    have hc4 : ¬ (0 ≤ v1 ∧ v1 ≤ 7) := bz_0 hw3 c4
    refine lv_iconst (v := (-1)) hx hb dX4_burdenOn_29 (by decide) ?_
    refine k_iret (u := [(oX4 x1 x0 s1 s2 (nI pn) si4 s5 s6 s7 s8 s9 s10 s11 si12 si13), (oX6 s1 w0 w1 w2 w3 w4 (nI wn) wi6 (nI lv) w8), (aIc cI w3 8 W3), (aIc cI s11 8 S11)]) hx hb hr hlk hP hD hS dX4_burdenOn_30 ?_
    exact rfl
  · skip
    have hc4 : 0 ≤ v1 ∧ v1 ≤ 7 := bz_1 hw3 c4
    refine lv_aload_n hx hb dX4_burdenOn_20 rfl (lv_at hl 1 rfl) ?_
    refine va_get (D := D) (ci := 4) (v := .ref s11) (C := RX4) (T := TX4) (N := 14) hx hb hts hiX4 hown hE.1 hP 0 rfl rfl 11 (by decide) (hts _ (List.mem_cons_of_mem _ wd_55)) (fun _ h9 => h9) rfl dX4_burdenOn_21 ?_
    refine lv_iload_n hx hb dX4_burdenOn_24 rfl (lv_at hl 0 rfl) ?_
    refine va_iald hx hb hE.1 hP 3 0 rfl rfl (vi_8 hc4) dX4_burdenOn_25 ?_
    refine lv_topi (fun v5 ev5 => ?_)
    refine lv_goto (tgt := 30) hx hb dX4_burdenOn_26 (by decide) ?_
    refine k_iret (u := [(oX4 x1 x0 s1 s2 (nI pn) si4 s5 s6 s7 s8 s9 s10 s11 si12 si13), (oX6 s1 w0 w1 w2 w3 w4 (nI wn) wi6 (nI lv) w8), (aIc cI w3 8 W3), (aIc cI s11 8 S11)]) hx hb hr hlk hP hD hS dX4_burdenOn_30 ?_
    exact rfl
theorem dX4_heightOf_0 : decode cX4_heightOf 0 = .ok (.aload_n 0, 1) := by decide +kernel
theorem dX4_heightOf_1 : decode cX4_heightOf 1 = .ok (.getfield 28, 3) := by decide +kernel
theorem dX4_heightOf_4 : decode cX4_heightOf 4 = .ok (.invokevirtual 153, 3) := by decide +kernel
theorem dX4_heightOf_7 : decode cX4_heightOf 7 = .ok (.iconst 0, 1) := by decide +kernel
theorem dX4_heightOf_8 : decode cX4_heightOf 8 = .ok (.istore_n 2, 1) := by decide +kernel
theorem dX4_heightOf_9 : decode cX4_heightOf 9 = .ok (.iload_n 2, 1) := by decide +kernel
theorem dX4_heightOf_10 : decode cX4_heightOf 10 = .ok (.bipush 8, 2) := by decide +kernel
theorem dX4_heightOf_12 : decode cX4_heightOf 12 = .ok (.if_icmp .ge 40, 3) := by decide +kernel
theorem dX4_heightOf_15 : decode cX4_heightOf 15 = .ok (.aload_n 0, 1) := by decide +kernel
theorem dX4_heightOf_16 : decode cX4_heightOf 16 = .ok (.getfield 21, 3) := by decide +kernel
theorem dX4_heightOf_19 : decode cX4_heightOf 19 = .ok (.getfield 147, 3) := by decide +kernel
theorem dX4_heightOf_22 : decode cX4_heightOf 22 = .ok (.iload_n 1, 1) := by decide +kernel
theorem dX4_heightOf_23 : decode cX4_heightOf 23 = .ok (.iaload, 1) := by decide +kernel
theorem dX4_heightOf_24 : decode cX4_heightOf 24 = .ok (.iload_n 2, 1) := by decide +kernel
theorem dX4_heightOf_25 : decode cX4_heightOf 25 = .ok (.invokestatic 113, 3) := by decide +kernel
theorem dX4_heightOf_28 : decode cX4_heightOf 28 = .ok (.ifCond .eq 18, 3) := by decide +kernel
theorem dX4_heightOf_31 : decode cX4_heightOf 31 = .ok (.aload_n 0, 1) := by decide +kernel
theorem dX4_heightOf_32 : decode cX4_heightOf 32 = .ok (.getfield 28, 3) := by decide +kernel
theorem dX4_heightOf_35 : decode cX4_heightOf 35 = .ok (.getfield 156, 3) := by decide +kernel
theorem dX4_heightOf_38 : decode cX4_heightOf 38 = .ok (.iload_n 2, 1) := by decide +kernel
theorem dX4_heightOf_39 : decode cX4_heightOf 39 = .ok (.aload_n 0, 1) := by decide +kernel
theorem dX4_heightOf_40 : decode cX4_heightOf 40 = .ok (.getfield 45, 3) := by decide +kernel
theorem dX4_heightOf_43 : decode cX4_heightOf 43 = .ok (.iload_n 2, 1) := by decide +kernel
theorem dX4_heightOf_44 : decode cX4_heightOf 44 = .ok (.iaload, 1) := by decide +kernel
theorem dX4_heightOf_45 : decode cX4_heightOf 45 = .ok (.iastore, 1) := by decide +kernel
theorem dX4_heightOf_46 : decode cX4_heightOf 46 = .ok (.iinc 2 1, 3) := by decide +kernel
theorem dX4_heightOf_49 : decode cX4_heightOf 49 = .ok (.goto (-40), 3) := by decide +kernel
theorem dX4_heightOf_52 : decode cX4_heightOf 52 = .ok (.aload_n 0, 1) := by decide +kernel
theorem dX4_heightOf_53 : decode cX4_heightOf 53 = .ok (.getfield 28, 3) := by decide +kernel
theorem dX4_heightOf_56 : decode cX4_heightOf 56 = .ok (.aload_n 0, 1) := by decide +kernel
theorem dX4_heightOf_57 : decode cX4_heightOf 57 = .ok (.getfield 51, 3) := by decide +kernel
theorem dX4_heightOf_60 : decode cX4_heightOf 60 = .ok (.iload_n 1, 1) := by decide +kernel
theorem dX4_heightOf_61 : decode cX4_heightOf 61 = .ok (.iaload, 1) := by decide +kernel
theorem dX4_heightOf_62 : decode cX4_heightOf 62 = .ok (.aload_n 0, 1) := by decide +kernel
theorem dX4_heightOf_63 : decode cX4_heightOf 63 = .ok (.getfield 28, 3) := by decide +kernel
theorem dX4_heightOf_66 : decode cX4_heightOf 66 = .ok (.invokevirtual 157, 3) := by decide +kernel
theorem dX4_heightOf_69 : decode cX4_heightOf 69 = .ok (.invokestatic 141, 3) := by decide +kernel
theorem dX4_heightOf_72 : decode cX4_heightOf 72 = .ok (.invokevirtual 176, 3) := by decide +kernel
theorem dX4_heightOf_75 : decode cX4_heightOf 75 = .ok (.ireturn, 1) := by decide +kernel
theorem gX4_heightOf_X2_capsTogether : GoodIn wtX4_heightOf (wsV RX4 157 RX2 yX2_capsTogether wtX2_capsTogether) := tb_good (tb_v0 wd_364 wd_365 wd_366 wd_47 wd_367)
theorem gX4_heightOf_X2_clear : GoodIn wtX4_heightOf (wsV RX4 153 RX2 yX2_clear wtX2_clear) := tb_good (tb_v0 wd_359 wd_360 wd_361 wd_47 wd_362)
theorem gX4_heightOf_X2_height : GoodIn wtX4_heightOf (wsV RX4 176 RX2 yX2_height wtX2_height) := tb_good (tb_v0 wd_667 wd_387 wd_388 wd_47 wd_389)
theorem gX4_heightOf_X7_has_n113 : GoodIn wtX4_heightOf (wtX7_has) := tb_good (tb_c0 wd_312)
set_option maxHeartbeats 4000000 in
set_option maxRecDepth 100000 in
theorem m_X4_heightOf (l : Launch) (D : va_G) (cI cJ : ClassId) (sz : Nat) (x1 x0 s1 s2 s5 s6 s7 s8 s9 s10 s11 w0 w1 w2 w3 w4 w8 d0 d1 d2 q0 wn lv pn : Nat) (si4 si12 si13 wi6 : Int32) (W4 S9 S11 D0 : Nat → Int32) (hq : q0 < 8) : Met l yX4_heightOf wtX4_heightOf { frames := 2, cells := 0, slots := 0, locals := 43 } (cPc D cI cJ [.ref x1, .int (nI q0)] sz [(oX4 x1 x0 s1 s2 (nI pn) si4 s5 s6 s7 s8 s9 s10 s11 si12 si13), (oX6 s1 w0 w1 w2 w3 w4 (nI wn) wi6 (nI lv) w8), (oX2 s2 d0 d1 d2), (aIc cI w4 8 W4), (aIc cI s9 8 S9), (aIc cI s11 8 S11), (aIc cI d0 8 D0)]) (cQi D (fun r u => ∃ (D0p : Nat → Int32), u = [(oX4 x1 x0 s1 s2 (nI pn) si4 s5 s6 s7 s8 s9 s10 s11 si12 si13), (oX6 s1 w0 w1 w2 w3 w4 (nI wn) wi6 (nI lv) w8), (oX2 s2 d0 d1 d2), (aIc cI w4 8 W4), (aIc cI s9 8 S9), (aIc cI s11 8 S11), (aIc cI d0 8 D0p)]) (va_A [(oX4 x1 x0 s1 s2 (nI pn) si4 s5 s6 s7 s8 s9 s10 s11 si12 si13), (oX6 s1 w0 w1 w2 w3 w4 (nI wn) wi6 (nI lv) w8), (oX2 s2 d0 d1 d2), (aIc cI w4 8 W4), (aIc cI s9 8 S9), (aIc cI s11 8 S11), (aIc cI d0 8 D0)] sz)) 0 0 (va_A [(oX4 x1 x0 s1 s2 (nI pn) si4 s5 s6 s7 s8 s9 s10 s11 si12 si13), (oX6 s1 w0 w1 w2 w3 w4 (nI wn) wi6 (nI lv) w8), (oX2 s2 d0 d1 d2), (aIc cI w4 8 W4), (aIc cI s9 8 S9), (aIc cI s11 8 S11), (aIc cI d0 8 D0)] sz) := by
  refine k_ofW (Qc := cQi D (fun r u => ∃ (D0p : Nat → Int32), u = [(oX4 x1 x0 s1 s2 (nI pn) si4 s5 s6 s7 s8 s9 s10 s11 si12 si13), (oX6 s1 w0 w1 w2 w3 w4 (nI wn) wi6 (nI lv) w8), (oX2 s2 d0 d1 d2), (aIc cI w4 8 W4), (aIc cI s9 8 S9), (aIc cI s11 8 S11), (aIc cI d0 8 D0p)])) (by decide) rfl (Nat.le_of_ble_eq_true rfl) ?_
  intro p e s m below meth c A ls hx hb hr hml hts hown hlk hnm hsz hE hP hD hS hA hl
  have hown : s.vm.findClass RX4 = some m.cls := hown
  have hiX4 : ∀ w ∈ u_ws RX4 TX4 14, w ∈ wtX4_heightOf := fun w h => List.mem_cons_of_mem _ (iuX4 w h)
  have hiX6 : ∀ w ∈ u_ws RX6 TX6 9, w ∈ wtX4_heightOf := fun w h => List.mem_cons_of_mem _ (iuX6 w h)
  have hiX2 : ∀ w ∈ u_ws RX2 TX2 3, w ∈ wtX4_heightOf := fun w h => List.mem_cons_of_mem _ (iuX2 w h)
  have hl : lv_has ls 3 [(0, .ref x1), (1, .int (nI q0))] := hl
  refine lv_aload_n hx hb dX4_heightOf_0 rfl (lv_at hl 0 rfl) ?_
  refine va_get (D := D) (ci := 4) (v := .ref s2) (C := RX4) (T := TX4) (N := 14) hx hb hts hiX4 hown hE.1 hP 0 rfl rfl 2 (by decide) (hts _ (List.mem_cons_of_mem _ wd_48)) (fun _ h9 => h9) rfl dX4_heightOf_1 ?_
  refine k_v (va_runV (As := []) (rest := []) ⟨hx, hb, hml, hown, hts⟩ (m_X2_clear l D cI cJ (s.heap).size s2 d0 d1 d2 D0) (cwV 0 hts gX4_heightOf_X2_clear rfl rfl rfl (by decide +kernel) ⟨Nat.le_of_ble_eq_true rfl, Nat.le_of_ble_eq_true rfl⟩) (k_preV hE hP hD [2, 6] (by decide +kernel) rfl 2 rfl rfl) rfl rfl hl.1 rfl (lv_room (Nat.le_of_ble_eq_true rfl)) dX4_heightOf_4 ⟨Nat.le_of_ble_eq_true rfl, Nat.le_of_ble_eq_true rfl⟩) hP hD hS hA [2, 6] [0, 1, 3, 4, 5] rfl (wr := [(oX4 x1 x0 s1 s2 (nI pn) si4 s5 s6 s7 s8 s9 s10 s11 si12 si13), (oX6 s1 w0 w1 w2 w3 w4 (nI wn) wi6 (nI lv) w8), (aIc cI w4 8 W4), (aIc cI s9 8 S9), (aIc cI s11 8 S11)]) rfl (by decide +kernel) (by decide +kernel) (fun u H locs hw1 hP hD hS => ?_)
  obtain ⟨z2, rfl⟩ := hw1
  refine k_re (w := [(oX4 x1 x0 s1 s2 (nI pn) si4 s5 s6 s7 s8 s9 s10 s11 si12 si13), (oX6 s1 w0 w1 w2 w3 w4 (nI wn) wi6 (nI lv) w8), (aIc cI w4 8 W4), (aIc cI s9 8 S9), (aIc cI s11 8 S11), (oX2 s2 d0 d1 d2), (aIc cI d0 8 z2)]) hP hD (fun hP hD => ?_)
  refine lv_iconst (v := 0) hx hb dX4_heightOf_7 (by decide) ?_
  refine lv_istore_n (lv' := [(2, .int 0), (0, .ref x1), (1, .int (nI q0))]) hx hb dX4_heightOf_8 rfl hl (by decide) rfl (fun ls hl => ?_)
  have J9 : ∀ (zz : Nat) (i9 : Nat) (a_d0_9 : Nat → Int32), (i9 ≤ 8) → (8 - i9) < zz → ∀ (H : Heap) (locs : List Loc) (ls : Array Slot), va_P D vwCl [(oX4 x1 x0 s1 s2 (nI pn) si4 s5 s6 s7 s8 s9 s10 s11 si12 si13), (oX6 s1 w0 w1 w2 w3 w4 (nI wn) wi6 (nI lv) w8), (aIc cI w4 8 W4), (aIc cI s9 8 S9), (aIc cI s11 8 S11), (oX2 s2 d0 d1 d2), (aIc cI d0 8 a_d0_9)] H → va_D A [(oX4 x1 x0 s1 s2 (nI pn) si4 s5 s6 s7 s8 s9 s10 s11 si12 si13), (oX6 s1 w0 w1 w2 w3 w4 (nI wn) wi6 (nI lv) w8), (aIc cI w4 8 W4), (aIc cI s9 8 S9), (aIc cI s11 8 S11), (oX2 s2 d0 d1 d2), (aIc cI d0 8 a_d0_9)] → va_S A s.heap H locs → lv_has ls 3 [(2, .int (nI i9)), (0, .ref x1), (1, .int (nI q0))] → W p l e { frames := 2, cells := 0, slots := 0, locals := 43 } s m [.ref x1, .int (nI q0)].toArray below meth c H locs 0 0 (MQ below (cQi D (fun r u => ∃ (D0p : Nat → Int32), u = [(oX4 x1 x0 s1 s2 (nI pn) si4 s5 s6 s7 s8 s9 s10 s11 si12 si13), (oX6 s1 w0 w1 w2 w3 w4 (nI wn) wi6 (nI lv) w8), (oX2 s2 d0 d1 d2), (aIc cI w4 8 W4), (aIc cI s9 8 S9), (aIc cI s11 8 S11), (aIc cI d0 8 D0p)]) A) [.ref x1, .int (nI q0)].toArray s 0 0 A) (F0 m 9 ls []) := by
    intro zz
    induction zz with
    | zero => intro i9 a_d0_9 _; exact fun h => absurd h (Nat.not_lt_zero _)
    | succ zz ih9 =>
      intro i9 a_d0_9 hc2_9 hmu9 H locs ls hP hD hS hl
      refine lv_iload_n hx hb dX4_heightOf_9 rfl (lv_at hl 0 rfl) ?_
      refine lv_bipush (v := 8) hx hb dX4_heightOf_10 (by decide) ?_
      refine lv_icmp_ge (tgt := 52) hx hb dX4_heightOf_12 (by decide) (fun c3 => ?_) (fun c3 => ?_)
      · skip
        have nc3 : 8 ≤ i9 := (nI_leI (a := 8) (b := i9) (by omega) (by omega)).mp c3
        refine lv_aload_n hx hb dX4_heightOf_52 rfl (lv_at hl 1 rfl) ?_
        refine va_get (D := D) (ci := 4) (v := .ref s2) (C := RX4) (T := TX4) (N := 14) hx hb hts hiX4 hown hE.1 hP 0 rfl rfl 2 (by decide) (hts _ (List.mem_cons_of_mem _ wd_48)) (fun _ h9 => h9) rfl dX4_heightOf_53 ?_
        refine lv_aload_n hx hb dX4_heightOf_56 rfl (lv_at hl 1 rfl) ?_
        refine va_get (D := D) (ci := 4) (v := .ref s11) (C := RX4) (T := TX4) (N := 14) hx hb hts hiX4 hown hE.1 hP 0 rfl rfl 11 (by decide) (hts _ (List.mem_cons_of_mem _ wd_55)) (fun _ h9 => h9) rfl dX4_heightOf_57 ?_
        refine lv_iload_n hx hb dX4_heightOf_60 rfl (lv_at hl 2 rfl) ?_
        refine va_iald hx hb hE.1 hP 4 0 rfl rfl (vp_in_nI (n := q0) (by omega) (by decide)) dX4_heightOf_61 ?_
        refine lv_topi (fun v4 ev4 => ?_)
        refine lv_aload_n hx hb dX4_heightOf_62 rfl (lv_at hl 1 rfl) ?_
        refine va_get (D := D) (ci := 4) (v := .ref s2) (C := RX4) (T := TX4) (N := 14) hx hb hts hiX4 hown hE.1 hP 0 rfl rfl 2 (by decide) (hts _ (List.mem_cons_of_mem _ wd_48)) (fun _ h9 => h9) rfl dX4_heightOf_63 ?_
        refine k_iS (va_runV (As := []) (rest := [.int v4, .ref s2]) ⟨hx, hb, hml, hown, hts⟩ (m_X2_capsTogether l D cI cJ H.size s2 d0 d1 d2 a_d0_9) (cwV 0 hts gX4_heightOf_X2_capsTogether rfl rfl rfl (by decide +kernel) ⟨Nat.le_of_ble_eq_true rfl, Nat.le_of_ble_eq_true rfl⟩) (k_preV hE hP hD [5, 6] (by decide +kernel) rfl 5 rfl rfl) rfl rfl hl.1 rfl (lv_room (Nat.le_of_ble_eq_true rfl)) dX4_heightOf_66 ⟨Nat.le_of_ble_eq_true rfl, Nat.le_of_ble_eq_true rfl⟩) hP hD hS hA [5, 6] rfl (fun _ _ h9 => h9) (fun r5 H locs hw6 hP hD hS => ?_)
        refine va_mmin hx hb (by rw [hml]; exact hl.1.symm) hown (hts _ (List.mem_cons_of_mem _ wd_326)) (hts _ (List.mem_cons_of_mem _ wd_327)) (hts _ (List.mem_cons_of_mem _ wd_324)) (hts _ (List.mem_cons_of_mem _ wd_328)) (Nat.le_of_ble_eq_true rfl) (Nat.le_of_ble_eq_true rfl) (Nat.le_of_ble_eq_true rfl) (Nat.le_of_ble_eq_true rfl) dX4_heightOf_69 ?_
        refine lv_topi (fun v7 ev7 => ?_)
        refine k_iS (va_runV (As := [.int v7]) (rest := []) ⟨hx, hb, hml, hown, hts⟩ (m_X2_height l D cI cJ H.size s2 d0 d1 d2 v7 a_d0_9) (cwV 1 hts gX4_heightOf_X2_height rfl rfl rfl (by decide +kernel) ⟨Nat.le_of_ble_eq_true rfl, Nat.le_of_ble_eq_true rfl⟩) (k_preV hE hP hD [5, 6] (by decide +kernel) rfl 5 rfl rfl) rfl rfl hl.1 rfl (lv_room (Nat.le_of_ble_eq_true rfl)) dX4_heightOf_72 ⟨Nat.le_of_ble_eq_true rfl, Nat.le_of_ble_eq_true rfl⟩) hP hD hS hA [5, 6] rfl (fun _ _ h9 => h9) (fun r8 H locs hw9 hP hD hS => ?_)
        refine k_iret (u := [(oX4 x1 x0 s1 s2 (nI pn) si4 s5 s6 s7 s8 s9 s10 s11 si12 si13), (oX6 s1 w0 w1 w2 w3 w4 (nI wn) wi6 (nI lv) w8), (oX2 s2 d0 d1 d2), (aIc cI w4 8 W4), (aIc cI s9 8 S9), (aIc cI s11 8 S11), (aIc cI d0 8 a_d0_9)]) hx hb hr hlk (k_sub hP [0, 1, 5, 2, 3, 4, 6] rfl) (hD.sub [0, 1, 5, 2, 3, 4, 6] (by decide +kernel) rfl) hS dX4_heightOf_75 ?_
        exact ⟨a_d0_9, rfl⟩
      · skip
        have nc3 : ¬ 8 ≤ i9 := fun q9 => c3 ((nI_leI (a := 8) (b := i9) (by omega) (by omega)).mpr q9)
        refine lv_aload_n hx hb dX4_heightOf_15 rfl (lv_at hl 1 rfl) ?_
        refine va_get (D := D) (ci := 4) (v := .ref s1) (C := RX4) (T := TX4) (N := 14) hx hb hts hiX4 hown hE.1 hP 0 rfl rfl 1 (by decide) (hts _ (List.mem_cons_of_mem _ wd_44)) (fun _ h9 => h9) rfl dX4_heightOf_16 ?_
        refine va_get (D := D) (ci := 6) (v := .ref w4) (C := RX6) (T := TX6) (N := 9) hx hb hts hiX6 hown hE.1 hP 1 rfl rfl 4 (by decide) (hts _ (List.mem_cons_of_mem _ wd_354)) (fun _ h9 => h9) rfl dX4_heightOf_19 ?_
        refine lv_iload_n hx hb dX4_heightOf_22 rfl (lv_at hl 2 rfl) ?_
        refine va_iald hx hb hE.1 hP 2 0 rfl rfl (vp_in_nI (n := q0) (by omega) (by decide)) dX4_heightOf_23 ?_
        refine lv_topi (fun v10 ev10 => ?_)
        refine lv_iload_n hx hb dX4_heightOf_24 rfl (lv_at hl 0 rfl) ?_
        refine k_iS (va_runSN (As := [.int v10, .int (nI i9)]) (rest := []) ⟨hx, hb, hml, hown, hts⟩ (m_X7_has l D cI cJ H.size v10 (nI i9)) ⟨va_cnB 2 hts gX4_heightOf_X7_has_n113 rfl rfl rfl (nwk5 hE.2) (hts _ (List.mem_cons_of_mem _ wd_2)) (by decide +kernel) ⟨Nat.le_of_ble_eq_true rfl, Nat.le_of_ble_eq_true rfl⟩, (hts _ (List.mem_cons_of_mem _ wd_311)), trivial⟩ (k_pre hE hP hD [] (by decide +kernel) rfl) rfl rfl hl.1 rfl (lv_room (Nat.le_of_ble_eq_true rfl)) dX4_heightOf_25 ⟨Nat.le_of_ble_eq_true rfl, Nat.le_of_ble_eq_true rfl⟩) hP hD hS hA [] rfl (fun _ _ h9 => h9.2) (fun r11 H locs hw12 hP hD hS => ?_)
        obtain ⟨hw12, -⟩ := hw12
        refine lv_if_eq (tgt := 46) hx hb dX4_heightOf_28 (by decide) (fun c13 => ?_) (fun c13 => ?_)
        · skip
          have hc13 : ¬ (¬ (v10 >>> ((nI i9) &&& 31)) &&& 1 = 0) := bz_0 hw12 c13
          refine lv_iinc (v := (nI (i9 + 1))) (lv' := [(2, .int (nI (i9 + 1))), (0, .ref x1), (1, .int (nI q0))]) hx hb dX4_heightOf_46 hl (k := 0) rfl (nI_1 _) (by decide) rfl (fun ls hl => ?_)
          refine lv_goto (tgt := 9) hx hb dX4_heightOf_49 (by decide) ?_
          exact ih9 (i9 + 1) a_d0_9 (by omega) (by omega) _ _ _ hP hD hS (lv_sub hl [0, 1, 2] rfl)
        · skip
          have hc13 : ¬ (v10 >>> ((nI i9) &&& 31)) &&& 1 = 0 := bz_1 hw12 c13
          refine lv_aload_n hx hb dX4_heightOf_31 rfl (lv_at hl 1 rfl) ?_
          refine va_get (D := D) (ci := 4) (v := .ref s2) (C := RX4) (T := TX4) (N := 14) hx hb hts hiX4 hown hE.1 hP 0 rfl rfl 2 (by decide) (hts _ (List.mem_cons_of_mem _ wd_48)) (fun _ h9 => h9) rfl dX4_heightOf_32 ?_
          refine va_get (D := D) (ci := 2) (v := .ref d0) (C := RX2) (T := TX2) (N := 3) hx hb hts hiX2 hown hE.1 hP 5 rfl rfl 0 (by decide) (hts _ (List.mem_cons_of_mem _ wd_356)) (fun _ h9 => h9) rfl dX4_heightOf_35 ?_
          refine lv_iload_n hx hb dX4_heightOf_38 rfl (lv_at hl 0 rfl) ?_
          refine lv_aload_n hx hb dX4_heightOf_39 rfl (lv_at hl 1 rfl) ?_
          refine va_get (D := D) (ci := 4) (v := .ref s9) (C := RX4) (T := TX4) (N := 14) hx hb hts hiX4 hown hE.1 hP 0 rfl rfl 9 (by decide) (hts _ (List.mem_cons_of_mem _ wd_53)) (fun _ h9 => h9) rfl dX4_heightOf_40 ?_
          refine lv_iload_n hx hb dX4_heightOf_43 rfl (lv_at hl 0 rfl) ?_
          refine va_iald hx hb hE.1 hP 3 0 rfl rfl (vp_in_nI (n := i9) (by omega) (by decide)) dX4_heightOf_44 ?_
          refine lv_topi (fun v14 ev14 => ?_)
          refine va_iast hx hb hE.1 hP hD hS 6 0 rfl rfl (vp_in_nI (n := i9) (by omega) (by decide)) dX4_heightOf_45 (fun H locs hP hD hS => ?_)
          refine k_re (w := [(oX4 x1 x0 s1 s2 (nI pn) si4 s5 s6 s7 s8 s9 s10 s11 si12 si13), (oX6 s1 w0 w1 w2 w3 w4 (nI wn) wi6 (nI lv) w8), (aIc cI w4 8 W4), (aIc cI s9 8 S9), (aIc cI s11 8 S11), (oX2 s2 d0 d1 d2), (aIc cI d0 8 (upd a_d0_9 (Int32.toNatClampNeg (nI i9)) v14))]) hP hD (fun hP hD => ?_)
          refine lv_iinc (v := (nI (i9 + 1))) (lv' := [(2, .int (nI (i9 + 1))), (0, .ref x1), (1, .int (nI q0))]) hx hb dX4_heightOf_46 hl (k := 0) rfl (nI_1 _) (by decide) rfl (fun ls hl => ?_)
          refine lv_goto (tgt := 9) hx hb dX4_heightOf_49 (by decide) ?_
          exact ih9 (i9 + 1) (upd a_d0_9 (Int32.toNatClampNeg (nI i9)) v14) (by omega) (by omega) _ _ _ hP hD hS (lv_sub hl [0, 1, 2] rfl)
  exact J9 _ 0 z2 (by omega) (Nat.lt_succ_self _) _ _ _ hP hD hS (lv_sub hl [0, 1, 2] rfl)
theorem dX4_makeGood_0 : decode cX4_makeGood 0 = .ok (.iconst 0, 1) := by decide +kernel
theorem dX4_makeGood_1 : decode cX4_makeGood 1 = .ok (.istore_n 2, 1) := by decide +kernel
theorem dX4_makeGood_2 : decode cX4_makeGood 2 = .ok (.aload_n 0, 1) := by decide +kernel
theorem dX4_makeGood_3 : decode cX4_makeGood 3 = .ok (.getfield 28, 3) := by decide +kernel
theorem dX4_makeGood_6 : decode cX4_makeGood 6 = .ok (.invokevirtual 153, 3) := by decide +kernel
theorem dX4_makeGood_9 : decode cX4_makeGood 9 = .ok (.iconst 0, 1) := by decide +kernel
theorem dX4_makeGood_10 : decode cX4_makeGood 10 = .ok (.istore_n 3, 1) := by decide +kernel
theorem dX4_makeGood_11 : decode cX4_makeGood 11 = .ok (.iload_n 3, 1) := by decide +kernel
theorem dX4_makeGood_12 : decode cX4_makeGood 12 = .ok (.bipush 8, 2) := by decide +kernel
theorem dX4_makeGood_14 : decode cX4_makeGood 14 = .ok (.if_icmp .ge 63, 3) := by decide +kernel
theorem dX4_makeGood_17 : decode cX4_makeGood 17 = .ok (.iload_n 1, 1) := by decide +kernel
theorem dX4_makeGood_18 : decode cX4_makeGood 18 = .ok (.iload_n 3, 1) := by decide +kernel
theorem dX4_makeGood_19 : decode cX4_makeGood 19 = .ok (.invokestatic 113, 3) := by decide +kernel
theorem dX4_makeGood_22 : decode cX4_makeGood 22 = .ok (.ifCond .eq 15, 3) := by decide +kernel
theorem dX4_makeGood_25 : decode cX4_makeGood 25 = .ok (.iload_n 2, 1) := by decide +kernel
theorem dX4_makeGood_26 : decode cX4_makeGood 26 = .ok (.aload_n 0, 1) := by decide +kernel
theorem dX4_makeGood_27 : decode cX4_makeGood 27 = .ok (.getfield 48, 3) := by decide +kernel
theorem dX4_makeGood_30 : decode cX4_makeGood 30 = .ok (.iload_n 3, 1) := by decide +kernel
theorem dX4_makeGood_31 : decode cX4_makeGood 31 = .ok (.iaload, 1) := by decide +kernel
theorem dX4_makeGood_32 : decode cX4_makeGood 32 = .ok (.iadd, 1) := by decide +kernel
theorem dX4_makeGood_33 : decode cX4_makeGood 33 = .ok (.istore_n 2, 1) := by decide +kernel
theorem dX4_makeGood_34 : decode cX4_makeGood 34 = .ok (.goto 37, 3) := by decide +kernel
theorem dX4_makeGood_37 : decode cX4_makeGood 37 = .ok (.aload_n 0, 1) := by decide +kernel
theorem dX4_makeGood_38 : decode cX4_makeGood 38 = .ok (.getfield 12, 3) := by decide +kernel
theorem dX4_makeGood_41 : decode cX4_makeGood 41 = .ok (.getfield 66, 3) := by decide +kernel
theorem dX4_makeGood_44 : decode cX4_makeGood 44 = .ok (.iload_n 3, 1) := by decide +kernel
theorem dX4_makeGood_45 : decode cX4_makeGood 45 = .ok (.iaload, 1) := by decide +kernel
theorem dX4_makeGood_46 : decode cX4_makeGood 46 = .ok (.ifCond .ne 25, 3) := by decide +kernel
theorem dX4_makeGood_49 : decode cX4_makeGood 49 = .ok (.aload_n 0, 1) := by decide +kernel
theorem dX4_makeGood_50 : decode cX4_makeGood 50 = .ok (.getfield 28, 3) := by decide +kernel
theorem dX4_makeGood_53 : decode cX4_makeGood 53 = .ok (.getfield 156, 3) := by decide +kernel
theorem dX4_makeGood_56 : decode cX4_makeGood 56 = .ok (.iload_n 3, 1) := by decide +kernel
theorem dX4_makeGood_57 : decode cX4_makeGood 57 = .ok (.aload_n 0, 1) := by decide +kernel
theorem dX4_makeGood_58 : decode cX4_makeGood 58 = .ok (.getfield 42, 3) := by decide +kernel
theorem dX4_makeGood_61 : decode cX4_makeGood 61 = .ok (.iload_n 3, 1) := by decide +kernel
theorem dX4_makeGood_62 : decode cX4_makeGood 62 = .ok (.iaload, 1) := by decide +kernel
theorem dX4_makeGood_63 : decode cX4_makeGood 63 = .ok (.aload_n 0, 1) := by decide +kernel
theorem dX4_makeGood_64 : decode cX4_makeGood 64 = .ok (.getfield 48, 3) := by decide +kernel
theorem dX4_makeGood_67 : decode cX4_makeGood 67 = .ok (.iload_n 3, 1) := by decide +kernel
theorem dX4_makeGood_68 : decode cX4_makeGood 68 = .ok (.iaload, 1) := by decide +kernel
theorem dX4_makeGood_69 : decode cX4_makeGood 69 = .ok (.isub, 1) := by decide +kernel
theorem dX4_makeGood_70 : decode cX4_makeGood 70 = .ok (.iastore, 1) := by decide +kernel
theorem dX4_makeGood_71 : decode cX4_makeGood 71 = .ok (.iinc 3 1, 3) := by decide +kernel
theorem dX4_makeGood_74 : decode cX4_makeGood 74 = .ok (.goto (-63), 3) := by decide +kernel
theorem dX4_makeGood_77 : decode cX4_makeGood 77 = .ok (.iload_n 2, 1) := by decide +kernel
theorem dX4_makeGood_78 : decode cX4_makeGood 78 = .ok (.aload_n 0, 1) := by decide +kernel
theorem dX4_makeGood_79 : decode cX4_makeGood 79 = .ok (.getfield 28, 3) := by decide +kernel
theorem dX4_makeGood_82 : decode cX4_makeGood 82 = .ok (.invokevirtual 157, 3) := by decide +kernel
theorem dX4_makeGood_85 : decode cX4_makeGood 85 = .ok (.invokestatic 141, 3) := by decide +kernel
theorem dX4_makeGood_88 : decode cX4_makeGood 88 = .ok (.istore_n 3, 1) := by decide +kernel
theorem dX4_makeGood_89 : decode cX4_makeGood 89 = .ok (.aload_n 0, 1) := by decide +kernel
theorem dX4_makeGood_90 : decode cX4_makeGood 90 = .ok (.getfield 28, 3) := by decide +kernel
theorem dX4_makeGood_93 : decode cX4_makeGood 93 = .ok (.aload_n 0, 1) := by decide +kernel
theorem dX4_makeGood_94 : decode cX4_makeGood 94 = .ok (.getfield 65, 3) := by decide +kernel
theorem dX4_makeGood_97 : decode cX4_makeGood 97 = .ok (.iload_n 3, 1) := by decide +kernel
theorem dX4_makeGood_98 : decode cX4_makeGood 98 = .ok (.invokevirtual 160, 3) := by decide +kernel
theorem dX4_makeGood_101 : decode cX4_makeGood 101 = .ok (.iload_n 2, 1) := by decide +kernel
theorem dX4_makeGood_102 : decode cX4_makeGood 102 = .ok (.iload_n 3, 1) := by decide +kernel
theorem dX4_makeGood_103 : decode cX4_makeGood 103 = .ok (.isub, 1) := by decide +kernel
theorem dX4_makeGood_104 : decode cX4_makeGood 104 = .ok (.ireturn, 1) := by decide +kernel
theorem gX4_makeGood_X2_capsTogether : GoodIn wtX4_makeGood (wsV RX4 157 RX2 yX2_capsTogether wtX2_capsTogether) := tb_good (tb_v0 wd_364 wd_365 wd_366 wd_47 wd_367)
theorem gX4_makeGood_X2_clear : GoodIn wtX4_makeGood (wsV RX4 153 RX2 yX2_clear wtX2_clear) := tb_good (tb_v0 wd_359 wd_360 wd_361 wd_47 wd_362)
theorem gX4_makeGood_X2_divide : GoodIn wtX4_makeGood (wsV RX4 160 RX2 yX2_divide wtX2_divide) := tb_good (tb_v0 wd_368 wd_369 wd_370 wd_47 wd_371)
theorem gX4_makeGood_X7_has_n113 : GoodIn wtX4_makeGood (wtX7_has) := tb_good (tb_c0 wd_312)
set_option maxHeartbeats 4000000 in
set_option maxRecDepth 100000 in
theorem m_X4_makeGood (l : Launch) (D : va_G) (cI cJ : ClassId) (sz : Nat) (x1 x0 s1 s2 s5 s6 s7 s8 s9 s10 s11 b0 b1 b2 b3 b4 b5 b6 b7 b8 b9 b10 b11 d0 d1 d2 np nl pn : Nat) (si4 si12 si13 bi14 k0 : Int32) (B5 S8 S10 D0 D1 : Nat → Int32) (D2 : Nat → Int64) : Met l yX4_makeGood wtX4_makeGood { frames := 3, cells := 0, slots := 0, locals := 75 } (cPc D cI cJ [.ref x1, .int k0] sz [(oX4 x1 x0 s1 s2 (nI pn) si4 s5 s6 s7 s8 s9 s10 s11 si12 si13), (oX0 x0 b0 b1 b2 b3 b4 b5 b6 b7 b8 b9 b10 b11 (nI np) (nI nl) bi14), (oX2 s2 d0 d1 d2), (aIc cI b5 8 B5), (aIc cI s8 8 S8), (aIc cI s10 8 S10), (aIc cI d0 8 D0), (aIc cI d1 8 D1), (aJc cJ d2 8 D2)]) (cQi D (fun r u => ∃ (D0p D1p : Nat → Int32) (D2p : Nat → Int64), u = [(oX4 x1 x0 s1 s2 (nI pn) si4 s5 s6 s7 s8 s9 s10 s11 si12 si13), (oX0 x0 b0 b1 b2 b3 b4 b5 b6 b7 b8 b9 b10 b11 (nI np) (nI nl) bi14), (oX2 s2 d0 d1 d2), (aIc cI b5 8 B5), (aIc cI s8 8 S8), (aIc cI s10 8 S10), (aIc cI d0 8 D0p), (aIc cI d1 8 D1p), (aJc cJ d2 8 D2p)]) (va_A [(oX4 x1 x0 s1 s2 (nI pn) si4 s5 s6 s7 s8 s9 s10 s11 si12 si13), (oX0 x0 b0 b1 b2 b3 b4 b5 b6 b7 b8 b9 b10 b11 (nI np) (nI nl) bi14), (oX2 s2 d0 d1 d2), (aIc cI b5 8 B5), (aIc cI s8 8 S8), (aIc cI s10 8 S10), (aIc cI d0 8 D0), (aIc cI d1 8 D1), (aJc cJ d2 8 D2)] sz)) 0 0 (va_A [(oX4 x1 x0 s1 s2 (nI pn) si4 s5 s6 s7 s8 s9 s10 s11 si12 si13), (oX0 x0 b0 b1 b2 b3 b4 b5 b6 b7 b8 b9 b10 b11 (nI np) (nI nl) bi14), (oX2 s2 d0 d1 d2), (aIc cI b5 8 B5), (aIc cI s8 8 S8), (aIc cI s10 8 S10), (aIc cI d0 8 D0), (aIc cI d1 8 D1), (aJc cJ d2 8 D2)] sz) := by
  refine k_ofW (Qc := cQi D (fun r u => ∃ (D0p D1p : Nat → Int32) (D2p : Nat → Int64), u = [(oX4 x1 x0 s1 s2 (nI pn) si4 s5 s6 s7 s8 s9 s10 s11 si12 si13), (oX0 x0 b0 b1 b2 b3 b4 b5 b6 b7 b8 b9 b10 b11 (nI np) (nI nl) bi14), (oX2 s2 d0 d1 d2), (aIc cI b5 8 B5), (aIc cI s8 8 S8), (aIc cI s10 8 S10), (aIc cI d0 8 D0p), (aIc cI d1 8 D1p), (aJc cJ d2 8 D2p)])) (by decide) rfl (Nat.le_of_ble_eq_true rfl) ?_
  intro p e s m below meth c A ls hx hb hr hml hts hown hlk hnm hsz hE hP hD hS hA hl
  have hown : s.vm.findClass RX4 = some m.cls := hown
  have hiX4 : ∀ w ∈ u_ws RX4 TX4 14, w ∈ wtX4_makeGood := fun w h => List.mem_cons_of_mem _ (iuX4 w h)
  have hiX0 : ∀ w ∈ u_ws RX0 TX0 15, w ∈ wtX4_makeGood := fun w h => List.mem_cons_of_mem _ (iuX0 w h)
  have hiX2 : ∀ w ∈ u_ws RX2 TX2 3, w ∈ wtX4_makeGood := fun w h => List.mem_cons_of_mem _ (iuX2 w h)
  have hl : lv_has ls 4 [(0, .ref x1), (1, .int k0)] := hl
  refine lv_iconst (v := 0) hx hb dX4_makeGood_0 (by decide) ?_
  refine lv_istore_n (lv' := [(2, .int 0), (0, .ref x1), (1, .int k0)]) hx hb dX4_makeGood_1 rfl hl (by decide) rfl (fun ls hl => ?_)
  refine lv_aload_n hx hb dX4_makeGood_2 rfl (lv_at hl 1 rfl) ?_
  refine va_get (D := D) (ci := 4) (v := .ref s2) (C := RX4) (T := TX4) (N := 14) hx hb hts hiX4 hown hE.1 hP 0 rfl rfl 2 (by decide) (hts _ (List.mem_cons_of_mem _ wd_48)) (fun _ h9 => h9) rfl dX4_makeGood_3 ?_
  refine k_v (va_runV (As := []) (rest := []) ⟨hx, hb, hml, hown, hts⟩ (m_X2_clear l D cI cJ (s.heap).size s2 d0 d1 d2 D0) (cwV 0 hts gX4_makeGood_X2_clear rfl rfl rfl (by decide +kernel) ⟨Nat.le_of_ble_eq_true rfl, Nat.le_of_ble_eq_true rfl⟩) (k_preV hE hP hD [2, 6] (by decide +kernel) rfl 2 rfl rfl) rfl rfl hl.1 rfl (lv_room (Nat.le_of_ble_eq_true rfl)) dX4_makeGood_6 ⟨Nat.le_of_ble_eq_true rfl, Nat.le_of_ble_eq_true rfl⟩) hP hD hS hA [2, 6] [0, 1, 3, 4, 5, 7, 8] rfl (wr := [(oX4 x1 x0 s1 s2 (nI pn) si4 s5 s6 s7 s8 s9 s10 s11 si12 si13), (oX0 x0 b0 b1 b2 b3 b4 b5 b6 b7 b8 b9 b10 b11 (nI np) (nI nl) bi14), (aIc cI b5 8 B5), (aIc cI s8 8 S8), (aIc cI s10 8 S10), (aIc cI d1 8 D1), (aJc cJ d2 8 D2)]) rfl (by decide +kernel) (by decide +kernel) (fun u H locs hw1 hP hD hS => ?_)
  obtain ⟨z2, rfl⟩ := hw1
  refine k_re (w := [(oX4 x1 x0 s1 s2 (nI pn) si4 s5 s6 s7 s8 s9 s10 s11 si12 si13), (oX0 x0 b0 b1 b2 b3 b4 b5 b6 b7 b8 b9 b10 b11 (nI np) (nI nl) bi14), (aIc cI b5 8 B5), (aIc cI s8 8 S8), (aIc cI s10 8 S10), (aIc cI d1 8 D1), (aJc cJ d2 8 D2), (oX2 s2 d0 d1 d2), (aIc cI d0 8 z2)]) hP hD (fun hP hD => ?_)
  refine lv_iconst (v := 0) hx hb dX4_makeGood_9 (by decide) ?_
  refine lv_istore_n (lv' := [(3, .int 0), (2, .int 0), (0, .ref x1), (1, .int k0)]) hx hb dX4_makeGood_10 rfl hl (by decide) rfl (fun ls hl => ?_)
  have J11 : ∀ (zz : Nat) (i11 : Nat) (h2_11 : Int32) (a_d0_11 : Nat → Int32), (i11 ≤ 8) → (8 - i11) < zz → ∀ (H : Heap) (locs : List Loc) (ls : Array Slot), va_P D vwCl [(oX4 x1 x0 s1 s2 (nI pn) si4 s5 s6 s7 s8 s9 s10 s11 si12 si13), (oX0 x0 b0 b1 b2 b3 b4 b5 b6 b7 b8 b9 b10 b11 (nI np) (nI nl) bi14), (aIc cI b5 8 B5), (aIc cI s8 8 S8), (aIc cI s10 8 S10), (aIc cI d1 8 D1), (aJc cJ d2 8 D2), (oX2 s2 d0 d1 d2), (aIc cI d0 8 a_d0_11)] H → va_D A [(oX4 x1 x0 s1 s2 (nI pn) si4 s5 s6 s7 s8 s9 s10 s11 si12 si13), (oX0 x0 b0 b1 b2 b3 b4 b5 b6 b7 b8 b9 b10 b11 (nI np) (nI nl) bi14), (aIc cI b5 8 B5), (aIc cI s8 8 S8), (aIc cI s10 8 S10), (aIc cI d1 8 D1), (aJc cJ d2 8 D2), (oX2 s2 d0 d1 d2), (aIc cI d0 8 a_d0_11)] → va_S A s.heap H locs → lv_has ls 4 [(3, .int (nI i11)), (2, .int h2_11), (0, .ref x1), (1, .int k0)] → W p l e { frames := 3, cells := 0, slots := 0, locals := 75 } s m [.ref x1, .int k0].toArray below meth c H locs 0 0 (MQ below (cQi D (fun r u => ∃ (D0p D1p : Nat → Int32) (D2p : Nat → Int64), u = [(oX4 x1 x0 s1 s2 (nI pn) si4 s5 s6 s7 s8 s9 s10 s11 si12 si13), (oX0 x0 b0 b1 b2 b3 b4 b5 b6 b7 b8 b9 b10 b11 (nI np) (nI nl) bi14), (oX2 s2 d0 d1 d2), (aIc cI b5 8 B5), (aIc cI s8 8 S8), (aIc cI s10 8 S10), (aIc cI d0 8 D0p), (aIc cI d1 8 D1p), (aJc cJ d2 8 D2p)]) A) [.ref x1, .int k0].toArray s 0 0 A) (F0 m 11 ls []) := by
    intro zz
    induction zz with
    | zero => intro i11 h2_11 a_d0_11 _; exact fun h => absurd h (Nat.not_lt_zero _)
    | succ zz ih11 =>
      intro i11 h2_11 a_d0_11 hc3_11 hmu11 H locs ls hP hD hS hl
      refine lv_iload_n hx hb dX4_makeGood_11 rfl (lv_at hl 0 rfl) ?_
      refine lv_bipush (v := 8) hx hb dX4_makeGood_12 (by decide) ?_
      refine lv_icmp_ge (tgt := 77) hx hb dX4_makeGood_14 (by decide) (fun c3 => ?_) (fun c3 => ?_)
      · skip
        have nc3 : 8 ≤ i11 := (nI_leI (a := 8) (b := i11) (by omega) (by omega)).mp c3
        refine lv_iload_n hx hb dX4_makeGood_77 rfl (lv_at hl 1 rfl) ?_
        refine lv_aload_n hx hb dX4_makeGood_78 rfl (lv_at hl 2 rfl) ?_
        refine va_get (D := D) (ci := 4) (v := .ref s2) (C := RX4) (T := TX4) (N := 14) hx hb hts hiX4 hown hE.1 hP 0 rfl rfl 2 (by decide) (hts _ (List.mem_cons_of_mem _ wd_48)) (fun _ h9 => h9) rfl dX4_makeGood_79 ?_
        refine k_iS (va_runV (As := []) (rest := [.int h2_11]) ⟨hx, hb, hml, hown, hts⟩ (m_X2_capsTogether l D cI cJ H.size s2 d0 d1 d2 a_d0_11) (cwV 0 hts gX4_makeGood_X2_capsTogether rfl rfl rfl (by decide +kernel) ⟨Nat.le_of_ble_eq_true rfl, Nat.le_of_ble_eq_true rfl⟩) (k_preV hE hP hD [7, 8] (by decide +kernel) rfl 7 rfl rfl) rfl rfl hl.1 rfl (lv_room (Nat.le_of_ble_eq_true rfl)) dX4_makeGood_82 ⟨Nat.le_of_ble_eq_true rfl, Nat.le_of_ble_eq_true rfl⟩) hP hD hS hA [7, 8] rfl (fun _ _ h9 => h9) (fun r4 H locs hw5 hP hD hS => ?_)
        refine va_mmin hx hb (by rw [hml]; exact hl.1.symm) hown (hts _ (List.mem_cons_of_mem _ wd_326)) (hts _ (List.mem_cons_of_mem _ wd_327)) (hts _ (List.mem_cons_of_mem _ wd_324)) (hts _ (List.mem_cons_of_mem _ wd_328)) (Nat.le_of_ble_eq_true rfl) (Nat.le_of_ble_eq_true rfl) (Nat.le_of_ble_eq_true rfl) (Nat.le_of_ble_eq_true rfl) dX4_makeGood_85 ?_
        refine lv_topi (fun v6 ev6 => ?_)
        refine lv_istore_n (lv' := [(3, .int v6), (2, .int h2_11), (0, .ref x1), (1, .int k0)]) hx hb dX4_makeGood_88 rfl hl (by decide) rfl (fun ls hl => ?_)
        refine lv_aload_n hx hb dX4_makeGood_89 rfl (lv_at hl 2 rfl) ?_
        refine va_get (D := D) (ci := 4) (v := .ref s2) (C := RX4) (T := TX4) (N := 14) hx hb hts hiX4 hown hE.1 hP 0 rfl rfl 2 (by decide) (hts _ (List.mem_cons_of_mem _ wd_48)) (fun _ h9 => h9) rfl dX4_makeGood_90 ?_
        refine lv_aload_n hx hb dX4_makeGood_93 rfl (lv_at hl 2 rfl) ?_
        refine va_get (D := D) (ci := 4) (v := .int si4) (C := RX4) (T := TX4) (N := 14) hx hb hts hiX4 hown hE.1 hP 0 rfl rfl 4 (by decide) (hts _ (List.mem_cons_of_mem _ wd_285)) (fun _ h9 => h9) rfl dX4_makeGood_94 ?_
        refine lv_iload_n hx hb dX4_makeGood_97 rfl (lv_at hl 0 rfl) ?_
        refine k_v (va_runV (As := [.int si4, .int v6]) (rest := []) ⟨hx, hb, hml, hown, hts⟩ (m_X2_divide l D cI cJ H.size s2 d0 d1 d2 si4 v6 a_d0_11 D1 D2) (cwV 2 hts gX4_makeGood_X2_divide rfl rfl rfl (by decide +kernel) ⟨Nat.le_of_ble_eq_true rfl, Nat.le_of_ble_eq_true rfl⟩) (k_preV hE hP hD [7, 8, 5, 6] (by decide +kernel) rfl 7 rfl rfl) rfl rfl hl.1 rfl (lv_room (Nat.le_of_ble_eq_true rfl)) dX4_makeGood_98 ⟨Nat.le_of_ble_eq_true rfl, Nat.le_of_ble_eq_true rfl⟩) hP hD hS hA [7, 8, 5, 6] [0, 1, 2, 3, 4] rfl (wr := [(oX4 x1 x0 s1 s2 (nI pn) si4 s5 s6 s7 s8 s9 s10 s11 si12 si13), (oX0 x0 b0 b1 b2 b3 b4 b5 b6 b7 b8 b9 b10 b11 (nI np) (nI nl) bi14), (aIc cI b5 8 B5), (aIc cI s8 8 S8), (aIc cI s10 8 S10)]) rfl (by decide +kernel) (by decide +kernel) (fun u H locs hw7 hP hD hS => ?_)
        obtain ⟨z8, z9, rfl⟩ := hw7
        refine k_re (w := [(oX4 x1 x0 s1 s2 (nI pn) si4 s5 s6 s7 s8 s9 s10 s11 si12 si13), (oX0 x0 b0 b1 b2 b3 b4 b5 b6 b7 b8 b9 b10 b11 (nI np) (nI nl) bi14), (aIc cI b5 8 B5), (aIc cI s8 8 S8), (aIc cI s10 8 S10), (oX2 s2 d0 d1 d2), (aIc cI d0 8 a_d0_11), (aIc cI d1 8 z8), (aJc cJ d2 8 z9)]) hP hD (fun hP hD => ?_)
        refine lv_iload_n hx hb dX4_makeGood_101 rfl (lv_at hl 1 rfl) ?_
        refine lv_iload_n hx hb dX4_makeGood_102 rfl (lv_at hl 0 rfl) ?_
        refine lv_isub hx hb dX4_makeGood_103 ?_
        refine lv_topi (fun v10 ev10 => ?_)
        refine k_iret (u := [(oX4 x1 x0 s1 s2 (nI pn) si4 s5 s6 s7 s8 s9 s10 s11 si12 si13), (oX0 x0 b0 b1 b2 b3 b4 b5 b6 b7 b8 b9 b10 b11 (nI np) (nI nl) bi14), (oX2 s2 d0 d1 d2), (aIc cI b5 8 B5), (aIc cI s8 8 S8), (aIc cI s10 8 S10), (aIc cI d0 8 a_d0_11), (aIc cI d1 8 z8), (aJc cJ d2 8 z9)]) hx hb hr hlk (k_sub hP [0, 1, 5, 2, 3, 4, 6, 7, 8] rfl) (hD.sub [0, 1, 5, 2, 3, 4, 6, 7, 8] (by decide +kernel) rfl) hS dX4_makeGood_104 ?_
        exact ⟨a_d0_11, z8, z9, rfl⟩
      · skip
        have nc3 : ¬ 8 ≤ i11 := fun q9 => c3 ((nI_leI (a := 8) (b := i11) (by omega) (by omega)).mpr q9)
        refine lv_iload_n hx hb dX4_makeGood_17 rfl (lv_at hl 3 rfl) ?_
        refine lv_iload_n hx hb dX4_makeGood_18 rfl (lv_at hl 0 rfl) ?_
        refine k_iS (va_runSN (As := [.int k0, .int (nI i11)]) (rest := []) ⟨hx, hb, hml, hown, hts⟩ (m_X7_has l D cI cJ H.size k0 (nI i11)) ⟨va_cnB 2 hts gX4_makeGood_X7_has_n113 rfl rfl rfl (nwk5 hE.2) (hts _ (List.mem_cons_of_mem _ wd_2)) (by decide +kernel) ⟨Nat.le_of_ble_eq_true rfl, Nat.le_of_ble_eq_true rfl⟩, (hts _ (List.mem_cons_of_mem _ wd_311)), trivial⟩ (k_pre hE hP hD [] (by decide +kernel) rfl) rfl rfl hl.1 rfl (lv_room (Nat.le_of_ble_eq_true rfl)) dX4_makeGood_19 ⟨Nat.le_of_ble_eq_true rfl, Nat.le_of_ble_eq_true rfl⟩) hP hD hS hA [] rfl (fun _ _ h9 => h9.2) (fun r11 H locs hw12 hP hD hS => ?_)
        obtain ⟨hw12, -⟩ := hw12
        refine lv_if_eq (tgt := 37) hx hb dX4_makeGood_22 (by decide) (fun c13 => ?_) (fun c13 => ?_)
        · skip
          have hc13 : ¬ (¬ (k0 >>> ((nI i11) &&& 31)) &&& 1 = 0) := bz_0 hw12 c13
          refine lv_aload_n hx hb dX4_makeGood_37 rfl (lv_at hl 2 rfl) ?_
          refine va_get (D := D) (ci := 4) (v := .ref x0) (C := RX4) (T := TX4) (N := 14) hx hb hts hiX4 hown hE.1 hP 0 rfl rfl 0 (by decide) (hts _ (List.mem_cons_of_mem _ wd_40)) (fun _ h9 => h9) rfl dX4_makeGood_38 ?_
          refine va_get (D := D) (ci := 0) (v := .ref b5) (C := RX0) (T := TX0) (N := 15) hx hb hts hiX0 hown hE.1 hP 1 rfl rfl 5 (by decide) (hts _ (List.mem_cons_of_mem _ wd_286)) (fun _ h9 => h9) rfl dX4_makeGood_41 ?_
          refine lv_iload_n hx hb dX4_makeGood_44 rfl (lv_at hl 0 rfl) ?_
          refine va_iald hx hb hE.1 hP 2 0 rfl rfl (vp_in_nI (n := i11) (by omega) (by decide)) dX4_makeGood_45 ?_
          refine lv_topi (fun v14 ev14 => ?_)
          refine lv_if_ne (tgt := 71) hx hb dX4_makeGood_46 (by decide) (fun c15 => ?_) (fun c15 => ?_)
          · skip
            refine lv_iinc (v := (nI (i11 + 1))) (lv' := [(3, .int (nI (i11 + 1))), (2, .int h2_11), (0, .ref x1), (1, .int k0)]) hx hb dX4_makeGood_71 hl (k := 0) rfl (nI_1 _) (by decide) rfl (fun ls hl => ?_)
            refine lv_goto (tgt := 11) hx hb dX4_makeGood_74 (by decide) ?_
            exact ih11 (i11 + 1) h2_11 a_d0_11 (by omega) (by omega) _ _ _ hP hD hS (lv_sub hl [0, 1, 2, 3] rfl)
          · skip
            refine lv_aload_n hx hb dX4_makeGood_49 rfl (lv_at hl 2 rfl) ?_
            refine va_get (D := D) (ci := 4) (v := .ref s2) (C := RX4) (T := TX4) (N := 14) hx hb hts hiX4 hown hE.1 hP 0 rfl rfl 2 (by decide) (hts _ (List.mem_cons_of_mem _ wd_48)) (fun _ h9 => h9) rfl dX4_makeGood_50 ?_
            refine va_get (D := D) (ci := 2) (v := .ref d0) (C := RX2) (T := TX2) (N := 3) hx hb hts hiX2 hown hE.1 hP 7 rfl rfl 0 (by decide) (hts _ (List.mem_cons_of_mem _ wd_356)) (fun _ h9 => h9) rfl dX4_makeGood_53 ?_
            refine lv_iload_n hx hb dX4_makeGood_56 rfl (lv_at hl 0 rfl) ?_
            refine lv_aload_n hx hb dX4_makeGood_57 rfl (lv_at hl 2 rfl) ?_
            refine va_get (D := D) (ci := 4) (v := .ref s8) (C := RX4) (T := TX4) (N := 14) hx hb hts hiX4 hown hE.1 hP 0 rfl rfl 8 (by decide) (hts _ (List.mem_cons_of_mem _ wd_52)) (fun _ h9 => h9) rfl dX4_makeGood_58 ?_
            refine lv_iload_n hx hb dX4_makeGood_61 rfl (lv_at hl 0 rfl) ?_
            refine va_iald hx hb hE.1 hP 3 0 rfl rfl (vp_in_nI (n := i11) (by omega) (by decide)) dX4_makeGood_62 ?_
            refine lv_topi (fun v16 ev16 => ?_)
            refine lv_aload_n hx hb dX4_makeGood_63 rfl (lv_at hl 2 rfl) ?_
            refine va_get (D := D) (ci := 4) (v := .ref s10) (C := RX4) (T := TX4) (N := 14) hx hb hts hiX4 hown hE.1 hP 0 rfl rfl 10 (by decide) (hts _ (List.mem_cons_of_mem _ wd_54)) (fun _ h9 => h9) rfl dX4_makeGood_64 ?_
            refine lv_iload_n hx hb dX4_makeGood_67 rfl (lv_at hl 0 rfl) ?_
            refine va_iald hx hb hE.1 hP 4 0 rfl rfl (vp_in_nI (n := i11) (by omega) (by decide)) dX4_makeGood_68 ?_
            refine lv_topi (fun v17 ev17 => ?_)
            refine lv_isub hx hb dX4_makeGood_69 ?_
            refine lv_topi (fun v18 ev18 => ?_)
            refine va_iast hx hb hE.1 hP hD hS 8 0 rfl rfl (vp_in_nI (n := i11) (by omega) (by decide)) dX4_makeGood_70 (fun H locs hP hD hS => ?_)
            refine k_re (w := [(oX4 x1 x0 s1 s2 (nI pn) si4 s5 s6 s7 s8 s9 s10 s11 si12 si13), (oX0 x0 b0 b1 b2 b3 b4 b5 b6 b7 b8 b9 b10 b11 (nI np) (nI nl) bi14), (aIc cI b5 8 B5), (aIc cI s8 8 S8), (aIc cI s10 8 S10), (aIc cI d1 8 D1), (aJc cJ d2 8 D2), (oX2 s2 d0 d1 d2), (aIc cI d0 8 (upd a_d0_11 (Int32.toNatClampNeg (nI i11)) v18))]) hP hD (fun hP hD => ?_)
            refine lv_iinc (v := (nI (i11 + 1))) (lv' := [(3, .int (nI (i11 + 1))), (2, .int h2_11), (0, .ref x1), (1, .int k0)]) hx hb dX4_makeGood_71 hl (k := 0) rfl (nI_1 _) (by decide) rfl (fun ls hl => ?_)
            refine lv_goto (tgt := 11) hx hb dX4_makeGood_74 (by decide) ?_
            exact ih11 (i11 + 1) h2_11 (upd a_d0_11 (Int32.toNatClampNeg (nI i11)) v18) (by omega) (by omega) _ _ _ hP hD hS (lv_sub hl [0, 1, 2, 3] rfl)
        · skip
          have hc13 : ¬ (k0 >>> ((nI i11) &&& 31)) &&& 1 = 0 := bz_1 hw12 c13
          refine lv_iload_n hx hb dX4_makeGood_25 rfl (lv_at hl 1 rfl) ?_
          refine lv_aload_n hx hb dX4_makeGood_26 rfl (lv_at hl 2 rfl) ?_
          refine va_get (D := D) (ci := 4) (v := .ref s10) (C := RX4) (T := TX4) (N := 14) hx hb hts hiX4 hown hE.1 hP 0 rfl rfl 10 (by decide) (hts _ (List.mem_cons_of_mem _ wd_54)) (fun _ h9 => h9) rfl dX4_makeGood_27 ?_
          refine lv_iload_n hx hb dX4_makeGood_30 rfl (lv_at hl 0 rfl) ?_
          refine va_iald hx hb hE.1 hP 4 0 rfl rfl (vp_in_nI (n := i11) (by omega) (by decide)) dX4_makeGood_31 ?_
          refine lv_topi (fun v19 ev19 => ?_)
          refine lv_iadd hx hb dX4_makeGood_32 ?_
          refine lv_topi (fun v20 ev20 => ?_)
          refine lv_istore_n (lv' := [(2, .int v20), (3, .int (nI i11)), (0, .ref x1), (1, .int k0)]) hx hb dX4_makeGood_33 rfl hl (by decide) rfl (fun ls hl => ?_)
          refine lv_goto (tgt := 71) hx hb dX4_makeGood_34 (by decide) ?_
          refine lv_iinc (v := (nI (i11 + 1))) (lv' := [(3, .int (nI (i11 + 1))), (2, .int v20), (0, .ref x1), (1, .int k0)]) hx hb dX4_makeGood_71 hl (k := 1) rfl (nI_1 _) (by decide) rfl (fun ls hl => ?_)
          refine lv_goto (tgt := 11) hx hb dX4_makeGood_74 (by decide) ?_
          exact ih11 (i11 + 1) v20 a_d0_11 (by omega) (by omega) _ _ _ hP hD hS (lv_sub hl [0, 1, 2, 3] rfl)
  exact J11 _ 0 0 z2 (by omega) (Nat.lt_succ_self _) _ _ _ hP hD hS (lv_sub hl [0, 1, 2, 3] rfl)
theorem dX4_paidFirst_0 : decode cX4_paidFirst 0 = .ok (.aload_n 0, 1) := by decide +kernel
theorem dX4_paidFirst_1 : decode cX4_paidFirst 1 = .ok (.getfield 12, 3) := by decide +kernel
theorem dX4_paidFirst_4 : decode cX4_paidFirst 4 = .ok (.getfield 66, 3) := by decide +kernel
theorem dX4_paidFirst_7 : decode cX4_paidFirst 7 = .ok (.iload_n 1, 1) := by decide +kernel
theorem dX4_paidFirst_8 : decode cX4_paidFirst 8 = .ok (.iaload, 1) := by decide +kernel
theorem dX4_paidFirst_9 : decode cX4_paidFirst 9 = .ok (.ifCond .ne 12, 3) := by decide +kernel
theorem dX4_paidFirst_12 : decode cX4_paidFirst 12 = .ok (.aload_n 0, 1) := by decide +kernel
theorem dX4_paidFirst_13 : decode cX4_paidFirst 13 = .ok (.getfield 42, 3) := by decide +kernel
theorem dX4_paidFirst_16 : decode cX4_paidFirst 16 = .ok (.iload_n 1, 1) := by decide +kernel
theorem dX4_paidFirst_17 : decode cX4_paidFirst 17 = .ok (.iaload, 1) := by decide +kernel
theorem dX4_paidFirst_18 : decode cX4_paidFirst 18 = .ok (.goto 9, 3) := by decide +kernel
theorem dX4_paidFirst_21 : decode cX4_paidFirst 21 = .ok (.aload_n 0, 1) := by decide +kernel
theorem dX4_paidFirst_22 : decode cX4_paidFirst 22 = .ok (.getfield 48, 3) := by decide +kernel
theorem dX4_paidFirst_25 : decode cX4_paidFirst 25 = .ok (.iload_n 1, 1) := by decide +kernel
theorem dX4_paidFirst_26 : decode cX4_paidFirst 26 = .ok (.iaload, 1) := by decide +kernel
theorem dX4_paidFirst_27 : decode cX4_paidFirst 27 = .ok (.ireturn, 1) := by decide +kernel
set_option maxHeartbeats 4000000 in
set_option maxRecDepth 100000 in
theorem m_X4_paidFirst (l : Launch) (D : va_G) (cI cJ : ClassId) (sz : Nat) (x1 x0 s1 s2 s5 s6 s7 s8 s9 s10 s11 b0 b1 b2 b3 b4 b5 b6 b7 b8 b9 b10 b11 p0 np nl pn : Nat) (si4 si12 si13 bi14 : Int32) (B5 S8 S10 : Nat → Int32) (hp : p0 < 8) : Met l yX4_paidFirst wtX4_paidFirst { frames := 0, cells := 0, slots := 0, locals := 0 } (cPc D cI cJ [.ref x1, .int (nI p0)] sz [(oX4 x1 x0 s1 s2 (nI pn) si4 s5 s6 s7 s8 s9 s10 s11 si12 si13), (oX0 x0 b0 b1 b2 b3 b4 b5 b6 b7 b8 b9 b10 b11 (nI np) (nI nl) bi14), (aIc cI b5 8 B5), (aIc cI s8 8 S8), (aIc cI s10 8 S10)]) (cQi D (fun r u => u = [(oX4 x1 x0 s1 s2 (nI pn) si4 s5 s6 s7 s8 s9 s10 s11 si12 si13), (oX0 x0 b0 b1 b2 b3 b4 b5 b6 b7 b8 b9 b10 b11 (nI np) (nI nl) bi14), (aIc cI b5 8 B5), (aIc cI s8 8 S8), (aIc cI s10 8 S10)]) (va_A [(oX4 x1 x0 s1 s2 (nI pn) si4 s5 s6 s7 s8 s9 s10 s11 si12 si13), (oX0 x0 b0 b1 b2 b3 b4 b5 b6 b7 b8 b9 b10 b11 (nI np) (nI nl) bi14), (aIc cI b5 8 B5), (aIc cI s8 8 S8), (aIc cI s10 8 S10)] sz)) 0 0 (va_A [(oX4 x1 x0 s1 s2 (nI pn) si4 s5 s6 s7 s8 s9 s10 s11 si12 si13), (oX0 x0 b0 b1 b2 b3 b4 b5 b6 b7 b8 b9 b10 b11 (nI np) (nI nl) bi14), (aIc cI b5 8 B5), (aIc cI s8 8 S8), (aIc cI s10 8 S10)] sz) := by
  refine k_ofW (Qc := cQi D (fun r u => u = [(oX4 x1 x0 s1 s2 (nI pn) si4 s5 s6 s7 s8 s9 s10 s11 si12 si13), (oX0 x0 b0 b1 b2 b3 b4 b5 b6 b7 b8 b9 b10 b11 (nI np) (nI nl) bi14), (aIc cI b5 8 B5), (aIc cI s8 8 S8), (aIc cI s10 8 S10)])) (by decide) rfl (Nat.le_of_ble_eq_true rfl) ?_
  intro p e s m below meth c A ls hx hb hr hml hts hown hlk hnm hsz hE hP hD hS hA hl
  have hown : s.vm.findClass RX4 = some m.cls := hown
  have hiX4 : ∀ w ∈ u_ws RX4 TX4 14, w ∈ wtX4_paidFirst := fun w h => List.mem_cons_of_mem _ (iuX4 w h)
  have hiX0 : ∀ w ∈ u_ws RX0 TX0 15, w ∈ wtX4_paidFirst := fun w h => List.mem_cons_of_mem _ (iuX0 w h)
  have hl : lv_has ls 2 [(0, .ref x1), (1, .int (nI p0))] := hl
  refine lv_aload_n hx hb dX4_paidFirst_0 rfl (lv_at hl 0 rfl) ?_
  refine va_get (D := D) (ci := 4) (v := .ref x0) (C := RX4) (T := TX4) (N := 14) hx hb hts hiX4 hown hE.1 hP 0 rfl rfl 0 (by decide) (hts _ (List.mem_cons_of_mem _ wd_40)) (fun _ h9 => h9) rfl dX4_paidFirst_1 ?_
  refine va_get (D := D) (ci := 0) (v := .ref b5) (C := RX0) (T := TX0) (N := 15) hx hb hts hiX0 hown hE.1 hP 1 rfl rfl 5 (by decide) (hts _ (List.mem_cons_of_mem _ wd_286)) (fun _ h9 => h9) rfl dX4_paidFirst_4 ?_
  refine lv_iload_n hx hb dX4_paidFirst_7 rfl (lv_at hl 1 rfl) ?_
  refine va_iald hx hb hE.1 hP 2 0 rfl rfl (vp_in_nI (n := p0) (by omega) (by decide)) dX4_paidFirst_8 ?_
  refine lv_topi (fun v1 ev1 => ?_)
  refine lv_if_ne (tgt := 21) hx hb dX4_paidFirst_9 (by decide) (fun c2 => ?_) (fun c2 => ?_)
  · skip
    refine lv_aload_n hx hb dX4_paidFirst_21 rfl (lv_at hl 0 rfl) ?_
    refine va_get (D := D) (ci := 4) (v := .ref s10) (C := RX4) (T := TX4) (N := 14) hx hb hts hiX4 hown hE.1 hP 0 rfl rfl 10 (by decide) (hts _ (List.mem_cons_of_mem _ wd_54)) (fun _ h9 => h9) rfl dX4_paidFirst_22 ?_
    refine lv_iload_n hx hb dX4_paidFirst_25 rfl (lv_at hl 1 rfl) ?_
    refine va_iald hx hb hE.1 hP 4 0 rfl rfl (vp_in_nI (n := p0) (by omega) (by decide)) dX4_paidFirst_26 ?_
    refine lv_topi (fun v3 ev3 => ?_)
    refine k_iret (u := [(oX4 x1 x0 s1 s2 (nI pn) si4 s5 s6 s7 s8 s9 s10 s11 si12 si13), (oX0 x0 b0 b1 b2 b3 b4 b5 b6 b7 b8 b9 b10 b11 (nI np) (nI nl) bi14), (aIc cI b5 8 B5), (aIc cI s8 8 S8), (aIc cI s10 8 S10)]) hx hb hr hlk hP hD hS dX4_paidFirst_27 ?_
    exact rfl
  · skip
    refine lv_aload_n hx hb dX4_paidFirst_12 rfl (lv_at hl 0 rfl) ?_
    refine va_get (D := D) (ci := 4) (v := .ref s8) (C := RX4) (T := TX4) (N := 14) hx hb hts hiX4 hown hE.1 hP 0 rfl rfl 8 (by decide) (hts _ (List.mem_cons_of_mem _ wd_52)) (fun _ h9 => h9) rfl dX4_paidFirst_13 ?_
    refine lv_iload_n hx hb dX4_paidFirst_16 rfl (lv_at hl 1 rfl) ?_
    refine va_iald hx hb hE.1 hP 3 0 rfl rfl (vp_in_nI (n := p0) (by omega) (by decide)) dX4_paidFirst_17 ?_
    refine lv_topi (fun v4 ev4 => ?_)
    refine lv_goto (tgt := 27) hx hb dX4_paidFirst_18 (by decide) ?_
    refine k_iret (u := [(oX4 x1 x0 s1 s2 (nI pn) si4 s5 s6 s7 s8 s9 s10 s11 si12 si13), (oX0 x0 b0 b1 b2 b3 b4 b5 b6 b7 b8 b9 b10 b11 (nI np) (nI nl) bi14), (aIc cI b5 8 B5), (aIc cI s8 8 S8), (aIc cI s10 8 S10)]) hx hb hr hlk hP hD hS dX4_paidFirst_27 ?_
    exact rfl
theorem dX4_isEnough_0 : decode cX4_isEnough 0 = .ok (.iconst 0, 1) := by decide +kernel
theorem dX4_isEnough_1 : decode cX4_isEnough 1 = .ok (.istore_n 2, 1) := by decide +kernel
theorem dX4_isEnough_2 : decode cX4_isEnough 2 = .ok (.iconst 0, 1) := by decide +kernel
theorem dX4_isEnough_3 : decode cX4_isEnough 3 = .ok (.istore_n 3, 1) := by decide +kernel
theorem dX4_isEnough_4 : decode cX4_isEnough 4 = .ok (.iload_n 3, 1) := by decide +kernel
theorem dX4_isEnough_5 : decode cX4_isEnough 5 = .ok (.bipush 8, 2) := by decide +kernel
theorem dX4_isEnough_7 : decode cX4_isEnough 7 = .ok (.if_icmp .ge 25, 3) := by decide +kernel
theorem dX4_isEnough_10 : decode cX4_isEnough 10 = .ok (.iload_n 1, 1) := by decide +kernel
theorem dX4_isEnough_11 : decode cX4_isEnough 11 = .ok (.iload_n 3, 1) := by decide +kernel
theorem dX4_isEnough_12 : decode cX4_isEnough 12 = .ok (.invokestatic 113, 3) := by decide +kernel
theorem dX4_isEnough_15 : decode cX4_isEnough 15 = .ok (.ifCond .eq 11, 3) := by decide +kernel
theorem dX4_isEnough_18 : decode cX4_isEnough 18 = .ok (.iload_n 2, 1) := by decide +kernel
theorem dX4_isEnough_19 : decode cX4_isEnough 19 = .ok (.aload_n 0, 1) := by decide +kernel
theorem dX4_isEnough_20 : decode cX4_isEnough 20 = .ok (.iload_n 3, 1) := by decide +kernel
theorem dX4_isEnough_21 : decode cX4_isEnough 21 = .ok (.invokevirtual 189, 3) := by decide +kernel
theorem dX4_isEnough_24 : decode cX4_isEnough 24 = .ok (.iadd, 1) := by decide +kernel
theorem dX4_isEnough_25 : decode cX4_isEnough 25 = .ok (.istore_n 2, 1) := by decide +kernel
theorem dX4_isEnough_26 : decode cX4_isEnough 26 = .ok (.iinc 3 1, 3) := by decide +kernel
theorem dX4_isEnough_29 : decode cX4_isEnough 29 = .ok (.goto (-25), 3) := by decide +kernel
theorem dX4_isEnough_32 : decode cX4_isEnough 32 = .ok (.iload_n 2, 1) := by decide +kernel
theorem dX4_isEnough_33 : decode cX4_isEnough 33 = .ok (.aload_n 0, 1) := by decide +kernel
theorem dX4_isEnough_34 : decode cX4_isEnough 34 = .ok (.getfield 166, 3) := by decide +kernel
theorem dX4_isEnough_37 : decode cX4_isEnough 37 = .ok (.if_icmp .lt 7, 3) := by decide +kernel
theorem dX4_isEnough_40 : decode cX4_isEnough 40 = .ok (.iconst 1, 1) := by decide +kernel
theorem dX4_isEnough_41 : decode cX4_isEnough 41 = .ok (.goto 4, 3) := by decide +kernel
theorem dX4_isEnough_44 : decode cX4_isEnough 44 = .ok (.iconst 0, 1) := by decide +kernel
theorem dX4_isEnough_45 : decode cX4_isEnough 45 = .ok (.ireturn, 1) := by decide +kernel
theorem gX4_isEnough_X4_paidFirst : GoodIn wtX4_isEnough (wsV RX4 189 RX4 yX4_paidFirst wtX4_paidFirst) := tb_good (tb_v0 wd_918 wd_744 wd_745 wd_16 wd_746)
theorem gX4_isEnough_X7_has_n113 : GoodIn wtX4_isEnough (wtX7_has) := tb_good (tb_c0 wd_312)
set_option maxHeartbeats 4000000 in
set_option maxRecDepth 100000 in
theorem m_X4_isEnough (l : Launch) (D : va_G) (cI cJ : ClassId) (sz : Nat) (x1 x0 s1 s2 s5 s6 s7 s8 s9 s10 s11 b0 b1 b2 b3 b4 b5 b6 b7 b8 b9 b10 b11 np nl pn : Nat) (si4 si12 si13 bi14 k0 : Int32) (B5 S8 S10 : Nat → Int32) : Met l yX4_isEnough wtX4_isEnough { frames := 1, cells := 0, slots := 0, locals := 21 } (cPc D cI cJ [.ref x1, .int k0] sz [(oX4 x1 x0 s1 s2 (nI pn) si4 s5 s6 s7 s8 s9 s10 s11 si12 si13), (oX0 x0 b0 b1 b2 b3 b4 b5 b6 b7 b8 b9 b10 b11 (nI np) (nI nl) bi14), (aIc cI b5 8 B5), (aIc cI s8 8 S8), (aIc cI s10 8 S10)]) (cQi D (fun r u => (r = 0 ∨ r = 1) ∧ u = [(oX4 x1 x0 s1 s2 (nI pn) si4 s5 s6 s7 s8 s9 s10 s11 si12 si13), (oX0 x0 b0 b1 b2 b3 b4 b5 b6 b7 b8 b9 b10 b11 (nI np) (nI nl) bi14), (aIc cI b5 8 B5), (aIc cI s8 8 S8), (aIc cI s10 8 S10)]) (va_A [(oX4 x1 x0 s1 s2 (nI pn) si4 s5 s6 s7 s8 s9 s10 s11 si12 si13), (oX0 x0 b0 b1 b2 b3 b4 b5 b6 b7 b8 b9 b10 b11 (nI np) (nI nl) bi14), (aIc cI b5 8 B5), (aIc cI s8 8 S8), (aIc cI s10 8 S10)] sz)) 0 0 (va_A [(oX4 x1 x0 s1 s2 (nI pn) si4 s5 s6 s7 s8 s9 s10 s11 si12 si13), (oX0 x0 b0 b1 b2 b3 b4 b5 b6 b7 b8 b9 b10 b11 (nI np) (nI nl) bi14), (aIc cI b5 8 B5), (aIc cI s8 8 S8), (aIc cI s10 8 S10)] sz) := by
  refine k_ofW (Qc := cQi D (fun r u => (r = 0 ∨ r = 1) ∧ u = [(oX4 x1 x0 s1 s2 (nI pn) si4 s5 s6 s7 s8 s9 s10 s11 si12 si13), (oX0 x0 b0 b1 b2 b3 b4 b5 b6 b7 b8 b9 b10 b11 (nI np) (nI nl) bi14), (aIc cI b5 8 B5), (aIc cI s8 8 S8), (aIc cI s10 8 S10)])) (by decide) rfl (Nat.le_of_ble_eq_true rfl) ?_
  intro p e s m below meth c A ls hx hb hr hml hts hown hlk hnm hsz hE hP hD hS hA hl
  have hown : s.vm.findClass RX4 = some m.cls := hown
  have hiX4 : ∀ w ∈ u_ws RX4 TX4 14, w ∈ wtX4_isEnough := fun w h => List.mem_cons_of_mem _ (iuX4 w h)
  have hl : lv_has ls 4 [(0, .ref x1), (1, .int k0)] := hl
  refine lv_iconst (v := 0) hx hb dX4_isEnough_0 (by decide) ?_
  refine lv_istore_n (lv' := [(2, .int 0), (0, .ref x1), (1, .int k0)]) hx hb dX4_isEnough_1 rfl hl (by decide) rfl (fun ls hl => ?_)
  refine lv_iconst (v := 0) hx hb dX4_isEnough_2 (by decide) ?_
  refine lv_istore_n (lv' := [(3, .int 0), (2, .int 0), (0, .ref x1), (1, .int k0)]) hx hb dX4_isEnough_3 rfl hl (by decide) rfl (fun ls hl => ?_)
  have J4 : ∀ (zz : Nat) (i4 : Nat) (h2_4 : Int32), (i4 ≤ 8) → (8 - i4) < zz → ∀ (H : Heap) (locs : List Loc) (ls : Array Slot), va_P D vwCl [(oX4 x1 x0 s1 s2 (nI pn) si4 s5 s6 s7 s8 s9 s10 s11 si12 si13), (oX0 x0 b0 b1 b2 b3 b4 b5 b6 b7 b8 b9 b10 b11 (nI np) (nI nl) bi14), (aIc cI b5 8 B5), (aIc cI s8 8 S8), (aIc cI s10 8 S10)] H → va_D A [(oX4 x1 x0 s1 s2 (nI pn) si4 s5 s6 s7 s8 s9 s10 s11 si12 si13), (oX0 x0 b0 b1 b2 b3 b4 b5 b6 b7 b8 b9 b10 b11 (nI np) (nI nl) bi14), (aIc cI b5 8 B5), (aIc cI s8 8 S8), (aIc cI s10 8 S10)] → va_S A s.heap H locs → lv_has ls 4 [(3, .int (nI i4)), (2, .int h2_4), (0, .ref x1), (1, .int k0)] → W p l e { frames := 1, cells := 0, slots := 0, locals := 21 } s m [.ref x1, .int k0].toArray below meth c H locs 0 0 (MQ below (cQi D (fun r u => (r = 0 ∨ r = 1) ∧ u = [(oX4 x1 x0 s1 s2 (nI pn) si4 s5 s6 s7 s8 s9 s10 s11 si12 si13), (oX0 x0 b0 b1 b2 b3 b4 b5 b6 b7 b8 b9 b10 b11 (nI np) (nI nl) bi14), (aIc cI b5 8 B5), (aIc cI s8 8 S8), (aIc cI s10 8 S10)]) A) [.ref x1, .int k0].toArray s 0 0 A) (F0 m 4 ls []) := by
    intro zz
    induction zz with
    | zero => intro i4 h2_4 _; exact fun h => absurd h (Nat.not_lt_zero _)
    | succ zz ih4 =>
      intro i4 h2_4 hc3_4 hmu4 H locs ls hP hD hS hl
      refine lv_iload_n hx hb dX4_isEnough_4 rfl (lv_at hl 0 rfl) ?_
      refine lv_bipush (v := 8) hx hb dX4_isEnough_5 (by decide) ?_
      refine lv_icmp_ge (tgt := 32) hx hb dX4_isEnough_7 (by decide) (fun c1 => ?_) (fun c1 => ?_)
      · skip
        have nc1 : 8 ≤ i4 := (nI_leI (a := 8) (b := i4) (by omega) (by omega)).mp c1
        refine lv_iload_n hx hb dX4_isEnough_32 rfl (lv_at hl 1 rfl) ?_
        refine lv_aload_n hx hb dX4_isEnough_33 rfl (lv_at hl 2 rfl) ?_
        refine va_get (D := D) (ci := 4) (v := .int si12) (C := RX4) (T := TX4) (N := 14) hx hb hts hiX4 hown hE.1 hP 0 rfl rfl 12 (by decide) (hts _ (List.mem_cons_of_mem _ wd_358)) (fun _ h9 => h9) rfl dX4_isEnough_34 ?_
        refine lv_icmp_lt (tgt := 44) hx hb dX4_isEnough_37 (by decide) (fun c2 => ?_) (fun c2 => ?_)
        · skip
          refine lv_iconst (v := 0) hx hb dX4_isEnough_44 (by decide) ?_
          refine k_zret (u := [(oX4 x1 x0 s1 s2 (nI pn) si4 s5 s6 s7 s8 s9 s10 s11 si12 si13), (oX0 x0 b0 b1 b2 b3 b4 b5 b6 b7 b8 b9 b10 b11 (nI np) (nI nl) bi14), (aIc cI b5 8 B5), (aIc cI s8 8 S8), (aIc cI s10 8 S10)]) hx hb hr (by decide) hlk hP hD hS dX4_isEnough_45 ?_
          exact ⟨(by decide), rfl⟩
        · skip
          refine lv_iconst (v := 1) hx hb dX4_isEnough_40 (by decide) ?_
          refine lv_goto (tgt := 45) hx hb dX4_isEnough_41 (by decide) ?_
          refine k_zret (u := [(oX4 x1 x0 s1 s2 (nI pn) si4 s5 s6 s7 s8 s9 s10 s11 si12 si13), (oX0 x0 b0 b1 b2 b3 b4 b5 b6 b7 b8 b9 b10 b11 (nI np) (nI nl) bi14), (aIc cI b5 8 B5), (aIc cI s8 8 S8), (aIc cI s10 8 S10)]) hx hb hr (by decide) hlk hP hD hS dX4_isEnough_45 ?_
          exact ⟨(by decide), rfl⟩
      · skip
        have nc1 : ¬ 8 ≤ i4 := fun q9 => c1 ((nI_leI (a := 8) (b := i4) (by omega) (by omega)).mpr q9)
        refine lv_iload_n hx hb dX4_isEnough_10 rfl (lv_at hl 3 rfl) ?_
        refine lv_iload_n hx hb dX4_isEnough_11 rfl (lv_at hl 0 rfl) ?_
        refine k_iS (va_runSN (As := [.int k0, .int (nI i4)]) (rest := []) ⟨hx, hb, hml, hown, hts⟩ (m_X7_has l D cI cJ H.size k0 (nI i4)) ⟨va_cnB 2 hts gX4_isEnough_X7_has_n113 rfl rfl rfl (nwk5 hE.2) (hts _ (List.mem_cons_of_mem _ wd_2)) (by decide +kernel) ⟨Nat.le_of_ble_eq_true rfl, Nat.le_of_ble_eq_true rfl⟩, (hts _ (List.mem_cons_of_mem _ wd_311)), trivial⟩ (k_pre hE hP hD [] (by decide +kernel) rfl) rfl rfl hl.1 rfl (lv_room (Nat.le_of_ble_eq_true rfl)) dX4_isEnough_12 ⟨Nat.le_of_ble_eq_true rfl, Nat.le_of_ble_eq_true rfl⟩) hP hD hS hA [] rfl (fun _ _ h9 => h9.2) (fun r3 H locs hw4 hP hD hS => ?_)
        obtain ⟨hw4, -⟩ := hw4
        refine lv_if_eq (tgt := 26) hx hb dX4_isEnough_15 (by decide) (fun c5 => ?_) (fun c5 => ?_)
        · skip
          have hc5 : ¬ (¬ (k0 >>> ((nI i4) &&& 31)) &&& 1 = 0) := bz_0 hw4 c5
          refine lv_iinc (v := (nI (i4 + 1))) (lv' := [(3, .int (nI (i4 + 1))), (2, .int h2_4), (0, .ref x1), (1, .int k0)]) hx hb dX4_isEnough_26 hl (k := 0) rfl (nI_1 _) (by decide) rfl (fun ls hl => ?_)
          refine lv_goto (tgt := 4) hx hb dX4_isEnough_29 (by decide) ?_
          exact ih4 (i4 + 1) h2_4 (by omega) (by omega) _ _ _ hP hD hS (lv_sub hl [0, 1, 2, 3] rfl)
        · skip
          have hc5 : ¬ (k0 >>> ((nI i4) &&& 31)) &&& 1 = 0 := bz_1 hw4 c5
          refine lv_iload_n hx hb dX4_isEnough_18 rfl (lv_at hl 1 rfl) ?_
          refine lv_aload_n hx hb dX4_isEnough_19 rfl (lv_at hl 2 rfl) ?_
          refine lv_iload_n hx hb dX4_isEnough_20 rfl (lv_at hl 0 rfl) ?_
          refine k_iS (va_runV (As := [.int (nI i4)]) (rest := [.int h2_4]) ⟨hx, hb, hml, hown, hts⟩ (m_X4_paidFirst l D cI cJ H.size x1 x0 s1 s2 s5 s6 s7 s8 s9 s10 s11 b0 b1 b2 b3 b4 b5 b6 b7 b8 b9 b10 b11 i4 np nl pn si4 si12 si13 bi14 B5 S8 S10 (by omega)) (cwV 1 hts gX4_isEnough_X4_paidFirst rfl rfl rfl (by decide +kernel) ⟨Nat.le_of_ble_eq_true rfl, Nat.le_of_ble_eq_true rfl⟩) (k_preV hE hP hD [0, 1, 2, 3, 4] (by decide +kernel) rfl 0 rfl rfl) rfl rfl hl.1 rfl (lv_room (Nat.le_of_ble_eq_true rfl)) dX4_isEnough_21 ⟨Nat.le_of_ble_eq_true rfl, Nat.le_of_ble_eq_true rfl⟩) hP hD hS hA [0, 1, 2, 3, 4] rfl (fun _ _ h9 => h9) (fun r6 H locs hw7 hP hD hS => ?_)
          refine lv_iadd hx hb dX4_isEnough_24 ?_
          refine lv_topi (fun v8 ev8 => ?_)
          refine lv_istore_n (lv' := [(2, .int v8), (3, .int (nI i4)), (0, .ref x1), (1, .int k0)]) hx hb dX4_isEnough_25 rfl hl (by decide) rfl (fun ls hl => ?_)
          refine lv_iinc (v := (nI (i4 + 1))) (lv' := [(3, .int (nI (i4 + 1))), (2, .int v8), (0, .ref x1), (1, .int k0)]) hx hb dX4_isEnough_26 hl (k := 1) rfl (nI_1 _) (by decide) rfl (fun ls hl => ?_)
          refine lv_goto (tgt := 4) hx hb dX4_isEnough_29 (by decide) ?_
          exact ih4 (i4 + 1) v8 (by omega) (by omega) _ _ _ hP hD hS (lv_sub hl [0, 1, 2, 3] rfl)
  exact J4 _ 0 0 (by omega) (Nat.lt_succ_self _) _ _ _ hP hD hS (lv_sub hl [0, 1, 2, 3] rfl)
theorem dX4_fewestClaimed_0 : decode cX4_fewestClaimed 0 = .ok (.aload_n 0, 1) := by decide +kernel
theorem dX4_fewestClaimed_1 : decode cX4_fewestClaimed 1 = .ok (.getfield 58, 3) := by decide +kernel
theorem dX4_fewestClaimed_4 : decode cX4_fewestClaimed 4 = .ok (.istore_n 1, 1) := by decide +kernel
theorem dX4_fewestClaimed_5 : decode cX4_fewestClaimed 5 = .ok (.iconst 0, 1) := by decide +kernel
theorem dX4_fewestClaimed_6 : decode cX4_fewestClaimed 6 = .ok (.istore_n 2, 1) := by decide +kernel
theorem dX4_fewestClaimed_7 : decode cX4_fewestClaimed 7 = .ok (.iload_n 2, 1) := by decide +kernel
theorem dX4_fewestClaimed_8 : decode cX4_fewestClaimed 8 = .ok (.aload_n 0, 1) := by decide +kernel
theorem dX4_fewestClaimed_9 : decode cX4_fewestClaimed 9 = .ok (.getfield 58, 3) := by decide +kernel
theorem dX4_fewestClaimed_12 : decode cX4_fewestClaimed 12 = .ok (.if_icmp .gt 40, 3) := by decide +kernel
theorem dX4_fewestClaimed_15 : decode cX4_fewestClaimed 15 = .ok (.iload_n 2, 1) := by decide +kernel
theorem dX4_fewestClaimed_16 : decode cX4_fewestClaimed 16 = .ok (.invokestatic 180, 3) := by decide +kernel
theorem dX4_fewestClaimed_19 : decode cX4_fewestClaimed 19 = .ok (.iload_n 1, 1) := by decide +kernel
theorem dX4_fewestClaimed_20 : decode cX4_fewestClaimed 20 = .ok (.invokestatic 180, 3) := by decide +kernel
theorem dX4_fewestClaimed_23 : decode cX4_fewestClaimed 23 = .ok (.if_icmp .ge 7, 3) := by decide +kernel
theorem dX4_fewestClaimed_26 : decode cX4_fewestClaimed 26 = .ok (.iconst 1, 1) := by decide +kernel
theorem dX4_fewestClaimed_27 : decode cX4_fewestClaimed 27 = .ok (.goto 4, 3) := by decide +kernel
theorem dX4_fewestClaimed_30 : decode cX4_fewestClaimed 30 = .ok (.iconst 0, 1) := by decide +kernel
theorem dX4_fewestClaimed_31 : decode cX4_fewestClaimed 31 = .ok (.istore_n 3, 1) := by decide +kernel
theorem dX4_fewestClaimed_32 : decode cX4_fewestClaimed 32 = .ok (.iload_n 3, 1) := by decide +kernel
theorem dX4_fewestClaimed_33 : decode cX4_fewestClaimed 33 = .ok (.ifCond .eq 13, 3) := by decide +kernel
theorem dX4_fewestClaimed_36 : decode cX4_fewestClaimed 36 = .ok (.aload_n 0, 1) := by decide +kernel
theorem dX4_fewestClaimed_37 : decode cX4_fewestClaimed 37 = .ok (.iload_n 2, 1) := by decide +kernel
theorem dX4_fewestClaimed_38 : decode cX4_fewestClaimed 38 = .ok (.invokevirtual 185, 3) := by decide +kernel
theorem dX4_fewestClaimed_41 : decode cX4_fewestClaimed 41 = .ok (.ifCond .eq 5, 3) := by decide +kernel
theorem dX4_fewestClaimed_44 : decode cX4_fewestClaimed 44 = .ok (.iload_n 2, 1) := by decide +kernel
theorem dX4_fewestClaimed_45 : decode cX4_fewestClaimed 45 = .ok (.istore_n 1, 1) := by decide +kernel
theorem dX4_fewestClaimed_46 : decode cX4_fewestClaimed 46 = .ok (.iinc 2 1, 3) := by decide +kernel
theorem dX4_fewestClaimed_49 : decode cX4_fewestClaimed 49 = .ok (.goto (-42), 3) := by decide +kernel
theorem dX4_fewestClaimed_52 : decode cX4_fewestClaimed 52 = .ok (.iload_n 1, 1) := by decide +kernel
theorem dX4_fewestClaimed_53 : decode cX4_fewestClaimed 53 = .ok (.ireturn, 1) := by decide +kernel
theorem gX4_fewestClaimed_J6_bitCount_0f7a4 : GoodIn wtX4_fewestClaimed (va_wsS RX4 180 yJ6_bitCount_0f7a4 wtJ6_bitCount_0f7a4) := tb_good (tb_s0 wd_913 wd_540 wd_541 wd_542)
theorem gX4_fewestClaimed_X4_isEnough : GoodIn wtX4_fewestClaimed (wsV RX4 185 RX4 yX4_isEnough wtX4_isEnough) := tb_good (tb_v0 wd_914 wd_915 wd_916 wd_16 wd_917)
set_option maxHeartbeats 4000000 in
set_option maxRecDepth 100000 in
theorem m_X4_fewestClaimed (l : Launch) (D : va_G) (cI cJ : ClassId) (sz : Nat) (x1 x0 s1 s2 s5 s6 s7 s8 s9 s10 s11 b0 b1 b2 b3 b4 b5 b6 b7 b8 b9 b10 b11 np nl pn : Nat) (si4 si12 si13 bi14 : Int32) (B5 S8 S10 : Nat → Int32) (hpn : pn < 256) : Met l yX4_fewestClaimed wtX4_fewestClaimed { frames := 2, cells := 0, slots := 0, locals := 44 } (cPc D cI cJ [.ref x1] sz [(oX4 x1 x0 s1 s2 (nI pn) si4 s5 s6 s7 s8 s9 s10 s11 si12 si13), (oX0 x0 b0 b1 b2 b3 b4 b5 b6 b7 b8 b9 b10 b11 (nI np) (nI nl) bi14), (aIc cI b5 8 B5), (aIc cI s8 8 S8), (aIc cI s10 8 S10)]) (cQi D (fun r u => u = [(oX4 x1 x0 s1 s2 (nI pn) si4 s5 s6 s7 s8 s9 s10 s11 si12 si13), (oX0 x0 b0 b1 b2 b3 b4 b5 b6 b7 b8 b9 b10 b11 (nI np) (nI nl) bi14), (aIc cI b5 8 B5), (aIc cI s8 8 S8), (aIc cI s10 8 S10)]) (va_A [(oX4 x1 x0 s1 s2 (nI pn) si4 s5 s6 s7 s8 s9 s10 s11 si12 si13), (oX0 x0 b0 b1 b2 b3 b4 b5 b6 b7 b8 b9 b10 b11 (nI np) (nI nl) bi14), (aIc cI b5 8 B5), (aIc cI s8 8 S8), (aIc cI s10 8 S10)] sz)) 0 0 (va_A [(oX4 x1 x0 s1 s2 (nI pn) si4 s5 s6 s7 s8 s9 s10 s11 si12 si13), (oX0 x0 b0 b1 b2 b3 b4 b5 b6 b7 b8 b9 b10 b11 (nI np) (nI nl) bi14), (aIc cI b5 8 B5), (aIc cI s8 8 S8), (aIc cI s10 8 S10)] sz) := by
  refine k_ofW (Qc := cQi D (fun r u => u = [(oX4 x1 x0 s1 s2 (nI pn) si4 s5 s6 s7 s8 s9 s10 s11 si12 si13), (oX0 x0 b0 b1 b2 b3 b4 b5 b6 b7 b8 b9 b10 b11 (nI np) (nI nl) bi14), (aIc cI b5 8 B5), (aIc cI s8 8 S8), (aIc cI s10 8 S10)])) (by decide) rfl (Nat.le_of_ble_eq_true rfl) ?_
  intro p e s m below meth c A ls hx hb hr hml hts hown hlk hnm hsz hE hP hD hS hA hl
  have hown : s.vm.findClass RX4 = some m.cls := hown
  have hiX4 : ∀ w ∈ u_ws RX4 TX4 14, w ∈ wtX4_fewestClaimed := fun w h => List.mem_cons_of_mem _ (iuX4 w h)
  have hl : lv_has ls 4 [(0, .ref x1)] := hl
  refine lv_aload_n hx hb dX4_fewestClaimed_0 rfl (lv_at hl 0 rfl) ?_
  refine va_get (D := D) (ci := 4) (v := .int (nI pn)) (C := RX4) (T := TX4) (N := 14) hx hb hts hiX4 hown hE.1 hP 0 rfl rfl 3 (by decide) (hts _ (List.mem_cons_of_mem _ wd_283)) (fun _ h9 => h9) rfl dX4_fewestClaimed_1 ?_
  refine lv_istore_n (lv' := [(1, .int (nI pn)), (0, .ref x1)]) hx hb dX4_fewestClaimed_4 rfl hl (by decide) rfl (fun ls hl => ?_)
  refine lv_iconst (v := 0) hx hb dX4_fewestClaimed_5 (by decide) ?_
  refine lv_istore_n (lv' := [(2, .int 0), (1, .int (nI pn)), (0, .ref x1)]) hx hb dX4_fewestClaimed_6 rfl hl (by decide) rfl (fun ls hl => ?_)
  have J7 : ∀ (zz : Nat) (i7 : Nat) (h1_7 : Int32), (i7 ≤ pn + 1) → (pn + 1 - i7) < zz → ∀ (H : Heap) (locs : List Loc) (ls : Array Slot), va_P D vwCl [(oX4 x1 x0 s1 s2 (nI pn) si4 s5 s6 s7 s8 s9 s10 s11 si12 si13), (oX0 x0 b0 b1 b2 b3 b4 b5 b6 b7 b8 b9 b10 b11 (nI np) (nI nl) bi14), (aIc cI b5 8 B5), (aIc cI s8 8 S8), (aIc cI s10 8 S10)] H → va_D A [(oX4 x1 x0 s1 s2 (nI pn) si4 s5 s6 s7 s8 s9 s10 s11 si12 si13), (oX0 x0 b0 b1 b2 b3 b4 b5 b6 b7 b8 b9 b10 b11 (nI np) (nI nl) bi14), (aIc cI b5 8 B5), (aIc cI s8 8 S8), (aIc cI s10 8 S10)] → va_S A s.heap H locs → lv_has ls 4 [(2, .int (nI i7)), (1, .int h1_7), (0, .ref x1)] → W p l e { frames := 2, cells := 0, slots := 0, locals := 44 } s m [.ref x1].toArray below meth c H locs 0 0 (MQ below (cQi D (fun r u => u = [(oX4 x1 x0 s1 s2 (nI pn) si4 s5 s6 s7 s8 s9 s10 s11 si12 si13), (oX0 x0 b0 b1 b2 b3 b4 b5 b6 b7 b8 b9 b10 b11 (nI np) (nI nl) bi14), (aIc cI b5 8 B5), (aIc cI s8 8 S8), (aIc cI s10 8 S10)]) A) [.ref x1].toArray s 0 0 A) (F0 m 7 ls []) := by
    intro zz
    induction zz with
    | zero => intro i7 h1_7 _; exact fun h => absurd h (Nat.not_lt_zero _)
    | succ zz ih7 =>
      intro i7 h1_7 hc2_7 hmu7 H locs ls hP hD hS hl
      refine lv_iload_n hx hb dX4_fewestClaimed_7 rfl (lv_at hl 0 rfl) ?_
      refine lv_aload_n hx hb dX4_fewestClaimed_8 rfl (lv_at hl 2 rfl) ?_
      refine va_get (D := D) (ci := 4) (v := .int (nI pn)) (C := RX4) (T := TX4) (N := 14) hx hb hts hiX4 hown hE.1 hP 0 rfl rfl 3 (by decide) (hts _ (List.mem_cons_of_mem _ wd_283)) (fun _ h9 => h9) rfl dX4_fewestClaimed_9 ?_
      refine lv_icmp_gt (tgt := 52) hx hb dX4_fewestClaimed_12 (by decide) (fun c1 => ?_) (fun c1 => ?_)
      · skip
        have nc1 : pn < i7 := (nI_ltI (a := pn) (b := i7) (by omega) (by omega)).mp c1
        refine lv_iload_n hx hb dX4_fewestClaimed_52 rfl (lv_at hl 1 rfl) ?_
        refine k_iret (u := [(oX4 x1 x0 s1 s2 (nI pn) si4 s5 s6 s7 s8 s9 s10 s11 si12 si13), (oX0 x0 b0 b1 b2 b3 b4 b5 b6 b7 b8 b9 b10 b11 (nI np) (nI nl) bi14), (aIc cI b5 8 B5), (aIc cI s8 8 S8), (aIc cI s10 8 S10)]) hx hb hr hlk hP hD hS dX4_fewestClaimed_53 ?_
        exact rfl
      · skip
        have nc1 : ¬ pn < i7 := fun q9 => c1 ((nI_ltI (a := pn) (b := i7) (by omega) (by omega)).mpr q9)
        refine lv_iload_n hx hb dX4_fewestClaimed_15 rfl (lv_at hl 0 rfl) ?_
        refine k_iS (va_runS (As := [.int (nI i7)]) (rest := []) ⟨hx, hb, hml, hown, hts⟩ (m_bitCount l D cI cJ H.size (nI i7)) (va_cwS 1 hts gX4_fewestClaimed_J6_bitCount_0f7a4 rfl rfl rfl (by decide +kernel) ⟨Nat.le_of_ble_eq_true rfl, Nat.le_of_ble_eq_true rfl⟩) (k_pre hE hP hD [] (by decide +kernel) rfl) rfl rfl hl.1 rfl (lv_room (Nat.le_of_ble_eq_true rfl)) dX4_fewestClaimed_16 ⟨Nat.le_of_ble_eq_true rfl, Nat.le_of_ble_eq_true rfl⟩) hP hD hS hA [] rfl (fun _ _ ⟨_, h9⟩ => h9) (fun r2 H locs hw3 hP hD hS => ?_)
        obtain ⟨rfl, -⟩ := hw3
        refine lv_iload_n hx hb dX4_fewestClaimed_19 rfl (lv_at hl 1 rfl) ?_
        refine k_iS (va_runS (As := [.int h1_7]) (rest := [.int (bc (nI i7))]) ⟨hx, hb, hml, hown, hts⟩ (m_bitCount l D cI cJ H.size h1_7) (va_cwS 1 hts gX4_fewestClaimed_J6_bitCount_0f7a4 rfl rfl rfl (by decide +kernel) ⟨Nat.le_of_ble_eq_true rfl, Nat.le_of_ble_eq_true rfl⟩) (k_pre hE hP hD [] (by decide +kernel) rfl) rfl rfl hl.1 rfl (lv_room (Nat.le_of_ble_eq_true rfl)) dX4_fewestClaimed_20 ⟨Nat.le_of_ble_eq_true rfl, Nat.le_of_ble_eq_true rfl⟩) hP hD hS hA [] rfl (fun _ _ ⟨_, h9⟩ => h9) (fun r4 H locs hw5 hP hD hS => ?_)
        obtain ⟨rfl, -⟩ := hw5
        refine lv_icmp_ge (tgt := 30) hx hb dX4_fewestClaimed_23 (by decide) (fun c6 => ?_) (fun c6 => ?_)
        · skip
          refine lv_iconst (v := 0) hx hb dX4_fewestClaimed_30 (by decide) ?_
          refine lv_istore_n (lv' := [(3, .int 0), (2, .int (nI i7)), (1, .int h1_7), (0, .ref x1)]) hx hb dX4_fewestClaimed_31 rfl hl (by decide) rfl (fun ls hl => ?_)
          refine lv_iload_n hx hb dX4_fewestClaimed_32 rfl (lv_at hl 0 rfl) ?_
          refine lv_if_eq (tgt := 46) hx hb dX4_fewestClaimed_33 (by decide) (fun _ => ?_) (fun c7 => absurd (by decide) c7)
          refine lv_iinc (v := (nI (i7 + 1))) (lv' := [(2, .int (nI (i7 + 1))), (3, .int 0), (1, .int h1_7), (0, .ref x1)]) hx hb dX4_fewestClaimed_46 hl (k := 1) rfl (nI_1 _) (by decide) rfl (fun ls hl => ?_)
          refine lv_goto (tgt := 7) hx hb dX4_fewestClaimed_49 (by decide) ?_
          exact ih7 (i7 + 1) h1_7 (by omega) (by omega) _ _ _ hP hD hS (lv_sub hl [0, 2, 3] rfl)
        · skip
          refine lv_iconst (v := 1) hx hb dX4_fewestClaimed_26 (by decide) ?_
          refine lv_goto (tgt := 31) hx hb dX4_fewestClaimed_27 (by decide) ?_
          refine lv_istore_n (lv' := [(3, .int 1), (2, .int (nI i7)), (1, .int h1_7), (0, .ref x1)]) hx hb dX4_fewestClaimed_31 rfl hl (by decide) rfl (fun ls hl => ?_)
          refine lv_iload_n hx hb dX4_fewestClaimed_32 rfl (lv_at hl 0 rfl) ?_
          refine lv_if_eq (tgt := 46) hx hb dX4_fewestClaimed_33 (by decide) (fun c8 => absurd c8 (by decide)) (fun _ => ?_)
          refine lv_aload_n hx hb dX4_fewestClaimed_36 rfl (lv_at hl 3 rfl) ?_
          refine lv_iload_n hx hb dX4_fewestClaimed_37 rfl (lv_at hl 1 rfl) ?_
          refine k_iS (va_runV (As := [.int (nI i7)]) (rest := []) ⟨hx, hb, hml, hown, hts⟩ (m_X4_isEnough l D cI cJ H.size x1 x0 s1 s2 s5 s6 s7 s8 s9 s10 s11 b0 b1 b2 b3 b4 b5 b6 b7 b8 b9 b10 b11 np nl pn si4 si12 si13 bi14 (nI i7) B5 S8 S10) (cwV 1 hts gX4_fewestClaimed_X4_isEnough rfl rfl rfl (by decide +kernel) ⟨Nat.le_of_ble_eq_true rfl, Nat.le_of_ble_eq_true rfl⟩) (k_preV hE hP hD [0, 1, 2, 3, 4] (by decide +kernel) rfl 0 rfl rfl) rfl rfl hl.1 rfl (lv_room (Nat.le_of_ble_eq_true rfl)) dX4_fewestClaimed_38 ⟨Nat.le_of_ble_eq_true rfl, Nat.le_of_ble_eq_true rfl⟩) hP hD hS hA [0, 1, 2, 3, 4] rfl (fun _ _ ⟨_, h9⟩ => h9) (fun r9 H locs hw10 hP hD hS => ?_)
          obtain ⟨hz11, -⟩ := hw10
          refine lv_if_eq (tgt := 46) hx hb dX4_fewestClaimed_41 (by decide) (fun c12 => ?_) (fun c12 => ?_)
          · skip
            refine lv_iinc (v := (nI (i7 + 1))) (lv' := [(2, .int (nI (i7 + 1))), (3, .int 1), (1, .int h1_7), (0, .ref x1)]) hx hb dX4_fewestClaimed_46 hl (k := 1) rfl (nI_1 _) (by decide) rfl (fun ls hl => ?_)
            refine lv_goto (tgt := 7) hx hb dX4_fewestClaimed_49 (by decide) ?_
            exact ih7 (i7 + 1) h1_7 (by omega) (by omega) _ _ _ hP hD hS (lv_sub hl [0, 2, 3] rfl)
          · skip
            refine lv_iload_n hx hb dX4_fewestClaimed_44 rfl (lv_at hl 1 rfl) ?_
            refine lv_istore_n (lv' := [(1, .int (nI i7)), (3, .int 1), (2, .int (nI i7)), (0, .ref x1)]) hx hb dX4_fewestClaimed_45 rfl hl (by decide) rfl (fun ls hl => ?_)
            refine lv_iinc (v := (nI (i7 + 1))) (lv' := [(2, .int (nI (i7 + 1))), (1, .int (nI i7)), (3, .int 1), (0, .ref x1)]) hx hb dX4_fewestClaimed_46 hl (k := 2) rfl (nI_1 _) (by decide) rfl (fun ls hl => ?_)
            refine lv_goto (tgt := 7) hx hb dX4_fewestClaimed_49 (by decide) ?_
            exact ih7 (i7 + 1) (nI i7) (by omega) (by omega) _ _ _ hP hD hS (lv_sub hl [0, 1, 3] rfl)
  exact J7 _ 0 (nI pn) (by omega) (Nat.lt_succ_self _) _ _ _ hP hD hS (lv_sub hl [0, 1, 2] rfl)

