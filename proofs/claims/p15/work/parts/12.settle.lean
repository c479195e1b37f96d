theorem li_at {f : Nat → Int32} {n : Nat} {m b : Nat} (h : ∀ k, k < m → ∃ j : Nat, j < b ∧ f k = nI j) (hn : n < m) (hm : m < 2 ^ 31) : ∃ j : Nat, j < b ∧ f (Int32.toNatClampNeg (nI n)) = nI j := by
  rw [nI_clamp (by omega)]
  exact h n hn
theorem li_up {f : Nat → Int32} {n j : Nat} {m b : Nat} {x : Int32} (h : ∀ k, k < m → ∃ j : Nat, j < b ∧ f k = nI j) (hx : x = nI j) (hj : j < b) : ∀ k, k < m → ∃ j : Nat, j < b ∧ upd f n x k = nI j := by
  intro k hk
  by_cases e : k = n
  · subst e; rw [pk_us]; exact ⟨j, hj, hx⟩
  · rw [pk_un e]; exact h k hk
theorem wi_np {x y : Int32} {np : Nat} (hnp : np ≤ 8) (ey : y = nI np - 1) (h : 0 ≤ x ∧ x ≤ y) : ∃ j : Nat, j < np ∧ x = nI j := by
  rcases Nat.eq_zero_or_pos np with e | e
  · subst e
    rw [ey] at h
    exact absurd (Int32.le_trans h.1 h.2) (by decide)
  · have e1 : y = nI (np - 1) := by rw [ey]; exact pk_sub (a := np) (b := 1) e
    rw [e1] at h
    obtain ⟨j, hj, rfl⟩ := nI_of2 (n := np - 1) (nI_toInt (by omega)) (Int32.not_lt.mpr h.1) h.2
    exact ⟨j, by omega, rfl⟩
theorem wi_17 {x : Int32} (h : 1 ≤ x ∧ x ≤ 7) : ∃ j : Nat, 1 ≤ j ∧ j ≤ 7 ∧ x = nI j := by
  obtain ⟨j, hj, rfl⟩ := nI_of2 (n := 7) rfl (Int32.not_lt.mpr (Int32.le_trans (by decide) h.1)) h.2
  have := (nI_leI (a := 1) (b := j) (by decide) (by omega)).mp h.1
  exact ⟨j, this, hj, rfl⟩
theorem wi_07 {x : Int32} (h : 0 ≤ x ∧ x ≤ 7) : ∃ j : Nat, j < 8 ∧ x = nI j := by
  obtain ⟨j, hj, rfl⟩ := nI_of2 (n := 7) rfl (Int32.not_lt.mpr h.1) h.2
  exact ⟨j, by omega, rfl⟩
theorem wi_k {x : Int32} {c k : Nat} (hk : k < 2 ^ 31) (hc : c < 2 ^ 31) (h : 0 ≤ x ∧ x ≤ nI c) : ∃ j : Nat, j ≤ c ∧ x = nI j := nI_of2 (n := c) (nI_toInt hc) (Int32.not_lt.mpr h.1) h.2
theorem dX0_everyone_0 : decode cX0_everyone 0 = .ok (.iconst 1, 1) := by decide +kernel
theorem dX0_everyone_1 : decode cX0_everyone 1 = .ok (.aload_n 0, 1) := by decide +kernel
theorem dX0_everyone_2 : decode cX0_everyone 2 = .ok (.getfield 54, 3) := by decide +kernel
theorem dX0_everyone_5 : decode cX0_everyone 5 = .ok (.ishl, 1) := by decide +kernel
theorem dX0_everyone_6 : decode cX0_everyone 6 = .ok (.iconst 1, 1) := by decide +kernel
theorem dX0_everyone_7 : decode cX0_everyone 7 = .ok (.isub, 1) := by decide +kernel
theorem dX0_everyone_8 : decode cX0_everyone 8 = .ok (.ireturn, 1) := by decide +kernel
set_option maxHeartbeats 4000000 in
set_option maxRecDepth 100000 in
theorem m_X0_everyone (l : Launch) (D : va_G) (cI cJ : ClassId) (sz : Nat) (x0 b0 b1 b2 b3 b4 b5 b6 b7 b8 b9 b10 b11 np nl : Nat) (bi14 : Int32) (hnp : np ≤ 8) : Met l yX0_everyone wtX0_everyone { frames := 0, cells := 0, slots := 0, locals := 0 } (cPc D cI cJ [.ref x0] sz [(oX0 x0 b0 b1 b2 b3 b4 b5 b6 b7 b8 b9 b10 b11 (nI np) (nI nl) bi14)]) (cQi D (fun r u => r = (nI (2 ^ np - 1)) ∧ u = [(oX0 x0 b0 b1 b2 b3 b4 b5 b6 b7 b8 b9 b10 b11 (nI np) (nI nl) bi14)]) (va_A [(oX0 x0 b0 b1 b2 b3 b4 b5 b6 b7 b8 b9 b10 b11 (nI np) (nI nl) bi14)] sz)) 0 0 (va_A [(oX0 x0 b0 b1 b2 b3 b4 b5 b6 b7 b8 b9 b10 b11 (nI np) (nI nl) bi14)] sz) := by
  refine k_ofW (Qc := cQi D (fun r u => r = (nI (2 ^ np - 1)) ∧ u = [(oX0 x0 b0 b1 b2 b3 b4 b5 b6 b7 b8 b9 b10 b11 (nI np) (nI nl) bi14)])) (by decide) rfl (Nat.le_of_ble_eq_true rfl) ?_
  intro p e s m below meth c A ls hx hb hr hml hts hown hlk hnm hsz hE hP hD hS hA hl
  have hown : s.vm.findClass RX0 = some m.cls := hown
  have hiX0 : ∀ w ∈ u_ws RX0 TX0 15, w ∈ wtX0_everyone := fun w h => List.mem_cons_of_mem _ (iuX0 w h)
  have hl : lv_has ls 1 [(0, .ref x0)] := hl
  refine lv_iconst (v := 1) hx hb dX0_everyone_0 (by decide) ?_
  refine lv_aload_n hx hb dX0_everyone_1 rfl (lv_at hl 0 rfl) ?_
  refine va_get (D := D) (ci := 0) (v := .int (nI np)) (C := RX0) (T := TX0) (N := 15) hx hb hts hiX0 hown hE.1 hP 0 rfl rfl 12 (by decide) (hts _ (List.mem_cons_of_mem _ wd_296)) (fun _ h9 => h9) rfl dX0_everyone_2 ?_
  refine lv_ishl hx hb dX0_everyone_5 ?_
  refine lv_topi (fun v1 ev1 => ?_)
  refine lv_iconst (v := 1) hx hb dX0_everyone_6 (by decide) ?_
  refine lv_isub hx hb dX0_everyone_7 ?_
  refine lv_topi (fun v2 ev2 => ?_)
  obtain rfl := ev_np hnp ev1 ev2
  refine k_iret (u := [(oX0 x0 b0 b1 b2 b3 b4 b5 b6 b7 b8 b9 b10 b11 (nI np) (nI nl) bi14)]) hx hb hr hlk hP hD hS dX0_everyone_8 ?_
  exact ⟨rfl, rfl⟩
theorem dX0_amountsTogether_0 : decode cX0_amountsTogether 0 = .ok (.iconst 0, 1) := by decide +kernel
theorem dX0_amountsTogether_1 : decode cX0_amountsTogether 1 = .ok (.istore_n 1, 1) := by decide +kernel
theorem dX0_amountsTogether_2 : decode cX0_amountsTogether 2 = .ok (.iconst 0, 1) := by decide +kernel
theorem dX0_amountsTogether_3 : decode cX0_amountsTogether 3 = .ok (.istore_n 2, 1) := by decide +kernel
theorem dX0_amountsTogether_4 : decode cX0_amountsTogether 4 = .ok (.iload_n 2, 1) := by decide +kernel
theorem dX0_amountsTogether_5 : decode cX0_amountsTogether 5 = .ok (.aload_n 0, 1) := by decide +kernel
theorem dX0_amountsTogether_6 : decode cX0_amountsTogether 6 = .ok (.getfield 58, 3) := by decide +kernel
theorem dX0_amountsTogether_9 : decode cX0_amountsTogether 9 = .ok (.if_icmp .ge 24, 3) := by decide +kernel
theorem dX0_amountsTogether_12 : decode cX0_amountsTogether 12 = .ok (.iload_n 2, 1) := by decide +kernel
theorem dX0_amountsTogether_13 : decode cX0_amountsTogether 13 = .ok (.bipush 10, 2) := by decide +kernel
theorem dX0_amountsTogether_15 : decode cX0_amountsTogether 15 = .ok (.if_icmp .ge 18, 3) := by decide +kernel
theorem dX0_amountsTogether_18 : decode cX0_amountsTogether 18 = .ok (.iload_n 1, 1) := by decide +kernel
theorem dX0_amountsTogether_19 : decode cX0_amountsTogether 19 = .ok (.aload_n 0, 1) := by decide +kernel
theorem dX0_amountsTogether_20 : decode cX0_amountsTogether 20 = .ok (.getfield 45, 3) := by decide +kernel
theorem dX0_amountsTogether_23 : decode cX0_amountsTogether 23 = .ok (.iload_n 2, 1) := by decide +kernel
theorem dX0_amountsTogether_24 : decode cX0_amountsTogether 24 = .ok (.iaload, 1) := by decide +kernel
theorem dX0_amountsTogether_25 : decode cX0_amountsTogether 25 = .ok (.iadd, 1) := by decide +kernel
theorem dX0_amountsTogether_26 : decode cX0_amountsTogether 26 = .ok (.istore_n 1, 1) := by decide +kernel
theorem dX0_amountsTogether_27 : decode cX0_amountsTogether 27 = .ok (.iinc 2 1, 3) := by decide +kernel
theorem dX0_amountsTogether_30 : decode cX0_amountsTogether 30 = .ok (.goto (-26), 3) := by decide +kernel
theorem dX0_amountsTogether_33 : decode cX0_amountsTogether 33 = .ok (.iload_n 1, 1) := by decide +kernel
theorem dX0_amountsTogether_34 : decode cX0_amountsTogether 34 = .ok (.ireturn, 1) := by decide +kernel
set_option maxHeartbeats 4000000 in
set_option maxRecDepth 100000 in
theorem m_X0_amounts (l : Launch) (D : va_G) (cI cJ : ClassId) (sz : Nat) (x0 b0 b1 b2 b3 b4 b5 b6 b7 b8 b9 b10 b11 np nl : Nat) (bi14 : Int32) (B11 : Nat → Int32) (hnp : np ≤ 8) (hnl : nl ≤ 10) : Met l yX0_amountsTogether wtX0_amountsTogether { frames := 0, cells := 0, slots := 0, locals := 0 } (cPc D cI cJ [.ref x0] sz [(oX0 x0 b0 b1 b2 b3 b4 b5 b6 b7 b8 b9 b10 b11 (nI np) (nI nl) bi14), (aIc cI b11 10 B11)]) (cQi D (fun r u => u = [(oX0 x0 b0 b1 b2 b3 b4 b5 b6 b7 b8 b9 b10 b11 (nI np) (nI nl) bi14), (aIc cI b11 10 B11)]) (va_A [(oX0 x0 b0 b1 b2 b3 b4 b5 b6 b7 b8 b9 b10 b11 (nI np) (nI nl) bi14), (aIc cI b11 10 B11)] sz)) 0 0 (va_A [(oX0 x0 b0 b1 b2 b3 b4 b5 b6 b7 b8 b9 b10 b11 (nI np) (nI nl) bi14), (aIc cI b11 10 B11)] sz) := by
  refine k_ofW (Qc := cQi D (fun r u => u = [(oX0 x0 b0 b1 b2 b3 b4 b5 b6 b7 b8 b9 b10 b11 (nI np) (nI nl) bi14), (aIc cI b11 10 B11)])) (by decide) rfl (Nat.le_of_ble_eq_true rfl) ?_
  intro p e s m below meth c A ls hx hb hr hml hts hown hlk hnm hsz hE hP hD hS hA hl
  have hown : s.vm.findClass RX0 = some m.cls := hown
  have hiX0 : ∀ w ∈ u_ws RX0 TX0 15, w ∈ wtX0_amountsTogether := fun w h => List.mem_cons_of_mem _ (iuX0 w h)
  have hl : lv_has ls 3 [(0, .ref x0)] := hl
  refine lv_iconst (v := 0) hx hb dX0_amountsTogether_0 (by decide) ?_
  refine lv_istore_n (lv' := [(1, .int 0), (0, .ref x0)]) hx hb dX0_amountsTogether_1 rfl hl (by decide) rfl (fun ls hl => ?_)
  refine lv_iconst (v := 0) hx hb dX0_amountsTogether_2 (by decide) ?_
  refine lv_istore_n (lv' := [(2, .int 0), (1, .int 0), (0, .ref x0)]) hx hb dX0_amountsTogether_3 rfl hl (by decide) rfl (fun ls hl => ?_)
  have J4 : ∀ (zz : Nat) (i4 : Nat) (h1_4 : Int32), (i4 ≤ 10) → (10 - i4) < zz → ∀ (H : Heap) (locs : List Loc) (ls : Array Slot), va_P D vwCl [(oX0 x0 b0 b1 b2 b3 b4 b5 b6 b7 b8 b9 b10 b11 (nI np) (nI nl) bi14), (aIc cI b11 10 B11)] H → va_D A [(oX0 x0 b0 b1 b2 b3 b4 b5 b6 b7 b8 b9 b10 b11 (nI np) (nI nl) bi14), (aIc cI b11 10 B11)] → va_S A s.heap H locs → lv_has ls 3 [(2, .int (nI i4)), (1, .int h1_4), (0, .ref x0)] → W p l e { frames := 0, cells := 0, slots := 0, locals := 0 } s m [.ref x0].toArray below meth c H locs 0 0 (MQ below (cQi D (fun r u => u = [(oX0 x0 b0 b1 b2 b3 b4 b5 b6 b7 b8 b9 b10 b11 (nI np) (nI nl) bi14), (aIc cI b11 10 B11)]) A) [.ref x0].toArray s 0 0 A) (F0 m 4 ls []) := by
    intro zz
    induction zz with
    | zero => intro i4 h1_4 _; exact fun h => absurd h (Nat.not_lt_zero _)
    | succ zz ih4 =>
      intro i4 h1_4 hc2_4 hmu4 H locs ls hP hD hS hl
      refine lv_iload_n hx hb dX0_amountsTogether_4 rfl (lv_at hl 0 rfl) ?_
      refine lv_aload_n hx hb dX0_amountsTogether_5 rfl (lv_at hl 2 rfl) ?_
      refine va_get (D := D) (ci := 0) (v := .int (nI nl)) (C := RX0) (T := TX0) (N := 15) hx hb hts hiX0 hown hE.1 hP 0 rfl rfl 13 (by decide) (hts _ (List.mem_cons_of_mem _ wd_398)) (fun _ h9 => h9) rfl dX0_amountsTogether_6 ?_
      refine lv_icmp_ge (tgt := 33) hx hb dX0_amountsTogether_9 (by decide) (fun c1 => ?_) (fun c1 => ?_)
      · skip
        have nc1 : nl ≤ i4 := (nI_leI (a := nl) (b := i4) (by omega) (by omega)).mp c1
        refine lv_iload_n hx hb dX0_amountsTogether_33 rfl (lv_at hl 1 rfl) ?_
        refine k_iret (u := [(oX0 x0 b0 b1 b2 b3 b4 b5 b6 b7 b8 b9 b10 b11 (nI np) (nI nl) bi14), (aIc cI b11 10 B11)]) hx hb hr hlk hP hD hS dX0_amountsTogether_34 ?_
        exact rfl
      · skip
        have nc1 : ¬ nl ≤ i4 := fun q9 => c1 ((nI_leI (a := nl) (b := i4) (by omega) (by omega)).mpr q9)
        refine lv_iload_n hx hb dX0_amountsTogether_12 rfl (lv_at hl 0 rfl) ?_
        refine lv_bipush (v := 10) hx hb dX0_amountsTogether_13 (by decide) ?_
        refine lv_icmp_ge (tgt := 33) hx hb dX0_amountsTogether_15 (by decide) (fun c2 => ?_) (fun c2 => ?_)
        · skip
          have nc2 : 10 ≤ i4 := (nI_leI (a := 10) (b := i4) (by omega) (by omega)).mp c2
          refine lv_iload_n hx hb dX0_amountsTogether_33 rfl (lv_at hl 1 rfl) ?_
          refine k_iret (u := [(oX0 x0 b0 b1 b2 b3 b4 b5 b6 b7 b8 b9 b10 b11 (nI np) (nI nl) bi14), (aIc cI b11 10 B11)]) hx hb hr hlk hP hD hS dX0_amountsTogether_34 ?_
          exact rfl
        · skip
          have nc2 : ¬ 10 ≤ i4 := fun q9 => c2 ((nI_leI (a := 10) (b := i4) (by omega) (by omega)).mpr q9)
          refine lv_iload_n hx hb dX0_amountsTogether_18 rfl (lv_at hl 1 rfl) ?_
          refine lv_aload_n hx hb dX0_amountsTogether_19 rfl (lv_at hl 2 rfl) ?_
          refine va_get (D := D) (ci := 0) (v := .ref b11) (C := RX0) (T := TX0) (N := 15) hx hb hts hiX0 hown hE.1 hP 0 rfl rfl 11 (by decide) (hts _ (List.mem_cons_of_mem _ wd_71)) (fun _ h9 => h9) rfl dX0_amountsTogether_20 ?_
          refine lv_iload_n hx hb dX0_amountsTogether_23 rfl (lv_at hl 0 rfl) ?_
          refine va_iald hx hb hE.1 hP 1 0 rfl rfl (vp_in_nI (n := i4) (by omega) (by decide)) dX0_amountsTogether_24 ?_
          refine lv_topi (fun v3 ev3 => ?_)
          refine lv_iadd hx hb dX0_amountsTogether_25 ?_
          refine lv_topi (fun v4 ev4 => ?_)
          refine lv_istore_n (lv' := [(1, .int v4), (2, .int (nI i4)), (0, .ref x0)]) hx hb dX0_amountsTogether_26 rfl hl (by decide) rfl (fun ls hl => ?_)
          refine lv_iinc (v := (nI (i4 + 1))) (lv' := [(2, .int (nI (i4 + 1))), (1, .int v4), (0, .ref x0)]) hx hb dX0_amountsTogether_27 hl (k := 1) rfl (nI_1 _) (by decide) rfl (fun ls hl => ?_)
          refine lv_goto (tgt := 4) hx hb dX0_amountsTogether_30 (by decide) ?_
          exact ih4 (i4 + 1) v4 (by omega) (by omega) _ _ _ hP hD hS (lv_sub hl [0, 1, 2] rfl)
  exact J4 _ 0 0 (by omega) (Nat.lt_succ_self _) _ _ _ hP hD hS (lv_sub hl [0, 1, 2] rfl)
theorem dX0_limitsOn_0 : decode cX0_limitsOn 0 = .ok (.iconst 0, 1) := by decide +kernel
theorem dX0_limitsOn_1 : decode cX0_limitsOn 1 = .ok (.istore_n 2, 1) := by decide +kernel
theorem dX0_limitsOn_2 : decode cX0_limitsOn 2 = .ok (.iconst 0, 1) := by decide +kernel
theorem dX0_limitsOn_3 : decode cX0_limitsOn 3 = .ok (.istore_n 3, 1) := by decide +kernel
theorem dX0_limitsOn_4 : decode cX0_limitsOn 4 = .ok (.iload_n 3, 1) := by decide +kernel
theorem dX0_limitsOn_5 : decode cX0_limitsOn 5 = .ok (.aload_n 0, 1) := by decide +kernel
theorem dX0_limitsOn_6 : decode cX0_limitsOn 6 = .ok (.getfield 54, 3) := by decide +kernel
theorem dX0_limitsOn_9 : decode cX0_limitsOn 9 = .ok (.if_icmp .ge 37, 3) := by decide +kernel
theorem dX0_limitsOn_12 : decode cX0_limitsOn 12 = .ok (.iload_n 3, 1) := by decide +kernel
theorem dX0_limitsOn_13 : decode cX0_limitsOn 13 = .ok (.bipush 8, 2) := by decide +kernel
theorem dX0_limitsOn_15 : decode cX0_limitsOn 15 = .ok (.if_icmp .ge 31, 3) := by decide +kernel
theorem dX0_limitsOn_18 : decode cX0_limitsOn 18 = .ok (.aload_n 0, 1) := by decide +kernel
theorem dX0_limitsOn_19 : decode cX0_limitsOn 19 = .ok (.getfield 24, 3) := by decide +kernel
theorem dX0_limitsOn_22 : decode cX0_limitsOn 22 = .ok (.iload_n 3, 1) := by decide +kernel
theorem dX0_limitsOn_23 : decode cX0_limitsOn 23 = .ok (.iaload, 1) := by decide +kernel
theorem dX0_limitsOn_24 : decode cX0_limitsOn 24 = .ok (.iload_n 1, 1) := by decide +kernel
theorem dX0_limitsOn_25 : decode cX0_limitsOn 25 = .ok (.invokestatic 61, 3) := by decide +kernel
theorem dX0_limitsOn_28 : decode cX0_limitsOn 28 = .ok (.ifCond .eq 12, 3) := by decide +kernel
theorem dX0_limitsOn_31 : decode cX0_limitsOn 31 = .ok (.iload_n 2, 1) := by decide +kernel
theorem dX0_limitsOn_32 : decode cX0_limitsOn 32 = .ok (.aload_n 0, 1) := by decide +kernel
theorem dX0_limitsOn_33 : decode cX0_limitsOn 33 = .ok (.getfield 9, 3) := by decide +kernel
theorem dX0_limitsOn_36 : decode cX0_limitsOn 36 = .ok (.iload_n 3, 1) := by decide +kernel
theorem dX0_limitsOn_37 : decode cX0_limitsOn 37 = .ok (.iaload, 1) := by decide +kernel
theorem dX0_limitsOn_38 : decode cX0_limitsOn 38 = .ok (.iadd, 1) := by decide +kernel
theorem dX0_limitsOn_39 : decode cX0_limitsOn 39 = .ok (.istore_n 2, 1) := by decide +kernel
theorem dX0_limitsOn_40 : decode cX0_limitsOn 40 = .ok (.iinc 3 1, 3) := by decide +kernel
theorem dX0_limitsOn_43 : decode cX0_limitsOn 43 = .ok (.goto (-39), 3) := by decide +kernel
theorem dX0_limitsOn_46 : decode cX0_limitsOn 46 = .ok (.iload_n 2, 1) := by decide +kernel
theorem dX0_limitsOn_47 : decode cX0_limitsOn 47 = .ok (.ireturn, 1) := by decide +kernel
theorem gX0_limitsOn_X7_has_n61 : GoodIn wtX0_limitsOn (wtX7_has) := tb_good (tb_c0 wd_312)
set_option maxHeartbeats 4000000 in
set_option maxRecDepth 100000 in
theorem m_X0_limitsOn (l : Launch) (D : va_G) (cI cJ : ClassId) (sz : Nat) (x0 b0 b1 b2 b3 b4 b5 b6 b7 b8 b9 b10 b11 np nl : Nat) (bi14 k0 : Int32) (B0 B4 : Nat → Int32) (hnp : np ≤ 8) (hnl : nl ≤ 10) : Met l yX0_limitsOn wtX0_limitsOn { frames := 1, cells := 0, slots := 0, locals := 21 } (cPc D cI cJ [.ref x0, .int k0] sz [(oX0 x0 b0 b1 b2 b3 b4 b5 b6 b7 b8 b9 b10 b11 (nI np) (nI nl) bi14), (aIc cI b0 8 B0), (aIc cI b4 8 B4)]) (cQi D (fun r u => u = [(oX0 x0 b0 b1 b2 b3 b4 b5 b6 b7 b8 b9 b10 b11 (nI np) (nI nl) bi14), (aIc cI b0 8 B0), (aIc cI b4 8 B4)]) (va_A [(oX0 x0 b0 b1 b2 b3 b4 b5 b6 b7 b8 b9 b10 b11 (nI np) (nI nl) bi14), (aIc cI b0 8 B0), (aIc cI b4 8 B4)] sz)) 0 0 (va_A [(oX0 x0 b0 b1 b2 b3 b4 b5 b6 b7 b8 b9 b10 b11 (nI np) (nI nl) bi14), (aIc cI b0 8 B0), (aIc cI b4 8 B4)] sz) := by
  refine k_ofW (Qc := cQi D (fun r u => u = [(oX0 x0 b0 b1 b2 b3 b4 b5 b6 b7 b8 b9 b10 b11 (nI np) (nI nl) bi14), (aIc cI b0 8 B0), (aIc cI b4 8 B4)])) (by decide) rfl (Nat.le_of_ble_eq_true rfl) ?_
  intro p e s m below meth c A ls hx hb hr hml hts hown hlk hnm hsz hE hP hD hS hA hl
  have hown : s.vm.findClass RX0 = some m.cls := hown
  have hiX0 : ∀ w ∈ u_ws RX0 TX0 15, w ∈ wtX0_limitsOn := fun w h => List.mem_cons_of_mem _ (iuX0 w h)
  have hl : lv_has ls 4 [(0, .ref x0), (1, .int k0)] := hl
  refine lv_iconst (v := 0) hx hb dX0_limitsOn_0 (by decide) ?_
  refine lv_istore_n (lv' := [(2, .int 0), (0, .ref x0), (1, .int k0)]) hx hb dX0_limitsOn_1 rfl hl (by decide) rfl (fun ls hl => ?_)
  refine lv_iconst (v := 0) hx hb dX0_limitsOn_2 (by decide) ?_
  refine lv_istore_n (lv' := [(3, .int 0), (2, .int 0), (0, .ref x0), (1, .int k0)]) hx hb dX0_limitsOn_3 rfl hl (by decide) rfl (fun ls hl => ?_)
  have J4 : ∀ (zz : Nat) (i4 : Nat) (h2_4 : Int32), (i4 ≤ 8) → (8 - i4) < zz → ∀ (H : Heap) (locs : List Loc) (ls : Array Slot), va_P D vwCl [(oX0 x0 b0 b1 b2 b3 b4 b5 b6 b7 b8 b9 b10 b11 (nI np) (nI nl) bi14), (aIc cI b0 8 B0), (aIc cI b4 8 B4)] H → va_D A [(oX0 x0 b0 b1 b2 b3 b4 b5 b6 b7 b8 b9 b10 b11 (nI np) (nI nl) bi14), (aIc cI b0 8 B0), (aIc cI b4 8 B4)] → va_S A s.heap H locs → lv_has ls 4 [(3, .int (nI i4)), (2, .int h2_4), (0, .ref x0), (1, .int k0)] → W p l e { frames := 1, cells := 0, slots := 0, locals := 21 } s m [.ref x0, .int k0].toArray below meth c H locs 0 0 (MQ below (cQi D (fun r u => u = [(oX0 x0 b0 b1 b2 b3 b4 b5 b6 b7 b8 b9 b10 b11 (nI np) (nI nl) bi14), (aIc cI b0 8 B0), (aIc cI b4 8 B4)]) A) [.ref x0, .int k0].toArray s 0 0 A) (F0 m 4 ls []) := by
    intro zz
    induction zz with
    | zero => intro i4 h2_4 _; exact fun h => absurd h (Nat.not_lt_zero _)
    | succ zz ih4 =>
      intro i4 h2_4 hc3_4 hmu4 H locs ls hP hD hS hl
      refine lv_iload_n hx hb dX0_limitsOn_4 rfl (lv_at hl 0 rfl) ?_
      refine lv_aload_n hx hb dX0_limitsOn_5 rfl (lv_at hl 2 rfl) ?_
      refine va_get (D := D) (ci := 0) (v := .int (nI np)) (C := RX0) (T := TX0) (N := 15) hx hb hts hiX0 hown hE.1 hP 0 rfl rfl 12 (by decide) (hts _ (List.mem_cons_of_mem _ wd_296)) (fun _ h9 => h9) rfl dX0_limitsOn_6 ?_
      refine lv_icmp_ge (tgt := 46) hx hb dX0_limitsOn_9 (by decide) (fun c1 => ?_) (fun c1 => ?_)
      · skip
        have nc1 : np ≤ i4 := (nI_leI (a := np) (b := i4) (by omega) (by omega)).mp c1
        refine lv_iload_n hx hb dX0_limitsOn_46 rfl (lv_at hl 1 rfl) ?_
        refine k_iret (u := [(oX0 x0 b0 b1 b2 b3 b4 b5 b6 b7 b8 b9 b10 b11 (nI np) (nI nl) bi14), (aIc cI b0 8 B0), (aIc cI b4 8 B4)]) hx hb hr hlk hP hD hS dX0_limitsOn_47 ?_
        exact rfl
      · skip
        have nc1 : ¬ np ≤ i4 := fun q9 => c1 ((nI_leI (a := np) (b := i4) (by omega) (by omega)).mpr q9)
        refine lv_iload_n hx hb dX0_limitsOn_12 rfl (lv_at hl 0 rfl) ?_
        refine lv_bipush (v := 8) hx hb dX0_limitsOn_13 (by decide) ?_
        refine lv_icmp_ge (tgt := 46) hx hb dX0_limitsOn_15 (by decide) (fun c2 => ?_) (fun c2 => ?_)
        · skip
          have nc2 : 8 ≤ i4 := (nI_leI (a := 8) (b := i4) (by omega) (by omega)).mp c2
          refine lv_iload_n hx hb dX0_limitsOn_46 rfl (lv_at hl 1 rfl) ?_
          refine k_iret (u := [(oX0 x0 b0 b1 b2 b3 b4 b5 b6 b7 b8 b9 b10 b11 (nI np) (nI nl) bi14), (aIc cI b0 8 B0), (aIc cI b4 8 B4)]) hx hb hr hlk hP hD hS dX0_limitsOn_47 ?_
          exact rfl
        · skip
          have nc2 : ¬ 8 ≤ i4 := fun q9 => c2 ((nI_leI (a := 8) (b := i4) (by omega) (by omega)).mpr q9)
          refine lv_aload_n hx hb dX0_limitsOn_18 rfl (lv_at hl 2 rfl) ?_
          refine va_get (D := D) (ci := 0) (v := .ref b4) (C := RX0) (T := TX0) (N := 15) hx hb hts hiX0 hown hE.1 hP 0 rfl rfl 4 (by decide) (hts _ (List.mem_cons_of_mem _ wd_64)) (fun _ h9 => h9) rfl dX0_limitsOn_19 ?_
          refine lv_iload_n hx hb dX0_limitsOn_22 rfl (lv_at hl 0 rfl) ?_
          refine va_iald hx hb hE.1 hP 2 0 rfl rfl (vp_in_nI (n := i4) (by omega) (by decide)) dX0_limitsOn_23 ?_
          refine lv_topi (fun v3 ev3 => ?_)
          refine lv_iload_n hx hb dX0_limitsOn_24 rfl (lv_at hl 3 rfl) ?_
          refine k_iS (va_runSN (As := [.int v3, .int k0]) (rest := []) ⟨hx, hb, hml, hown, hts⟩ (m_X7_has l D cI cJ H.size v3 k0) ⟨va_cnB 2 hts gX0_limitsOn_X7_has_n61 rfl rfl rfl (nwk11 hE.2) (hts _ (List.mem_cons_of_mem _ wd_2)) (by decide +kernel) ⟨Nat.le_of_ble_eq_true rfl, Nat.le_of_ble_eq_true rfl⟩, (hts _ (List.mem_cons_of_mem _ wd_311)), trivial⟩ (k_pre hE hP hD [] (by decide +kernel) rfl) rfl rfl hl.1 rfl (lv_room (Nat.le_of_ble_eq_true rfl)) dX0_limitsOn_25 ⟨Nat.le_of_ble_eq_true rfl, Nat.le_of_ble_eq_true rfl⟩) hP hD hS hA [] rfl (fun _ _ h9 => h9.2) (fun r4 H locs hw5 hP hD hS => ?_)
          obtain ⟨hw5, -⟩ := hw5
          refine lv_if_eq (tgt := 40) hx hb dX0_limitsOn_28 (by decide) (fun c6 => ?_) (fun c6 => ?_)
          · skip
            have hc6 : ¬ (¬ (v3 >>> (k0 &&& 31)) &&& 1 = 0) := bz_0 hw5 c6
            refine lv_iinc (v := (nI (i4 + 1))) (lv' := [(3, .int (nI (i4 + 1))), (2, .int h2_4), (0, .ref x0), (1, .int k0)]) hx hb dX0_limitsOn_40 hl (k := 0) rfl (nI_1 _) (by decide) rfl (fun ls hl => ?_)
            refine lv_goto (tgt := 4) hx hb dX0_limitsOn_43 (by decide) ?_
            exact ih4 (i4 + 1) h2_4 (by omega) (by omega) _ _ _ hP hD hS (lv_sub hl [0, 1, 2, 3] rfl)
          · skip
            have hc6 : ¬ (v3 >>> (k0 &&& 31)) &&& 1 = 0 := bz_1 hw5 c6
            refine lv_iload_n hx hb dX0_limitsOn_31 rfl (lv_at hl 1 rfl) ?_
            refine lv_aload_n hx hb dX0_limitsOn_32 rfl (lv_at hl 2 rfl) ?_
            refine va_get (D := D) (ci := 0) (v := .ref b0) (C := RX0) (T := TX0) (N := 15) hx hb hts hiX0 hown hE.1 hP 0 rfl rfl 0 (by decide) (hts _ (List.mem_cons_of_mem _ wd_60)) (fun _ h9 => h9) rfl dX0_limitsOn_33 ?_
            refine lv_iload_n hx hb dX0_limitsOn_36 rfl (lv_at hl 0 rfl) ?_
            refine va_iald hx hb hE.1 hP 1 0 rfl rfl (vp_in_nI (n := i4) (by omega) (by decide)) dX0_limitsOn_37 ?_
            refine lv_topi (fun v7 ev7 => ?_)
            refine lv_iadd hx hb dX0_limitsOn_38 ?_
            refine lv_topi (fun v8 ev8 => ?_)
            refine lv_istore_n (lv' := [(2, .int v8), (3, .int (nI i4)), (0, .ref x0), (1, .int k0)]) hx hb dX0_limitsOn_39 rfl hl (by decide) rfl (fun ls hl => ?_)
            refine lv_iinc (v := (nI (i4 + 1))) (lv' := [(3, .int (nI (i4 + 1))), (2, .int v8), (0, .ref x0), (1, .int k0)]) hx hb dX0_limitsOn_40 hl (k := 1) rfl (nI_1 _) (by decide) rfl (fun ls hl => ?_)
            refine lv_goto (tgt := 4) hx hb dX0_limitsOn_43 (by decide) ?_
            exact ih4 (i4 + 1) v8 (by omega) (by omega) _ _ _ hP hD hS (lv_sub hl [0, 1, 2, 3] rfl)
  exact J4 _ 0 0 (by omega) (Nat.lt_succ_self _) _ _ _ hP hD hS (lv_sub hl [0, 1, 2, 3] rfl)
theorem dX4_asBooked_0 : decode cX4_asBooked 0 = .ok (.aload_n 0, 1) := by decide +kernel
theorem dX4_asBooked_1 : decode cX4_asBooked 1 = .ok (.aload_n 0, 1) := by decide +kernel
theorem dX4_asBooked_2 : decode cX4_asBooked 2 = .ok (.getfield 12, 3) := by decide +kernel
theorem dX4_asBooked_5 : decode cX4_asBooked 5 = .ok (.invokevirtual 54, 3) := by decide +kernel
theorem dX4_asBooked_8 : decode cX4_asBooked 8 = .ok (.putfield 58, 3) := by decide +kernel
theorem dX4_asBooked_11 : decode cX4_asBooked 11 = .ok (.aload_n 0, 1) := by decide +kernel
theorem dX4_asBooked_12 : decode cX4_asBooked 12 = .ok (.aload_n 0, 1) := by decide +kernel
theorem dX4_asBooked_13 : decode cX4_asBooked 13 = .ok (.getfield 12, 3) := by decide +kernel
theorem dX4_asBooked_16 : decode cX4_asBooked 16 = .ok (.getfield 62, 3) := by decide +kernel
theorem dX4_asBooked_19 : decode cX4_asBooked 19 = .ok (.putfield 65, 3) := by decide +kernel
theorem dX4_asBooked_22 : decode cX4_asBooked 22 = .ok (.aload_n 0, 1) := by decide +kernel
theorem dX4_asBooked_23 : decode cX4_asBooked 23 = .ok (.getfield 12, 3) := by decide +kernel
theorem dX4_asBooked_26 : decode cX4_asBooked 26 = .ok (.getfield 66, 3) := by decide +kernel
theorem dX4_asBooked_29 : decode cX4_asBooked 29 = .ok (.iconst 0, 1) := by decide +kernel
theorem dX4_asBooked_30 : decode cX4_asBooked 30 = .ok (.aload_n 0, 1) := by decide +kernel
theorem dX4_asBooked_31 : decode cX4_asBooked 31 = .ok (.getfield 21, 3) := by decide +kernel
theorem dX4_asBooked_34 : decode cX4_asBooked 34 = .ok (.getfield 69, 3) := by decide +kernel
theorem dX4_asBooked_37 : decode cX4_asBooked 37 = .ok (.iconst 0, 1) := by decide +kernel
theorem dX4_asBooked_38 : decode cX4_asBooked 38 = .ok (.bipush 8, 2) := by decide +kernel
theorem dX4_asBooked_40 : decode cX4_asBooked 40 = .ok (.invokestatic 70, 3) := by decide +kernel
theorem dX4_asBooked_43 : decode cX4_asBooked 43 = .ok (.return_, 1) := by decide +kernel
theorem gX4_asBooked_X0_everyone : GoodIn wtX4_asBooked (wsV RX4 54 RX0 yX0_everyone wtX0_everyone) := tb_good (tb_v0 wd_292 wd_293 wd_294 wd_39 wd_295)
set_option maxHeartbeats 4000000 in
set_option maxRecDepth 100000 in
theorem m_X4_asBooked (l : Launch) (D : va_G) (cI cJ : ClassId) (sz : Nat) (x1 x0 s1 s2 s5 s6 s7 s8 s9 s10 s11 b0 b1 b2 b3 b4 b5 b6 b7 b8 b9 b10 b11 w0 w1 w2 w3 w4 w8 wn lv np nl pn : Nat) (si4 si12 si13 bi14 wi6 : Int32) (B5 W0 : Nat → Int32) (hnp : np ≤ 8) : Met l yX4_asBooked wtX4_asBooked { frames := 1, cells := 0, slots := 0, locals := 40 } (cPc D cI cJ [.ref x1] sz [(oX4 x1 x0 s1 s2 (nI pn) si4 s5 s6 s7 s8 s9 s10 s11 si12 si13), (oX0 x0 b0 b1 b2 b3 b4 b5 b6 b7 b8 b9 b10 b11 (nI np) (nI nl) bi14), (oX6 s1 w0 w1 w2 w3 w4 (nI wn) wi6 (nI lv) w8), (aIc cI b5 8 B5), (aIc cI w0 8 W0)]) (cQv D (fun u => ∃ (W0p : Nat → Int32) (si4p : Int32), u = [(oX4 x1 x0 s1 s2 (nI (2 ^ np - 1)) si4p s5 s6 s7 s8 s9 s10 s11 si12 si13), (oX0 x0 b0 b1 b2 b3 b4 b5 b6 b7 b8 b9 b10 b11 (nI np) (nI nl) bi14), (oX6 s1 w0 w1 w2 w3 w4 (nI wn) wi6 (nI lv) w8), (aIc cI b5 8 B5), (aIc cI w0 8 W0p)]) (va_A [(oX4 x1 x0 s1 s2 (nI pn) si4 s5 s6 s7 s8 s9 s10 s11 si12 si13), (oX0 x0 b0 b1 b2 b3 b4 b5 b6 b7 b8 b9 b10 b11 (nI np) (nI nl) bi14), (oX6 s1 w0 w1 w2 w3 w4 (nI wn) wi6 (nI lv) w8), (aIc cI b5 8 B5), (aIc cI w0 8 W0)] sz)) 0 0 (va_A [(oX4 x1 x0 s1 s2 (nI pn) si4 s5 s6 s7 s8 s9 s10 s11 si12 si13), (oX0 x0 b0 b1 b2 b3 b4 b5 b6 b7 b8 b9 b10 b11 (nI np) (nI nl) bi14), (oX6 s1 w0 w1 w2 w3 w4 (nI wn) wi6 (nI lv) w8), (aIc cI b5 8 B5), (aIc cI w0 8 W0)] sz) := by
  refine k_ofW (Qc := cQv D (fun u => ∃ (W0p : Nat → Int32) (si4p : Int32), u = [(oX4 x1 x0 s1 s2 (nI (2 ^ np - 1)) si4p s5 s6 s7 s8 s9 s10 s11 si12 si13), (oX0 x0 b0 b1 b2 b3 b4 b5 b6 b7 b8 b9 b10 b11 (nI np) (nI nl) bi14), (oX6 s1 w0 w1 w2 w3 w4 (nI wn) wi6 (nI lv) w8), (aIc cI b5 8 B5), (aIc cI w0 8 W0p)])) (by decide) rfl (Nat.le_of_ble_eq_true rfl) ?_
  intro p e s m below meth c A ls hx hb hr hml hts hown hlk hnm hsz hE hP hD hS hA hl
  have hown : s.vm.findClass RX4 = some m.cls := hown
  have hiX4 : ∀ w ∈ u_ws RX4 TX4 14, w ∈ wtX4_asBooked := fun w h => List.mem_cons_of_mem _ (iuX4 w h)
  have hiX0 : ∀ w ∈ u_ws RX0 TX0 15, w ∈ wtX4_asBooked := fun w h => List.mem_cons_of_mem _ (iuX0 w h)
  have hiX6 : ∀ w ∈ u_ws RX6 TX6 9, w ∈ wtX4_asBooked := fun w h => List.mem_cons_of_mem _ (iuX6 w h)
  have hl : lv_has ls 1 [(0, .ref x1)] := hl
  refine lv_aload_n hx hb dX4_asBooked_0 rfl (lv_at hl 0 rfl) ?_
  refine lv_aload_n hx hb dX4_asBooked_1 rfl (lv_at hl 0 rfl) ?_
  refine va_get (D := D) (ci := 4) (v := .ref x0) (C := RX4) (T := TX4) (N := 14) hx hb hts hiX4 hown hE.1 hP 0 rfl rfl 0 (by decide) (hts _ (List.mem_cons_of_mem _ wd_40)) (fun _ h9 => h9) rfl dX4_asBooked_2 ?_
  refine k_iS (va_runV (As := []) (rest := [.ref x1]) ⟨hx, hb, hml, hown, hts⟩ (m_X0_everyone l D cI cJ (s.heap).size x0 b0 b1 b2 b3 b4 b5 b6 b7 b8 b9 b10 b11 np nl bi14 (by omega)) (cwV 0 hts gX4_asBooked_X0_everyone rfl rfl rfl (by decide +kernel) ⟨Nat.le_of_ble_eq_true rfl, Nat.le_of_ble_eq_true rfl⟩) (k_preV hE hP hD [1] (by decide +kernel) rfl 1 rfl rfl) rfl rfl hl.1 rfl (lv_room (Nat.le_of_ble_eq_true rfl)) dX4_asBooked_5 ⟨Nat.le_of_ble_eq_true rfl, Nat.le_of_ble_eq_true rfl⟩) hP hD hS hA [1] rfl (fun _ _ ⟨_, h9⟩ => h9) (fun r1 H locs hw2 hP hD hS => ?_)
  obtain ⟨rfl, -⟩ := hw2
  refine va_put (D := D) (ci := 4) (v := .int (nI (2 ^ np - 1))) (ty := .int) (C := RX4) (T := TX4) (N := 14) hx hb hts hiX4 tyX4 tyX4_ok nmX4 hown hE.1 hP hD hS 0 rfl rfl 3 (by decide) (hts _ (List.mem_cons_of_mem _ wd_283)) (fun _ h9 => h9) rfl (by decide +kernel) rfl rfl (Nat.le_of_ble_eq_true rfl) dX4_asBooked_8 (fun H locs hP hD hS => ?_)
  refine k_re (w := [(oX4 x1 x0 s1 s2 (nI (2 ^ np - 1)) si4 s5 s6 s7 s8 s9 s10 s11 si12 si13), (oX0 x0 b0 b1 b2 b3 b4 b5 b6 b7 b8 b9 b10 b11 (nI np) (nI nl) bi14), (oX6 s1 w0 w1 w2 w3 w4 (nI wn) wi6 (nI lv) w8), (aIc cI b5 8 B5), (aIc cI w0 8 W0)]) hP hD (fun hP hD => ?_)
  refine lv_aload_n hx hb dX4_asBooked_11 rfl (lv_at hl 0 rfl) ?_
  refine lv_aload_n hx hb dX4_asBooked_12 rfl (lv_at hl 0 rfl) ?_
  refine va_get (D := D) (ci := 4) (v := .ref x0) (C := RX4) (T := TX4) (N := 14) hx hb hts hiX4 hown hE.1 hP 0 rfl rfl 0 (by decide) (hts _ (List.mem_cons_of_mem _ wd_40)) (fun _ h9 => h9) rfl dX4_asBooked_13 ?_
  refine va_get (D := D) (ci := 0) (v := .int bi14) (C := RX0) (T := TX0) (N := 15) hx hb hts hiX0 hown hE.1 hP 1 rfl rfl 14 (by decide) (hts _ (List.mem_cons_of_mem _ wd_284)) (fun _ h9 => h9) rfl dX4_asBooked_16 ?_
  refine va_put (D := D) (ci := 4) (v := .int bi14) (ty := .int) (C := RX4) (T := TX4) (N := 14) hx hb hts hiX4 tyX4 tyX4_ok nmX4 hown hE.1 hP hD hS 0 rfl rfl 4 (by decide) (hts _ (List.mem_cons_of_mem _ wd_285)) (fun _ h9 => h9) rfl (by decide +kernel) rfl rfl (Nat.le_of_ble_eq_true rfl) dX4_asBooked_19 (fun H locs hP hD hS => ?_)
  refine k_re (w := [(oX4 x1 x0 s1 s2 (nI (2 ^ np - 1)) bi14 s5 s6 s7 s8 s9 s10 s11 si12 si13), (oX0 x0 b0 b1 b2 b3 b4 b5 b6 b7 b8 b9 b10 b11 (nI np) (nI nl) bi14), (oX6 s1 w0 w1 w2 w3 w4 (nI wn) wi6 (nI lv) w8), (aIc cI b5 8 B5), (aIc cI w0 8 W0)]) hP hD (fun hP hD => ?_)
  refine lv_aload_n hx hb dX4_asBooked_22 rfl (lv_at hl 0 rfl) ?_
  refine va_get (D := D) (ci := 4) (v := .ref x0) (C := RX4) (T := TX4) (N := 14) hx hb hts hiX4 hown hE.1 hP 0 rfl rfl 0 (by decide) (hts _ (List.mem_cons_of_mem _ wd_40)) (fun _ h9 => h9) rfl dX4_asBooked_23 ?_
  refine va_get (D := D) (ci := 0) (v := .ref b5) (C := RX0) (T := TX0) (N := 15) hx hb hts hiX0 hown hE.1 hP 1 rfl rfl 5 (by decide) (hts _ (List.mem_cons_of_mem _ wd_286)) (fun _ h9 => h9) rfl dX4_asBooked_26 ?_
  refine lv_iconst (v := 0) hx hb dX4_asBooked_29 (by decide) ?_
  refine lv_aload_n hx hb dX4_asBooked_30 rfl (lv_at hl 0 rfl) ?_
  refine va_get (D := D) (ci := 4) (v := .ref s1) (C := RX4) (T := TX4) (N := 14) hx hb hts hiX4 hown hE.1 hP 0 rfl rfl 1 (by decide) (hts _ (List.mem_cons_of_mem _ wd_44)) (fun _ h9 => h9) rfl dX4_asBooked_31 ?_
  refine va_get (D := D) (ci := 6) (v := .ref w0) (C := RX6) (T := TX6) (N := 9) hx hb hts hiX6 hown hE.1 hP 2 rfl rfl 0 (by decide) (hts _ (List.mem_cons_of_mem _ wd_287)) (fun _ h9 => h9) rfl dX4_asBooked_34 ?_
  refine lv_iconst (v := 0) hx hb dX4_asBooked_37 (by decide) ?_
  refine lv_bipush (v := 8) hx hb dX4_asBooked_38 (by decide) ?_
  refine va_copyi hx hb (by rw [hml]; exact hl.1.symm) hown (hts _ (List.mem_cons_of_mem _ wd_288)) (hts _ (List.mem_cons_of_mem _ wd_289)) (hts _ (List.mem_cons_of_mem _ wd_290)) (hts _ (List.mem_cons_of_mem _ wd_291)) hE.1 hP hD hS 3 4 0 0 rfl rfl rfl rfl rfl (by decide) (by decide) (by decide) (by decide) (by decide) (fun _ _ => rfl) (Nat.le_of_ble_eq_true rfl) (Nat.le_of_ble_eq_true rfl) dX4_asBooked_40 (fun H locs hP hD hS => ?_)
  refine k_re (w := [(oX4 x1 x0 s1 s2 (nI (2 ^ np - 1)) bi14 s5 s6 s7 s8 s9 s10 s11 si12 si13), (oX0 x0 b0 b1 b2 b3 b4 b5 b6 b7 b8 b9 b10 b11 (nI np) (nI nl) bi14), (oX6 s1 w0 w1 w2 w3 w4 (nI wn) wi6 (nI lv) w8), (aIc cI b5 8 B5), (aIc cI w0 8 (va_cpy B5 W0 (0 : Int32).toNatClampNeg (0 : Int32).toNatClampNeg (8 : Int32).toNatClampNeg))]) hP hD (fun hP hD => ?_)
  refine k_vret (u := [(oX4 x1 x0 s1 s2 (nI (2 ^ np - 1)) bi14 s5 s6 s7 s8 s9 s10 s11 si12 si13), (oX0 x0 b0 b1 b2 b3 b4 b5 b6 b7 b8 b9 b10 b11 (nI np) (nI nl) bi14), (oX6 s1 w0 w1 w2 w3 w4 (nI wn) wi6 (nI lv) w8), (aIc cI b5 8 B5), (aIc cI w0 8 (va_cpy B5 W0 (0 : Int32).toNatClampNeg (0 : Int32).toNatClampNeg (8 : Int32).toNatClampNeg))]) hx hb hr hlk hP hD hS dX4_asBooked_43 ?_
  exact ⟨(va_cpy B5 W0 (0 : Int32).toNatClampNeg (0 : Int32).toNatClampNeg (8 : Int32).toNatClampNeg), bi14, rfl⟩
theorem dX4_owed_0 : decode cX4_owed 0 = .ok (.aload_n 0, 1) := by decide +kernel
theorem dX4_owed_1 : decode cX4_owed 1 = .ok (.getfield 12, 3) := by decide +kernel
theorem dX4_owed_4 : decode cX4_owed 4 = .ok (.getfield 121, 3) := by decide +kernel
theorem dX4_owed_7 : decode cX4_owed 7 = .ok (.iload_n 1, 1) := by decide +kernel
theorem dX4_owed_8 : decode cX4_owed 8 = .ok (.iaload, 1) := by decide +kernel
theorem dX4_owed_9 : decode cX4_owed 9 = .ok (.iload_n 2, 1) := by decide +kernel
theorem dX4_owed_10 : decode cX4_owed 10 = .ok (.invokestatic 113, 3) := by decide +kernel
theorem dX4_owed_13 : decode cX4_owed 13 = .ok (.ifCond .ne 5, 3) := by decide +kernel
theorem dX4_owed_16 : decode cX4_owed 16 = .ok (.iconst 0, 1) := by decide +kernel
theorem dX4_owed_17 : decode cX4_owed 17 = .ok (.ireturn, 1) := by decide +kernel
theorem dX4_owed_18 : decode cX4_owed 18 = .ok (.aload_n 0, 1) := by decide +kernel
theorem dX4_owed_19 : decode cX4_owed 19 = .ok (.getfield 12, 3) := by decide +kernel
theorem dX4_owed_22 : decode cX4_owed 22 = .ok (.getfield 124, 3) := by decide +kernel
theorem dX4_owed_25 : decode cX4_owed 25 = .ok (.iload_n 1, 1) := by decide +kernel
theorem dX4_owed_26 : decode cX4_owed 26 = .ok (.iaload, 1) := by decide +kernel
theorem dX4_owed_27 : decode cX4_owed 27 = .ok (.istore 4, 2) := by decide +kernel
theorem dX4_owed_29 : decode cX4_owed 29 = .ok (.aload_n 0, 1) := by decide +kernel
theorem dX4_owed_30 : decode cX4_owed 30 = .ok (.getfield 12, 3) := by decide +kernel
theorem dX4_owed_33 : decode cX4_owed 33 = .ok (.getfield 127, 3) := by decide +kernel
theorem dX4_owed_36 : decode cX4_owed 36 = .ok (.iload_n 1, 1) := by decide +kernel
theorem dX4_owed_37 : decode cX4_owed 37 = .ok (.iaload, 1) := by decide +kernel
theorem dX4_owed_38 : decode cX4_owed 38 = .ok (.istore 5, 2) := by decide +kernel
theorem dX4_owed_40 : decode cX4_owed 40 = .ok (.aload_n 0, 1) := by decide +kernel
theorem dX4_owed_41 : decode cX4_owed 41 = .ok (.getfield 12, 3) := by decide +kernel
theorem dX4_owed_44 : decode cX4_owed 44 = .ok (.getfield 130, 3) := by decide +kernel
theorem dX4_owed_47 : decode cX4_owed 47 = .ok (.iload_n 1, 1) := by decide +kernel
theorem dX4_owed_48 : decode cX4_owed 48 = .ok (.bipush 8, 2) := by decide +kernel
theorem dX4_owed_50 : decode cX4_owed 50 = .ok (.imul, 1) := by decide +kernel
theorem dX4_owed_51 : decode cX4_owed 51 = .ok (.iload_n 2, 1) := by decide +kernel
theorem dX4_owed_52 : decode cX4_owed 52 = .ok (.iadd, 1) := by decide +kernel
theorem dX4_owed_53 : decode cX4_owed 53 = .ok (.iaload, 1) := by decide +kernel
theorem dX4_owed_54 : decode cX4_owed 54 = .ok (.istore 6, 2) := by decide +kernel
theorem dX4_owed_56 : decode cX4_owed 56 = .ok (.iload_n 3, 1) := by decide +kernel
theorem dX4_owed_57 : decode cX4_owed 57 = .ok (.istore 7, 2) := by decide +kernel
theorem dX4_owed_59 : decode cX4_owed 59 = .ok (.iload 5, 2) := by decide +kernel
theorem dX4_owed_61 : decode cX4_owed 61 = .ok (.iload 4, 2) := by decide +kernel
theorem dX4_owed_63 : decode cX4_owed 63 = .ok (.if_icmp .le 21, 3) := by decide +kernel
theorem dX4_owed_66 : decode cX4_owed 66 = .ok (.iload 5, 2) := by decide +kernel
theorem dX4_owed_68 : decode cX4_owed 68 = .ok (.ifCond .le 16, 3) := by decide +kernel
theorem dX4_owed_71 : decode cX4_owed 71 = .ok (.iload_n 3, 1) := by decide +kernel
theorem dX4_owed_72 : decode cX4_owed 72 = .ok (.i2l, 1) := by decide +kernel
theorem dX4_owed_73 : decode cX4_owed 73 = .ok (.iload 4, 2) := by decide +kernel
theorem dX4_owed_75 : decode cX4_owed 75 = .ok (.i2l, 1) := by decide +kernel
theorem dX4_owed_76 : decode cX4_owed 76 = .ok (.lmul, 1) := by decide +kernel
theorem dX4_owed_77 : decode cX4_owed 77 = .ok (.iload 5, 2) := by decide +kernel
theorem dX4_owed_79 : decode cX4_owed 79 = .ok (.i2l, 1) := by decide +kernel
theorem dX4_owed_80 : decode cX4_owed 80 = .ok (.ldiv, 1) := by decide +kernel
theorem dX4_owed_81 : decode cX4_owed 81 = .ok (.l2i, 1) := by decide +kernel
theorem dX4_owed_82 : decode cX4_owed 82 = .ok (.istore 7, 2) := by decide +kernel
theorem dX4_owed_84 : decode cX4_owed 84 = .ok (.iload 7, 2) := by decide +kernel
theorem dX4_owed_86 : decode cX4_owed 86 = .ok (.aload_n 0, 1) := by decide +kernel
theorem dX4_owed_87 : decode cX4_owed 87 = .ok (.getfield 12, 3) := by decide +kernel
theorem dX4_owed_90 : decode cX4_owed 90 = .ok (.getfield 133, 3) := by decide +kernel
theorem dX4_owed_93 : decode cX4_owed 93 = .ok (.iload_n 1, 1) := by decide +kernel
theorem dX4_owed_94 : decode cX4_owed 94 = .ok (.iaload, 1) := by decide +kernel
theorem dX4_owed_95 : decode cX4_owed 95 = .ok (.isub, 1) := by decide +kernel
theorem dX4_owed_96 : decode cX4_owed 96 = .ok (.iconst 0, 1) := by decide +kernel
theorem dX4_owed_97 : decode cX4_owed 97 = .ok (.invokestatic 136, 3) := by decide +kernel
theorem dX4_owed_100 : decode cX4_owed 100 = .ok (.istore 7, 2) := by decide +kernel
theorem dX4_owed_102 : decode cX4_owed 102 = .ok (.iload 7, 2) := by decide +kernel
theorem dX4_owed_104 : decode cX4_owed 104 = .ok (.iload 4, 2) := by decide +kernel
theorem dX4_owed_106 : decode cX4_owed 106 = .ok (.invokestatic 141, 3) := by decide +kernel
theorem dX4_owed_109 : decode cX4_owed 109 = .ok (.aload_n 0, 1) := by decide +kernel
theorem dX4_owed_110 : decode cX4_owed 110 = .ok (.getfield 36, 3) := by decide +kernel
theorem dX4_owed_113 : decode cX4_owed 113 = .ok (.iload_n 1, 1) := by decide +kernel
theorem dX4_owed_114 : decode cX4_owed 114 = .ok (.iaload, 1) := by decide +kernel
theorem dX4_owed_115 : decode cX4_owed 115 = .ok (.invokestatic 141, 3) := by decide +kernel
theorem dX4_owed_118 : decode cX4_owed 118 = .ok (.istore 7, 2) := by decide +kernel
theorem dX4_owed_120 : decode cX4_owed 120 = .ok (.iload 6, 2) := by decide +kernel
theorem dX4_owed_122 : decode cX4_owed 122 = .ok (.iconst (-1), 1) := by decide +kernel
theorem dX4_owed_123 : decode cX4_owed 123 = .ok (.if_icmp .ne 8, 3) := by decide +kernel
theorem dX4_owed_126 : decode cX4_owed 126 = .ok (.iload 7, 2) := by decide +kernel
theorem dX4_owed_128 : decode cX4_owed 128 = .ok (.goto 10, 3) := by decide +kernel
theorem dX4_owed_131 : decode cX4_owed 131 = .ok (.iload 7, 2) := by decide +kernel
theorem dX4_owed_133 : decode cX4_owed 133 = .ok (.iload 6, 2) := by decide +kernel
theorem dX4_owed_135 : decode cX4_owed 135 = .ok (.invokestatic 141, 3) := by decide +kernel
theorem dX4_owed_138 : decode cX4_owed 138 = .ok (.ireturn, 1) := by decide +kernel
theorem gX4_owed_X7_has_n113 : GoodIn wtX4_owed (wtX7_has) := tb_good (tb_c0 wd_312)
set_option maxHeartbeats 4000000 in
set_option maxRecDepth 100000 in
theorem m_X4_owed (l : Launch) (D : va_G) (cI cJ : ClassId) (sz : Nat) (x1 x0 s1 s2 s5 s6 s7 s8 s9 s10 s11 b0 b1 b2 b3 b4 b5 b6 b7 b8 b9 b10 b11 p0 it np nl pn : Nat) (si4 si12 si13 bi14 bu : Int32) (B0 B2 B3 B4 B8 S6 : Nat → Int32) (hp : p0 < 8) (hit : it < 8) : Met l yX4_owed wtX4_owed { frames := 1, cells := 0, slots := 0, locals := 21 } (cPc D cI cJ [.ref x1, .int (nI p0), .int (nI it), .int bu] sz [(oX4 x1 x0 s1 s2 (nI pn) si4 s5 s6 s7 s8 s9 s10 s11 si12 si13), (oX0 x0 b0 b1 b2 b3 b4 b5 b6 b7 b8 b9 b10 b11 (nI np) (nI nl) bi14), (aIc cI b0 8 B0), (aIc cI b2 8 B2), (aIc cI b3 8 B3), (aIc cI b4 8 B4), (aIc cI b8 64 B8), (aIc cI s6 8 S6)]) (cQi D (fun r u => u = [(oX4 x1 x0 s1 s2 (nI pn) si4 s5 s6 s7 s8 s9 s10 s11 si12 si13), (oX0 x0 b0 b1 b2 b3 b4 b5 b6 b7 b8 b9 b10 b11 (nI np) (nI nl) bi14), (aIc cI b0 8 B0), (aIc cI b2 8 B2), (aIc cI b3 8 B3), (aIc cI b4 8 B4), (aIc cI b8 64 B8), (aIc cI s6 8 S6)]) (va_A [(oX4 x1 x0 s1 s2 (nI pn) si4 s5 s6 s7 s8 s9 s10 s11 si12 si13), (oX0 x0 b0 b1 b2 b3 b4 b5 b6 b7 b8 b9 b10 b11 (nI np) (nI nl) bi14), (aIc cI b0 8 B0), (aIc cI b2 8 B2), (aIc cI b3 8 B3), (aIc cI b4 8 B4), (aIc cI b8 64 B8), (aIc cI s6 8 S6)] sz)) 0 0 (va_A [(oX4 x1 x0 s1 s2 (nI pn) si4 s5 s6 s7 s8 s9 s10 s11 si12 si13), (oX0 x0 b0 b1 b2 b3 b4 b5 b6 b7 b8 b9 b10 b11 (nI np) (nI nl) bi14), (aIc cI b0 8 B0), (aIc cI b2 8 B2), (aIc cI b3 8 B3), (aIc cI b4 8 B4), (aIc cI b8 64 B8), (aIc cI s6 8 S6)] sz) := by
  refine k_ofW (Qc := cQi D (fun r u => u = [(oX4 x1 x0 s1 s2 (nI pn) si4 s5 s6 s7 s8 s9 s10 s11 si12 si13), (oX0 x0 b0 b1 b2 b3 b4 b5 b6 b7 b8 b9 b10 b11 (nI np) (nI nl) bi14), (aIc cI b0 8 B0), (aIc cI b2 8 B2), (aIc cI b3 8 B3), (aIc cI b4 8 B4), (aIc cI b8 64 B8), (aIc cI s6 8 S6)])) (by decide) rfl (Nat.le_of_ble_eq_true rfl) ?_
  intro p e s m below meth c A ls hx hb hr hml hts hown hlk hnm hsz hE hP hD hS hA hl
  have hown : s.vm.findClass RX4 = some m.cls := hown
  have hiX4 : ∀ w ∈ u_ws RX4 TX4 14, w ∈ wtX4_owed := fun w h => List.mem_cons_of_mem _ (iuX4 w h)
  have hiX0 : ∀ w ∈ u_ws RX0 TX0 15, w ∈ wtX4_owed := fun w h => List.mem_cons_of_mem _ (iuX0 w h)
  have hl : lv_has ls 8 [(0, .ref x1), (1, .int (nI p0)), (2, .int (nI it)), (3, .int bu)] := hl
  refine lv_aload_n hx hb dX4_owed_0 rfl (lv_at hl 0 rfl) ?_
  refine va_get (D := D) (ci := 4) (v := .ref x0) (C := RX4) (T := TX4) (N := 14) hx hb hts hiX4 hown hE.1 hP 0 rfl rfl 0 (by decide) (hts _ (List.mem_cons_of_mem _ wd_40)) (fun _ h9 => h9) rfl dX4_owed_1 ?_
  refine va_get (D := D) (ci := 0) (v := .ref b4) (C := RX0) (T := TX0) (N := 15) hx hb hts hiX0 hown hE.1 hP 1 rfl rfl 4 (by decide) (hts _ (List.mem_cons_of_mem _ wd_317)) (fun _ h9 => h9) rfl dX4_owed_4 ?_
  refine lv_iload_n hx hb dX4_owed_7 rfl (lv_at hl 1 rfl) ?_
  refine va_iald hx hb hE.1 hP 5 0 rfl rfl (vp_in_nI (n := p0) (by omega) (by decide)) dX4_owed_8 ?_
  refine lv_topi (fun v1 ev1 => ?_)
  refine lv_iload_n hx hb dX4_owed_9 rfl (lv_at hl 2 rfl) ?_
  refine k_iS (va_runSN (As := [.int v1, .int (nI it)]) (rest := []) ⟨hx, hb, hml, hown, hts⟩ (m_X7_has l D cI cJ (s.heap).size v1 (nI it)) ⟨va_cnB 2 hts gX4_owed_X7_has_n113 rfl rfl rfl (nwk5 hE.2) (hts _ (List.mem_cons_of_mem _ wd_2)) (by decide +kernel) ⟨Nat.le_of_ble_eq_true rfl, Nat.le_of_ble_eq_true rfl⟩, (hts _ (List.mem_cons_of_mem _ wd_311)), trivial⟩ (k_pre hE hP hD [] (by decide +kernel) rfl) rfl rfl hl.1 rfl (lv_room (Nat.le_of_ble_eq_true rfl)) dX4_owed_10 ⟨Nat.le_of_ble_eq_true rfl, Nat.le_of_ble_eq_true rfl⟩) hP hD hS hA [] rfl (fun _ _ h9 => h9.2) (fun r2 H locs hw3 hP hD hS => ?_)
  obtain ⟨hw3, -⟩ := hw3
  refine lv_if_ne (tgt := 18) hx hb dX4_owed_13 (by decide) (fun c4 => ?_) (fun c4 => ?_)
  · skip
    have hc4 : ¬ (v1 >>> ((nI it) &&& 31)) &&& 1 = 0 := bz_1 hw3 c4
    refine lv_aload_n hx hb dX4_owed_18 rfl (lv_at hl 0 rfl) ?_
    refine va_get (D := D) (ci := 4) (v := .ref x0) (C := RX4) (T := TX4) (N := 14) hx hb hts hiX4 hown hE.1 hP 0 rfl rfl 0 (by decide) (hts _ (List.mem_cons_of_mem _ wd_40)) (fun _ h9 => h9) rfl dX4_owed_19 ?_
    refine va_get (D := D) (ci := 0) (v := .ref b0) (C := RX0) (T := TX0) (N := 15) hx hb hts hiX0 hown hE.1 hP 1 rfl rfl 0 (by decide) (hts _ (List.mem_cons_of_mem _ wd_318)) (fun _ h9 => h9) rfl dX4_owed_22 ?_
    refine lv_iload_n hx hb dX4_owed_25 rfl (lv_at hl 1 rfl) ?_
    refine va_iald hx hb hE.1 hP 2 0 rfl rfl (vp_in_nI (n := p0) (by omega) (by decide)) dX4_owed_26 ?_
    refine lv_topi (fun v5 ev5 => ?_)
    refine lv_istore (lv' := [(4, .int v5), (0, .ref x1), (1, .int (nI p0)), (2, .int (nI it)), (3, .int bu)]) hx hb dX4_owed_27 hl (by decide) rfl (fun ls hl => ?_)
    refine lv_aload_n hx hb dX4_owed_29 rfl (lv_at hl 1 rfl) ?_
    refine va_get (D := D) (ci := 4) (v := .ref x0) (C := RX4) (T := TX4) (N := 14) hx hb hts hiX4 hown hE.1 hP 0 rfl rfl 0 (by decide) (hts _ (List.mem_cons_of_mem _ wd_40)) (fun _ h9 => h9) rfl dX4_owed_30 ?_
    refine va_get (D := D) (ci := 0) (v := .ref b3) (C := RX0) (T := TX0) (N := 15) hx hb hts hiX0 hown hE.1 hP 1 rfl rfl 3 (by decide) (hts _ (List.mem_cons_of_mem _ wd_319)) (fun _ h9 => h9) rfl dX4_owed_33 ?_
    refine lv_iload_n hx hb dX4_owed_36 rfl (lv_at hl 2 rfl) ?_
    refine va_iald hx hb hE.1 hP 4 0 rfl rfl (vp_in_nI (n := p0) (by omega) (by decide)) dX4_owed_37 ?_
    refine lv_topi (fun v6 ev6 => ?_)
    refine lv_istore (lv' := [(5, .int v6), (4, .int v5), (0, .ref x1), (1, .int (nI p0)), (2, .int (nI it)), (3, .int bu)]) hx hb dX4_owed_38 hl (by decide) rfl (fun ls hl => ?_)
    refine lv_aload_n hx hb dX4_owed_40 rfl (lv_at hl 2 rfl) ?_
    refine va_get (D := D) (ci := 4) (v := .ref x0) (C := RX4) (T := TX4) (N := 14) hx hb hts hiX4 hown hE.1 hP 0 rfl rfl 0 (by decide) (hts _ (List.mem_cons_of_mem _ wd_40)) (fun _ h9 => h9) rfl dX4_owed_41 ?_
    refine va_get (D := D) (ci := 0) (v := .ref b8) (C := RX0) (T := TX0) (N := 15) hx hb hts hiX0 hown hE.1 hP 1 rfl rfl 8 (by decide) (hts _ (List.mem_cons_of_mem _ wd_320)) (fun _ h9 => h9) rfl dX4_owed_44 ?_
    refine lv_iload_n hx hb dX4_owed_47 rfl (lv_at hl 3 rfl) ?_
    refine lv_bipush (v := 8) hx hb dX4_owed_48 (by decide) ?_
    refine lv_imul hx hb dX4_owed_50 ?_
    refine lv_topi (fun v7 ev7 => ?_)
    obtain rfl : v7 = (nI (p0 * 8)) := by rw [ev7]; exact pk_mul p0 8
    refine lv_iload_n hx hb dX4_owed_51 rfl (lv_at hl 4 rfl) ?_
    refine lv_iadd hx hb dX4_owed_52 ?_
    refine lv_topi (fun v8 ev8 => ?_)
    obtain rfl : v8 = (nI (p0 * 8 + it)) := by rw [ev8]; exact nI_add (p0 * 8) it
    refine va_iald hx hb hE.1 hP 6 0 rfl rfl (vp_in_nI (n := p0 * 8 + it) (by omega) (by decide)) dX4_owed_53 ?_
    refine lv_topi (fun v9 ev9 => ?_)
    refine lv_istore (lv' := [(6, .int v9), (5, .int v6), (4, .int v5), (0, .ref x1), (1, .int (nI p0)), (2, .int (nI it)), (3, .int bu)]) hx hb dX4_owed_54 hl (by decide) rfl (fun ls hl => ?_)
    refine lv_iload_n hx hb dX4_owed_56 rfl (lv_at hl 6 rfl) ?_
    refine lv_istore (lv' := [(7, .int bu), (6, .int v9), (5, .int v6), (4, .int v5), (0, .ref x1), (1, .int (nI p0)), (2, .int (nI it)), (3, .int bu)]) hx hb dX4_owed_57 hl (by decide) rfl (fun ls hl => ?_)
    refine lv_iload hx hb dX4_owed_59 (lv_at hl 2 rfl) ?_
    refine lv_iload hx hb dX4_owed_61 (lv_at hl 3 rfl) ?_
    refine lv_icmp_le (tgt := 84) hx hb dX4_owed_63 (by decide) (fun c10 => ?_) (fun c10 => ?_)
    · skip
      refine lv_iload hx hb dX4_owed_84 (lv_at hl 0 rfl) ?_
      refine lv_aload_n hx hb dX4_owed_86 rfl (lv_at hl 4 rfl) ?_
      refine va_get (D := D) (ci := 4) (v := .ref x0) (C := RX4) (T := TX4) (N := 14) hx hb hts hiX4 hown hE.1 hP 0 rfl rfl 0 (by decide) (hts _ (List.mem_cons_of_mem _ wd_40)) (fun _ h9 => h9) rfl dX4_owed_87 ?_
      refine va_get (D := D) (ci := 0) (v := .ref b2) (C := RX0) (T := TX0) (N := 15) hx hb hts hiX0 hown hE.1 hP 1 rfl rfl 2 (by decide) (hts _ (List.mem_cons_of_mem _ wd_321)) (fun _ h9 => h9) rfl dX4_owed_90 ?_
      refine lv_iload_n hx hb dX4_owed_93 rfl (lv_at hl 5 rfl) ?_
      refine va_iald hx hb hE.1 hP 3 0 rfl rfl (vp_in_nI (n := p0) (by omega) (by decide)) dX4_owed_94 ?_
      refine lv_topi (fun v11 ev11 => ?_)
      refine lv_isub hx hb dX4_owed_95 ?_
      refine lv_topi (fun v12 ev12 => ?_)
      refine lv_iconst (v := 0) hx hb dX4_owed_96 (by decide) ?_
      refine va_mmax hx hb (by rw [hml]; exact hl.1.symm) hown (hts _ (List.mem_cons_of_mem _ wd_322)) (hts _ (List.mem_cons_of_mem _ wd_323)) (hts _ (List.mem_cons_of_mem _ wd_324)) (hts _ (List.mem_cons_of_mem _ wd_325)) (Nat.le_of_ble_eq_true rfl) (Nat.le_of_ble_eq_true rfl) (Nat.le_of_ble_eq_true rfl) (Nat.le_of_ble_eq_true rfl) dX4_owed_97 ?_
      refine lv_topi (fun v13 ev13 => ?_)
      refine lv_istore (lv' := [(7, .int v13), (6, .int v9), (5, .int v6), (4, .int v5), (0, .ref x1), (1, .int (nI p0)), (2, .int (nI it)), (3, .int bu)]) hx hb dX4_owed_100 hl (by decide) rfl (fun ls hl => ?_)
      refine lv_iload hx hb dX4_owed_102 (lv_at hl 0 rfl) ?_
      refine lv_iload hx hb dX4_owed_104 (lv_at hl 3 rfl) ?_
      refine va_mmin hx hb (by rw [hml]; exact hl.1.symm) hown (hts _ (List.mem_cons_of_mem _ wd_326)) (hts _ (List.mem_cons_of_mem _ wd_327)) (hts _ (List.mem_cons_of_mem _ wd_324)) (hts _ (List.mem_cons_of_mem _ wd_328)) (Nat.le_of_ble_eq_true rfl) (Nat.le_of_ble_eq_true rfl) (Nat.le_of_ble_eq_true rfl) (Nat.le_of_ble_eq_true rfl) dX4_owed_106 ?_
      refine lv_topi (fun v14 ev14 => ?_)
      refine lv_aload_n hx hb dX4_owed_109 rfl (lv_at hl 4 rfl) ?_
      refine va_get (D := D) (ci := 4) (v := .ref s6) (C := RX4) (T := TX4) (N := 14) hx hb hts hiX4 hown hE.1 hP 0 rfl rfl 6 (by decide) (hts _ (List.mem_cons_of_mem _ wd_50)) (fun _ h9 => h9) rfl dX4_owed_110 ?_
      refine lv_iload_n hx hb dX4_owed_113 rfl (lv_at hl 5 rfl) ?_
      refine va_iald hx hb hE.1 hP 7 0 rfl rfl (vp_in_nI (n := p0) (by omega) (by decide)) dX4_owed_114 ?_
      refine lv_topi (fun v15 ev15 => ?_)
      refine va_mmin hx hb (by rw [hml]; exact hl.1.symm) hown (hts _ (List.mem_cons_of_mem _ wd_326)) (hts _ (List.mem_cons_of_mem _ wd_327)) (hts _ (List.mem_cons_of_mem _ wd_324)) (hts _ (List.mem_cons_of_mem _ wd_328)) (Nat.le_of_ble_eq_true rfl) (Nat.le_of_ble_eq_true rfl) (Nat.le_of_ble_eq_true rfl) (Nat.le_of_ble_eq_true rfl) dX4_owed_115 ?_
      refine lv_topi (fun v16 ev16 => ?_)
      refine lv_istore (lv' := [(7, .int v16), (6, .int v9), (5, .int v6), (4, .int v5), (0, .ref x1), (1, .int (nI p0)), (2, .int (nI it)), (3, .int bu)]) hx hb dX4_owed_118 hl (by decide) rfl (fun ls hl => ?_)
      refine lv_iload hx hb dX4_owed_120 (lv_at hl 1 rfl) ?_
      refine lv_iconst (v := (-1)) hx hb dX4_owed_122 (by decide) ?_
      refine lv_icmp_ne (tgt := 131) hx hb dX4_owed_123 (by decide) (fun c17 => ?_) (fun c17 => ?_)
      · skip
        refine lv_iload hx hb dX4_owed_131 (lv_at hl 0 rfl) ?_
        refine lv_iload hx hb dX4_owed_133 (lv_at hl 1 rfl) ?_
        refine va_mmin hx hb (by rw [hml]; exact hl.1.symm) hown (hts _ (List.mem_cons_of_mem _ wd_326)) (hts _ (List.mem_cons_of_mem _ wd_327)) (hts _ (List.mem_cons_of_mem _ wd_324)) (hts _ (List.mem_cons_of_mem _ wd_328)) (Nat.le_of_ble_eq_true rfl) (Nat.le_of_ble_eq_true rfl) (Nat.le_of_ble_eq_true rfl) (Nat.le_of_ble_eq_true rfl) dX4_owed_135 ?_
        refine lv_topi (fun v18 ev18 => ?_)
        refine k_iret (u := [(oX4 x1 x0 s1 s2 (nI pn) si4 s5 s6 s7 s8 s9 s10 s11 si12 si13), (oX0 x0 b0 b1 b2 b3 b4 b5 b6 b7 b8 b9 b10 b11 (nI np) (nI nl) bi14), (aIc cI b0 8 B0), (aIc cI b2 8 B2), (aIc cI b3 8 B3), (aIc cI b4 8 B4), (aIc cI b8 64 B8), (aIc cI s6 8 S6)]) hx hb hr hlk hP hD hS dX4_owed_138 ?_
        exact rfl
      · skip
        refine lv_iload hx hb dX4_owed_126 (lv_at hl 0 rfl) ?_
        refine lv_goto (tgt := 138) hx hb dX4_owed_128 (by decide) ?_
        refine k_iret (u := [(oX4 x1 x0 s1 s2 (nI pn) si4 s5 s6 s7 s8 s9 s10 s11 si12 si13), (oX0 x0 b0 b1 b2 b3 b4 b5 b6 b7 b8 b9 b10 b11 (nI np) (nI nl) bi14), (aIc cI b0 8 B0), (aIc cI b2 8 B2), (aIc cI b3 8 B3), (aIc cI b4 8 B4), (aIc cI b8 64 B8), (aIc cI s6 8 S6)]) hx hb hr hlk hP hD hS dX4_owed_138 ?_
        exact rfl
    · skip
      refine lv_iload hx hb dX4_owed_66 (lv_at hl 2 rfl) ?_
      refine lv_if_le (tgt := 84) hx hb dX4_owed_68 (by decide) (fun c19 => ?_) (fun c19 => ?_)
      · skip
        refine lv_iload hx hb dX4_owed_84 (lv_at hl 0 rfl) ?_
        refine lv_aload_n hx hb dX4_owed_86 rfl (lv_at hl 4 rfl) ?_
        refine va_get (D := D) (ci := 4) (v := .ref x0) (C := RX4) (T := TX4) (N := 14) hx hb hts hiX4 hown hE.1 hP 0 rfl rfl 0 (by decide) (hts _ (List.mem_cons_of_mem _ wd_40)) (fun _ h9 => h9) rfl dX4_owed_87 ?_
        refine va_get (D := D) (ci := 0) (v := .ref b2) (C := RX0) (T := TX0) (N := 15) hx hb hts hiX0 hown hE.1 hP 1 rfl rfl 2 (by decide) (hts _ (List.mem_cons_of_mem _ wd_321)) (fun _ h9 => h9) rfl dX4_owed_90 ?_
        refine lv_iload_n hx hb dX4_owed_93 rfl (lv_at hl 5 rfl) ?_
        refine va_iald hx hb hE.1 hP 3 0 rfl rfl (vp_in_nI (n := p0) (by omega) (by decide)) dX4_owed_94 ?_
        refine lv_topi (fun v20 ev20 => ?_)
        refine lv_isub hx hb dX4_owed_95 ?_
        refine lv_topi (fun v21 ev21 => ?_)
        refine lv_iconst (v := 0) hx hb dX4_owed_96 (by decide) ?_
        refine va_mmax hx hb (by rw [hml]; exact hl.1.symm) hown (hts _ (List.mem_cons_of_mem _ wd_322)) (hts _ (List.mem_cons_of_mem _ wd_323)) (hts _ (List.mem_cons_of_mem _ wd_324)) (hts _ (List.mem_cons_of_mem _ wd_325)) (Nat.le_of_ble_eq_true rfl) (Nat.le_of_ble_eq_true rfl) (Nat.le_of_ble_eq_true rfl) (Nat.le_of_ble_eq_true rfl) dX4_owed_97 ?_
        refine lv_topi (fun v22 ev22 => ?_)
        refine lv_istore (lv' := [(7, .int v22), (6, .int v9), (5, .int v6), (4, .int v5), (0, .ref x1), (1, .int (nI p0)), (2, .int (nI it)), (3, .int bu)]) hx hb dX4_owed_100 hl (by decide) rfl (fun ls hl => ?_)
        refine lv_iload hx hb dX4_owed_102 (lv_at hl 0 rfl) ?_
        refine lv_iload hx hb dX4_owed_104 (lv_at hl 3 rfl) ?_
        refine va_mmin hx hb (by rw [hml]; exact hl.1.symm) hown (hts _ (List.mem_cons_of_mem _ wd_326)) (hts _ (List.mem_cons_of_mem _ wd_327)) (hts _ (List.mem_cons_of_mem _ wd_324)) (hts _ (List.mem_cons_of_mem _ wd_328)) (Nat.le_of_ble_eq_true rfl) (Nat.le_of_ble_eq_true rfl) (Nat.le_of_ble_eq_true rfl) (Nat.le_of_ble_eq_true rfl) dX4_owed_106 ?_
        refine lv_topi (fun v23 ev23 => ?_)
        refine lv_aload_n hx hb dX4_owed_109 rfl (lv_at hl 4 rfl) ?_
        refine va_get (D := D) (ci := 4) (v := .ref s6) (C := RX4) (T := TX4) (N := 14) hx hb hts hiX4 hown hE.1 hP 0 rfl rfl 6 (by decide) (hts _ (List.mem_cons_of_mem _ wd_50)) (fun _ h9 => h9) rfl dX4_owed_110 ?_
        refine lv_iload_n hx hb dX4_owed_113 rfl (lv_at hl 5 rfl) ?_
        refine va_iald hx hb hE.1 hP 7 0 rfl rfl (vp_in_nI (n := p0) (by omega) (by decide)) dX4_owed_114 ?_
        refine lv_topi (fun v24 ev24 => ?_)
        refine va_mmin hx hb (by rw [hml]; exact hl.1.symm) hown (hts _ (List.mem_cons_of_mem _ wd_326)) (hts _ (List.mem_cons_of_mem _ wd_327)) (hts _ (List.mem_cons_of_mem _ wd_324)) (hts _ (List.mem_cons_of_mem _ wd_328)) (Nat.le_of_ble_eq_true rfl) (Nat.le_of_ble_eq_true rfl) (Nat.le_of_ble_eq_true rfl) (Nat.le_of_ble_eq_true rfl) dX4_owed_115 ?_
        refine lv_topi (fun v25 ev25 => ?_)
        refine lv_istore (lv' := [(7, .int v25), (6, .int v9), (5, .int v6), (4, .int v5), (0, .ref x1), (1, .int (nI p0)), (2, .int (nI it)), (3, .int bu)]) hx hb dX4_owed_118 hl (by decide) rfl (fun ls hl => ?_)
        refine lv_iload hx hb dX4_owed_120 (lv_at hl 1 rfl) ?_
        refine lv_iconst (v := (-1)) hx hb dX4_owed_122 (by decide) ?_
        refine lv_icmp_ne (tgt := 131) hx hb dX4_owed_123 (by decide) (fun c26 => ?_) (fun c26 => ?_)
        · skip
          refine lv_iload hx hb dX4_owed_131 (lv_at hl 0 rfl) ?_
          refine lv_iload hx hb dX4_owed_133 (lv_at hl 1 rfl) ?_
          refine va_mmin hx hb (by rw [hml]; exact hl.1.symm) hown (hts _ (List.mem_cons_of_mem _ wd_326)) (hts _ (List.mem_cons_of_mem _ wd_327)) (hts _ (List.mem_cons_of_mem _ wd_324)) (hts _ (List.mem_cons_of_mem _ wd_328)) (Nat.le_of_ble_eq_true rfl) (Nat.le_of_ble_eq_true rfl) (Nat.le_of_ble_eq_true rfl) (Nat.le_of_ble_eq_true rfl) dX4_owed_135 ?_
          refine lv_topi (fun v27 ev27 => ?_)
          refine k_iret (u := [(oX4 x1 x0 s1 s2 (nI pn) si4 s5 s6 s7 s8 s9 s10 s11 si12 si13), (oX0 x0 b0 b1 b2 b3 b4 b5 b6 b7 b8 b9 b10 b11 (nI np) (nI nl) bi14), (aIc cI b0 8 B0), (aIc cI b2 8 B2), (aIc cI b3 8 B3), (aIc cI b4 8 B4), (aIc cI b8 64 B8), (aIc cI s6 8 S6)]) hx hb hr hlk hP hD hS dX4_owed_138 ?_
          exact rfl
        · skip
          refine lv_iload hx hb dX4_owed_126 (lv_at hl 0 rfl) ?_
          refine lv_goto (tgt := 138) hx hb dX4_owed_128 (by decide) ?_
          refine k_iret (u := [(oX4 x1 x0 s1 s2 (nI pn) si4 s5 s6 s7 s8 s9 s10 s11 si12 si13), (oX0 x0 b0 b1 b2 b3 b4 b5 b6 b7 b8 b9 b10 b11 (nI np) (nI nl) bi14), (aIc cI b0 8 B0), (aIc cI b2 8 B2), (aIc cI b3 8 B3), (aIc cI b4 8 B4), (aIc cI b8 64 B8), (aIc cI s6 8 S6)]) hx hb hr hlk hP hD hS dX4_owed_138 ?_
          exact rfl
      · skip
        refine lv_iload_n hx hb dX4_owed_71 rfl (lv_at hl 7 rfl) ?_
        refine lv_i2l hx hb dX4_owed_72 rfl ?_
        refine lv_topl (fun v28 ev28 => ?_)
        refine lv_iload hx hb dX4_owed_73 (lv_at hl 3 rfl) ?_
        refine lv_i2l hx hb dX4_owed_75 rfl ?_
        refine lv_topl (fun v29 ev29 => ?_)
        refine lv_lmul hx hb dX4_owed_76 ?_
        refine lv_topl (fun v30 ev30 => ?_)
        refine lv_iload hx hb dX4_owed_77 (lv_at hl 2 rfl) ?_
        refine lv_i2l hx hb dX4_owed_79 rfl ?_
        refine lv_topl (fun v31 ev31 => ?_)
        refine lv_ldiv hx hb dX4_owed_80 (i2l_ne ev31 c19) ?_
        refine lv_topl (fun v32 ev32 => ?_)
        refine lv_l2i hx hb dX4_owed_81 rfl ?_
        refine lv_topi (fun v33 ev33 => ?_)
        refine lv_istore (lv' := [(7, .int v33), (6, .int v9), (5, .int v6), (4, .int v5), (0, .ref x1), (1, .int (nI p0)), (2, .int (nI it)), (3, .int bu)]) hx hb dX4_owed_82 hl (by decide) rfl (fun ls hl => ?_)
        refine lv_iload hx hb dX4_owed_84 (lv_at hl 0 rfl) ?_
        refine lv_aload_n hx hb dX4_owed_86 rfl (lv_at hl 4 rfl) ?_
        refine va_get (D := D) (ci := 4) (v := .ref x0) (C := RX4) (T := TX4) (N := 14) hx hb hts hiX4 hown hE.1 hP 0 rfl rfl 0 (by decide) (hts _ (List.mem_cons_of_mem _ wd_40)) (fun _ h9 => h9) rfl dX4_owed_87 ?_
        refine va_get (D := D) (ci := 0) (v := .ref b2) (C := RX0) (T := TX0) (N := 15) hx hb hts hiX0 hown hE.1 hP 1 rfl rfl 2 (by decide) (hts _ (List.mem_cons_of_mem _ wd_321)) (fun _ h9 => h9) rfl dX4_owed_90 ?_
        refine lv_iload_n hx hb dX4_owed_93 rfl (lv_at hl 5 rfl) ?_
        refine va_iald hx hb hE.1 hP 3 0 rfl rfl (vp_in_nI (n := p0) (by omega) (by decide)) dX4_owed_94 ?_
        refine lv_topi (fun v34 ev34 => ?_)
        refine lv_isub hx hb dX4_owed_95 ?_
        refine lv_topi (fun v35 ev35 => ?_)
        refine lv_iconst (v := 0) hx hb dX4_owed_96 (by decide) ?_
        refine va_mmax hx hb (by rw [hml]; exact hl.1.symm) hown (hts _ (List.mem_cons_of_mem _ wd_322)) (hts _ (List.mem_cons_of_mem _ wd_323)) (hts _ (List.mem_cons_of_mem _ wd_324)) (hts _ (List.mem_cons_of_mem _ wd_325)) (Nat.le_of_ble_eq_true rfl) (Nat.le_of_ble_eq_true rfl) (Nat.le_of_ble_eq_true rfl) (Nat.le_of_ble_eq_true rfl) dX4_owed_97 ?_
        refine lv_topi (fun v36 ev36 => ?_)
        refine lv_istore (lv' := [(7, .int v36), (6, .int v9), (5, .int v6), (4, .int v5), (0, .ref x1), (1, .int (nI p0)), (2, .int (nI it)), (3, .int bu)]) hx hb dX4_owed_100 hl (by decide) rfl (fun ls hl => ?_)
        refine lv_iload hx hb dX4_owed_102 (lv_at hl 0 rfl) ?_
        refine lv_iload hx hb dX4_owed_104 (lv_at hl 3 rfl) ?_
        refine va_mmin hx hb (by rw [hml]; exact hl.1.symm) hown (hts _ (List.mem_cons_of_mem _ wd_326)) (hts _ (List.mem_cons_of_mem _ wd_327)) (hts _ (List.mem_cons_of_mem _ wd_324)) (hts _ (List.mem_cons_of_mem _ wd_328)) (Nat.le_of_ble_eq_true rfl) (Nat.le_of_ble_eq_true rfl) (Nat.le_of_ble_eq_true rfl) (Nat.le_of_ble_eq_true rfl) dX4_owed_106 ?_
        refine lv_topi (fun v37 ev37 => ?_)
        refine lv_aload_n hx hb dX4_owed_109 rfl (lv_at hl 4 rfl) ?_
        refine va_get (D := D) (ci := 4) (v := .ref s6) (C := RX4) (T := TX4) (N := 14) hx hb hts hiX4 hown hE.1 hP 0 rfl rfl 6 (by decide) (hts _ (List.mem_cons_of_mem _ wd_50)) (fun _ h9 => h9) rfl dX4_owed_110 ?_
        refine lv_iload_n hx hb dX4_owed_113 rfl (lv_at hl 5 rfl) ?_
        refine va_iald hx hb hE.1 hP 7 0 rfl rfl (vp_in_nI (n := p0) (by omega) (by decide)) dX4_owed_114 ?_
        refine lv_topi (fun v38 ev38 => ?_)
        refine va_mmin hx hb (by rw [hml]; exact hl.1.symm) hown (hts _ (List.mem_cons_of_mem _ wd_326)) (hts _ (List.mem_cons_of_mem _ wd_327)) (hts _ (List.mem_cons_of_mem _ wd_324)) (hts _ (List.mem_cons_of_mem _ wd_328)) (Nat.le_of_ble_eq_true rfl) (Nat.le_of_ble_eq_true rfl) (Nat.le_of_ble_eq_true rfl) (Nat.le_of_ble_eq_true rfl) dX4_owed_115 ?_
        refine lv_topi (fun v39 ev39 => ?_)
        refine lv_istore (lv' := [(7, .int v39), (6, .int v9), (5, .int v6), (4, .int v5), (0, .ref x1), (1, .int (nI p0)), (2, .int (nI it)), (3, .int bu)]) hx hb dX4_owed_118 hl (by decide) rfl (fun ls hl => ?_)
        refine lv_iload hx hb dX4_owed_120 (lv_at hl 1 rfl) ?_
        refine lv_iconst (v := (-1)) hx hb dX4_owed_122 (by decide) ?_
        refine lv_icmp_ne (tgt := 131) hx hb dX4_owed_123 (by decide) (fun c40 => ?_) (fun c40 => ?_)
        · skip
          refine lv_iload hx hb dX4_owed_131 (lv_at hl 0 rfl) ?_
          refine lv_iload hx hb dX4_owed_133 (lv_at hl 1 rfl) ?_
          refine va_mmin hx hb (by rw [hml]; exact hl.1.symm) hown (hts _ (List.mem_cons_of_mem _ wd_326)) (hts _ (List.mem_cons_of_mem _ wd_327)) (hts _ (List.mem_cons_of_mem _ wd_324)) (hts _ (List.mem_cons_of_mem _ wd_328)) (Nat.le_of_ble_eq_true rfl) (Nat.le_of_ble_eq_true rfl) (Nat.le_of_ble_eq_true rfl) (Nat.le_of_ble_eq_true rfl) dX4_owed_135 ?_
          refine lv_topi (fun v41 ev41 => ?_)
          refine k_iret (u := [(oX4 x1 x0 s1 s2 (nI pn) si4 s5 s6 s7 s8 s9 s10 s11 si12 si13), (oX0 x0 b0 b1 b2 b3 b4 b5 b6 b7 b8 b9 b10 b11 (nI np) (nI nl) bi14), (aIc cI b0 8 B0), (aIc cI b2 8 B2), (aIc cI b3 8 B3), (aIc cI b4 8 B4), (aIc cI b8 64 B8), (aIc cI s6 8 S6)]) hx hb hr hlk hP hD hS dX4_owed_138 ?_
          exact rfl
        · skip
          refine lv_iload hx hb dX4_owed_126 (lv_at hl 0 rfl) ?_
          refine lv_goto (tgt := 138) hx hb dX4_owed_128 (by decide) ?_
          refine k_iret (u := [(oX4 x1 x0 s1 s2 (nI pn) si4 s5 s6 s7 s8 s9 s10 s11 si12 si13), (oX0 x0 b0 b1 b2 b3 b4 b5 b6 b7 b8 b9 b10 b11 (nI np) (nI nl) bi14), (aIc cI b0 8 B0), (aIc cI b2 8 B2), (aIc cI b3 8 B3), (aIc cI b4 8 B4), (aIc cI b8 64 B8), (aIc cI s6 8 S6)]) hx hb hr hlk hP hD hS dX4_owed_138 ?_
          exact rfl
  · skip
    have hc4 : ¬ (¬ (v1 >>> ((nI it) &&& 31)) &&& 1 = 0) := bz_0 hw3 c4
    refine lv_iconst (v := 0) hx hb dX4_owed_16 (by decide) ?_
    refine k_iret (u := [(oX4 x1 x0 s1 s2 (nI pn) si4 s5 s6 s7 s8 s9 s10 s11 si12 si13), (oX0 x0 b0 b1 b2 b3 b4 b5 b6 b7 b8 b9 b10 b11 (nI np) (nI nl) bi14), (aIc cI b0 8 B0), (aIc cI b2 8 B2), (aIc cI b3 8 B3), (aIc cI b4 8 B4), (aIc cI b8 64 B8), (aIc cI s6 8 S6)]) hx hb hr hlk hP hD hS dX4_owed_17 ?_
    exact rfl
theorem dX4_standAlone_0 : decode cX4_standAlone 0 = .ok (.aload_n 0, 1) := by decide +kernel
theorem dX4_standAlone_1 : decode cX4_standAlone 1 = .ok (.getfield 32, 3) := by decide +kernel
theorem dX4_standAlone_4 : decode cX4_standAlone 4 = .ok (.iconst 0, 1) := by decide +kernel
theorem dX4_standAlone_5 : decode cX4_standAlone 5 = .ok (.aload_n 0, 1) := by decide +kernel
theorem dX4_standAlone_6 : decode cX4_standAlone 6 = .ok (.getfield 36, 3) := by decide +kernel
theorem dX4_standAlone_9 : decode cX4_standAlone 9 = .ok (.iconst 0, 1) := by decide +kernel
theorem dX4_standAlone_10 : decode cX4_standAlone 10 = .ok (.bipush 8, 2) := by decide +kernel
theorem dX4_standAlone_12 : decode cX4_standAlone 12 = .ok (.invokestatic 70, 3) := by decide +kernel
theorem dX4_standAlone_15 : decode cX4_standAlone 15 = .ok (.iconst 0, 1) := by decide +kernel
theorem dX4_standAlone_16 : decode cX4_standAlone 16 = .ok (.istore_n 3, 1) := by decide +kernel
theorem dX4_standAlone_17 : decode cX4_standAlone 17 = .ok (.iconst 0, 1) := by decide +kernel
theorem dX4_standAlone_18 : decode cX4_standAlone 18 = .ok (.istore 4, 2) := by decide +kernel
theorem dX4_standAlone_20 : decode cX4_standAlone 20 = .ok (.iload 4, 2) := by decide +kernel
theorem dX4_standAlone_22 : decode cX4_standAlone 22 = .ok (.bipush 8, 2) := by decide +kernel
theorem dX4_standAlone_24 : decode cX4_standAlone 24 = .ok (.if_icmp .ge 57, 3) := by decide +kernel
theorem dX4_standAlone_27 : decode cX4_standAlone 27 = .ok (.aload_n 0, 1) := by decide +kernel
theorem dX4_standAlone_28 : decode cX4_standAlone 28 = .ok (.getfield 42, 3) := by decide +kernel
theorem dX4_standAlone_31 : decode cX4_standAlone 31 = .ok (.iload 4, 2) := by decide +kernel
theorem dX4_standAlone_33 : decode cX4_standAlone 33 = .ok (.aload_n 0, 1) := by decide +kernel
theorem dX4_standAlone_34 : decode cX4_standAlone 34 = .ok (.getfield 58, 3) := by decide +kernel
theorem dX4_standAlone_37 : decode cX4_standAlone 37 = .ok (.iload 4, 2) := by decide +kernel
theorem dX4_standAlone_39 : decode cX4_standAlone 39 = .ok (.invokestatic 113, 3) := by decide +kernel
theorem dX4_standAlone_42 : decode cX4_standAlone 42 = .ok (.ifCond .eq 14, 3) := by decide +kernel
theorem dX4_standAlone_45 : decode cX4_standAlone 45 = .ok (.aload_n 0, 1) := by decide +kernel
theorem dX4_standAlone_46 : decode cX4_standAlone 46 = .ok (.iload 4, 2) := by decide +kernel
theorem dX4_standAlone_48 : decode cX4_standAlone 48 = .ok (.iload_n 1, 1) := by decide +kernel
theorem dX4_standAlone_49 : decode cX4_standAlone 49 = .ok (.iload_n 2, 1) := by decide +kernel
theorem dX4_standAlone_50 : decode cX4_standAlone 50 = .ok (.invokevirtual 117, 3) := by decide +kernel
theorem dX4_standAlone_53 : decode cX4_standAlone 53 = .ok (.goto 4, 3) := by decide +kernel
theorem dX4_standAlone_56 : decode cX4_standAlone 56 = .ok (.iconst 0, 1) := by decide +kernel
theorem dX4_standAlone_57 : decode cX4_standAlone 57 = .ok (.iastore, 1) := by decide +kernel
theorem dX4_standAlone_58 : decode cX4_standAlone 58 = .ok (.aload_n 0, 1) := by decide +kernel
theorem dX4_standAlone_59 : decode cX4_standAlone 59 = .ok (.getfield 42, 3) := by decide +kernel
theorem dX4_standAlone_62 : decode cX4_standAlone 62 = .ok (.iload 4, 2) := by decide +kernel
theorem dX4_standAlone_64 : decode cX4_standAlone 64 = .ok (.iaload, 1) := by decide +kernel
theorem dX4_standAlone_65 : decode cX4_standAlone 65 = .ok (.ifCond .le 10, 3) := by decide +kernel
theorem dX4_standAlone_68 : decode cX4_standAlone 68 = .ok (.iload_n 3, 1) := by decide +kernel
theorem dX4_standAlone_69 : decode cX4_standAlone 69 = .ok (.iconst 1, 1) := by decide +kernel
theorem dX4_standAlone_70 : decode cX4_standAlone 70 = .ok (.iload 4, 2) := by decide +kernel
theorem dX4_standAlone_72 : decode cX4_standAlone 72 = .ok (.ishl, 1) := by decide +kernel
theorem dX4_standAlone_73 : decode cX4_standAlone 73 = .ok (.ior, 1) := by decide +kernel
theorem dX4_standAlone_74 : decode cX4_standAlone 74 = .ok (.istore_n 3, 1) := by decide +kernel
theorem dX4_standAlone_75 : decode cX4_standAlone 75 = .ok (.iinc 4 1, 3) := by decide +kernel
theorem dX4_standAlone_78 : decode cX4_standAlone 78 = .ok (.goto (-58), 3) := by decide +kernel
theorem dX4_standAlone_81 : decode cX4_standAlone 81 = .ok (.iload_n 3, 1) := by decide +kernel
theorem dX4_standAlone_82 : decode cX4_standAlone 82 = .ok (.ireturn, 1) := by decide +kernel
theorem gX4_standAlone_X4_owed : GoodIn wtX4_standAlone (wsV RX4 117 RX4 yX4_owed wtX4_owed) := tb_good (tb_v0 wd_313 wd_314 wd_315 wd_16 wd_316)
theorem gX4_standAlone_X7_has_n113 : GoodIn wtX4_standAlone (wtX7_has) := tb_good (tb_c0 wd_312)
set_option maxHeartbeats 4000000 in
set_option maxRecDepth 100000 in
theorem m_X4_standAlone (l : Launch) (D : va_G) (cI cJ : ClassId) (sz : Nat) (x1 x0 s1 s2 s5 s6 s7 s8 s9 s10 s11 b0 b1 b2 b3 b4 b5 b6 b7 b8 b9 b10 b11 it np nl pn : Nat) (si4 si12 si13 bi14 am : Int32) (B0 B2 B3 B4 B8 S5 S6 S8 : Nat → Int32) (hit : it < 8) : Met l yX4_standAlone wtX4_standAlone { frames := 2, cells := 0, slots := 0, locals := 48 } (cPc D cI cJ [.ref x1, .int (nI it), .int am] sz [(oX4 x1 x0 s1 s2 (nI pn) si4 s5 s6 s7 s8 s9 s10 s11 si12 si13), (oX0 x0 b0 b1 b2 b3 b4 b5 b6 b7 b8 b9 b10 b11 (nI np) (nI nl) bi14), (aIc cI b0 8 B0), (aIc cI b2 8 B2), (aIc cI b3 8 B3), (aIc cI b4 8 B4), (aIc cI b8 64 B8), (aIc cI s5 8 S5), (aIc cI s6 8 S6), (aIc cI s8 8 S8)]) (cQi D (fun r u => ∃ (q0 : Nat) (S6p S8p : Nat → Int32), (q0 < 256) ∧ r = (nI q0) ∧ u = [(oX4 x1 x0 s1 s2 (nI pn) si4 s5 s6 s7 s8 s9 s10 s11 si12 si13), (oX0 x0 b0 b1 b2 b3 b4 b5 b6 b7 b8 b9 b10 b11 (nI np) (nI nl) bi14), (aIc cI b0 8 B0), (aIc cI b2 8 B2), (aIc cI b3 8 B3), (aIc cI b4 8 B4), (aIc cI b8 64 B8), (aIc cI s5 8 S5), (aIc cI s6 8 S6p), (aIc cI s8 8 S8p)]) (va_A [(oX4 x1 x0 s1 s2 (nI pn) si4 s5 s6 s7 s8 s9 s10 s11 si12 si13), (oX0 x0 b0 b1 b2 b3 b4 b5 b6 b7 b8 b9 b10 b11 (nI np) (nI nl) bi14), (aIc cI b0 8 B0), (aIc cI b2 8 B2), (aIc cI b3 8 B3), (aIc cI b4 8 B4), (aIc cI b8 64 B8), (aIc cI s5 8 S5), (aIc cI s6 8 S6), (aIc cI s8 8 S8)] sz)) 0 0 (va_A [(oX4 x1 x0 s1 s2 (nI pn) si4 s5 s6 s7 s8 s9 s10 s11 si12 si13), (oX0 x0 b0 b1 b2 b3 b4 b5 b6 b7 b8 b9 b10 b11 (nI np) (nI nl) bi14), (aIc cI b0 8 B0), (aIc cI b2 8 B2), (aIc cI b3 8 B3), (aIc cI b4 8 B4), (aIc cI b8 64 B8), (aIc cI s5 8 S5), (aIc cI s6 8 S6), (aIc cI s8 8 S8)] sz) := by
  refine k_ofW (Qc := cQi D (fun r u => ∃ (q0 : Nat) (S6p S8p : Nat → Int32), (q0 < 256) ∧ r = (nI q0) ∧ u = [(oX4 x1 x0 s1 s2 (nI pn) si4 s5 s6 s7 s8 s9 s10 s11 si12 si13), (oX0 x0 b0 b1 b2 b3 b4 b5 b6 b7 b8 b9 b10 b11 (nI np) (nI nl) bi14), (aIc cI b0 8 B0), (aIc cI b2 8 B2), (aIc cI b3 8 B3), (aIc cI b4 8 B4), (aIc cI b8 64 B8), (aIc cI s5 8 S5), (aIc cI s6 8 S6p), (aIc cI s8 8 S8p)])) (by decide) rfl (Nat.le_of_ble_eq_true rfl) ?_
  intro p e s m below meth c A ls hx hb hr hml hts hown hlk hnm hsz hE hP hD hS hA hl
  have hown : s.vm.findClass RX4 = some m.cls := hown
  have hiX4 : ∀ w ∈ u_ws RX4 TX4 14, w ∈ wtX4_standAlone := fun w h => List.mem_cons_of_mem _ (iuX4 w h)
  have hl : lv_has ls 5 [(0, .ref x1), (1, .int (nI it)), (2, .int am)] := hl
  refine lv_aload_n hx hb dX4_standAlone_0 rfl (lv_at hl 0 rfl) ?_
  refine va_get (D := D) (ci := 4) (v := .ref s5) (C := RX4) (T := TX4) (N := 14) hx hb hts hiX4 hown hE.1 hP 0 rfl rfl 5 (by decide) (hts _ (List.mem_cons_of_mem _ wd_49)) (fun _ h9 => h9) rfl dX4_standAlone_1 ?_
  refine lv_iconst (v := 0) hx hb dX4_standAlone_4 (by decide) ?_
  refine lv_aload_n hx hb dX4_standAlone_5 rfl (lv_at hl 0 rfl) ?_
  refine va_get (D := D) (ci := 4) (v := .ref s6) (C := RX4) (T := TX4) (N := 14) hx hb hts hiX4 hown hE.1 hP 0 rfl rfl 6 (by decide) (hts _ (List.mem_cons_of_mem _ wd_50)) (fun _ h9 => h9) rfl dX4_standAlone_6 ?_
  refine lv_iconst (v := 0) hx hb dX4_standAlone_9 (by decide) ?_
  refine lv_bipush (v := 8) hx hb dX4_standAlone_10 (by decide) ?_
  refine va_copyi hx hb (by rw [hml]; exact hl.1.symm) hown (hts _ (List.mem_cons_of_mem _ wd_288)) (hts _ (List.mem_cons_of_mem _ wd_289)) (hts _ (List.mem_cons_of_mem _ wd_290)) (hts _ (List.mem_cons_of_mem _ wd_291)) hE.1 hP hD hS 7 8 0 0 rfl rfl rfl rfl rfl (by decide) (by decide) (by decide) (by decide) (by decide) (fun _ _ => rfl) (Nat.le_of_ble_eq_true rfl) (Nat.le_of_ble_eq_true rfl) dX4_standAlone_12 (fun H locs hP hD hS => ?_)
  refine k_re (w := [(oX4 x1 x0 s1 s2 (nI pn) si4 s5 s6 s7 s8 s9 s10 s11 si12 si13), (oX0 x0 b0 b1 b2 b3 b4 b5 b6 b7 b8 b9 b10 b11 (nI np) (nI nl) bi14), (aIc cI b0 8 B0), (aIc cI b2 8 B2), (aIc cI b3 8 B3), (aIc cI b4 8 B4), (aIc cI b8 64 B8), (aIc cI s5 8 S5), (aIc cI s6 8 (va_cpy S5 S6 (0 : Int32).toNatClampNeg (0 : Int32).toNatClampNeg (8 : Int32).toNatClampNeg)), (aIc cI s8 8 S8)]) hP hD (fun hP hD => ?_)
  refine lv_iconst (v := 0) hx hb dX4_standAlone_15 (by decide) ?_
  refine lv_istore_n (lv' := [(3, .int 0), (0, .ref x1), (1, .int (nI it)), (2, .int am)]) hx hb dX4_standAlone_16 rfl hl (by decide) rfl (fun ls hl => ?_)
  refine lv_iconst (v := 0) hx hb dX4_standAlone_17 (by decide) ?_
  refine lv_istore (lv' := [(4, .int 0), (3, .int 0), (0, .ref x1), (1, .int (nI it)), (2, .int am)]) hx hb dX4_standAlone_18 hl (by decide) rfl (fun ls hl => ?_)
  have J20 : ∀ (zz : Nat) (i20 h3_20 : Nat) (a_s8_20 : Nat → Int32), (i20 ≤ 8) → (h3_20 < 256) → (8 - i20) < zz → ∀ (H : Heap) (locs : List Loc) (ls : Array Slot), va_P D vwCl [(oX4 x1 x0 s1 s2 (nI pn) si4 s5 s6 s7 s8 s9 s10 s11 si12 si13), (oX0 x0 b0 b1 b2 b3 b4 b5 b6 b7 b8 b9 b10 b11 (nI np) (nI nl) bi14), (aIc cI b0 8 B0), (aIc cI b2 8 B2), (aIc cI b3 8 B3), (aIc cI b4 8 B4), (aIc cI b8 64 B8), (aIc cI s5 8 S5), (aIc cI s6 8 (va_cpy S5 S6 (0 : Int32).toNatClampNeg (0 : Int32).toNatClampNeg (8 : Int32).toNatClampNeg)), (aIc cI s8 8 a_s8_20)] H → va_D A [(oX4 x1 x0 s1 s2 (nI pn) si4 s5 s6 s7 s8 s9 s10 s11 si12 si13), (oX0 x0 b0 b1 b2 b3 b4 b5 b6 b7 b8 b9 b10 b11 (nI np) (nI nl) bi14), (aIc cI b0 8 B0), (aIc cI b2 8 B2), (aIc cI b3 8 B3), (aIc cI b4 8 B4), (aIc cI b8 64 B8), (aIc cI s5 8 S5), (aIc cI s6 8 (va_cpy S5 S6 (0 : Int32).toNatClampNeg (0 : Int32).toNatClampNeg (8 : Int32).toNatClampNeg)), (aIc cI s8 8 a_s8_20)] → va_S A s.heap H locs → lv_has ls 5 [(4, .int (nI i20)), (3, .int (nI h3_20)), (0, .ref x1), (1, .int (nI it)), (2, .int am)] → W p l e { frames := 2, cells := 0, slots := 0, locals := 48 } s m [.ref x1, .int (nI it), .int am].toArray below meth c H locs 0 0 (MQ below (cQi D (fun r u => ∃ (q0 : Nat) (S6p S8p : Nat → Int32), (q0 < 256) ∧ r = (nI q0) ∧ u = [(oX4 x1 x0 s1 s2 (nI pn) si4 s5 s6 s7 s8 s9 s10 s11 si12 si13), (oX0 x0 b0 b1 b2 b3 b4 b5 b6 b7 b8 b9 b10 b11 (nI np) (nI nl) bi14), (aIc cI b0 8 B0), (aIc cI b2 8 B2), (aIc cI b3 8 B3), (aIc cI b4 8 B4), (aIc cI b8 64 B8), (aIc cI s5 8 S5), (aIc cI s6 8 S6p), (aIc cI s8 8 S8p)]) A) [.ref x1, .int (nI it), .int am].toArray s 0 0 A) (F0 m 20 ls []) := by
    intro zz
    induction zz with
    | zero => intro i20 h3_20 a_s8_20 _ _; exact fun h => absurd h (Nat.not_lt_zero _)
    | succ zz ih20 =>
      intro i20 h3_20 a_s8_20 hc4_20 hi3_20 hmu20 H locs ls hP hD hS hl
      refine lv_iload hx hb dX4_standAlone_20 (lv_at hl 0 rfl) ?_
      refine lv_bipush (v := 8) hx hb dX4_standAlone_22 (by decide) ?_
      refine lv_icmp_ge (tgt := 81) hx hb dX4_standAlone_24 (by decide) (fun c1 => ?_) (fun c1 => ?_)
      · skip
        have nc1 : 8 ≤ i20 := (nI_leI (a := 8) (b := i20) (by omega) (by omega)).mp c1
        refine lv_iload_n hx hb dX4_standAlone_81 rfl (lv_at hl 1 rfl) ?_
        refine k_iret (u := [(oX4 x1 x0 s1 s2 (nI pn) si4 s5 s6 s7 s8 s9 s10 s11 si12 si13), (oX0 x0 b0 b1 b2 b3 b4 b5 b6 b7 b8 b9 b10 b11 (nI np) (nI nl) bi14), (aIc cI b0 8 B0), (aIc cI b2 8 B2), (aIc cI b3 8 B3), (aIc cI b4 8 B4), (aIc cI b8 64 B8), (aIc cI s5 8 S5), (aIc cI s6 8 (va_cpy S5 S6 (0 : Int32).toNatClampNeg (0 : Int32).toNatClampNeg (8 : Int32).toNatClampNeg)), (aIc cI s8 8 a_s8_20)]) hx hb hr hlk hP hD hS dX4_standAlone_82 ?_
        exact ⟨h3_20, (va_cpy S5 S6 (0 : Int32).toNatClampNeg (0 : Int32).toNatClampNeg (8 : Int32).toNatClampNeg), a_s8_20, (by omega), rfl, rfl⟩
      · skip
        have nc1 : ¬ 8 ≤ i20 := fun q9 => c1 ((nI_leI (a := 8) (b := i20) (by omega) (by omega)).mpr q9)
        refine lv_aload_n hx hb dX4_standAlone_27 rfl (lv_at hl 2 rfl) ?_
        refine va_get (D := D) (ci := 4) (v := .ref s8) (C := RX4) (T := TX4) (N := 14) hx hb hts hiX4 hown hE.1 hP 0 rfl rfl 8 (by decide) (hts _ (List.mem_cons_of_mem _ wd_52)) (fun _ h9 => h9) rfl dX4_standAlone_28 ?_
        refine lv_iload hx hb dX4_standAlone_31 (lv_at hl 0 rfl) ?_
        refine lv_aload_n hx hb dX4_standAlone_33 rfl (lv_at hl 2 rfl) ?_
        refine va_get (D := D) (ci := 4) (v := .int (nI pn)) (C := RX4) (T := TX4) (N := 14) hx hb hts hiX4 hown hE.1 hP 0 rfl rfl 3 (by decide) (hts _ (List.mem_cons_of_mem _ wd_283)) (fun _ h9 => h9) rfl dX4_standAlone_34 ?_
        refine lv_iload hx hb dX4_standAlone_37 (lv_at hl 0 rfl) ?_
        refine k_iS (va_runSN (As := [.int (nI pn), .int (nI i20)]) (rest := [.int (nI i20), .ref s8]) ⟨hx, hb, hml, hown, hts⟩ (m_X7_has l D cI cJ H.size (nI pn) (nI i20)) ⟨va_cnB 2 hts gX4_standAlone_X7_has_n113 rfl rfl rfl (nwk5 hE.2) (hts _ (List.mem_cons_of_mem _ wd_2)) (by decide +kernel) ⟨Nat.le_of_ble_eq_true rfl, Nat.le_of_ble_eq_true rfl⟩, (hts _ (List.mem_cons_of_mem _ wd_311)), trivial⟩ (k_pre hE hP hD [] (by decide +kernel) rfl) rfl rfl hl.1 rfl (lv_room (Nat.le_of_ble_eq_true rfl)) dX4_standAlone_39 ⟨Nat.le_of_ble_eq_true rfl, Nat.le_of_ble_eq_true rfl⟩) hP hD hS hA [] rfl (fun _ _ h9 => h9.2) (fun r2 H locs hw3 hP hD hS => ?_)
        obtain ⟨hw3, -⟩ := hw3
        refine lv_if_eq (tgt := 56) hx hb dX4_standAlone_42 (by decide) (fun c4 => ?_) (fun c4 => ?_)
        · skip
          have hc4 : ¬ (¬ ((nI pn) >>> ((nI i20) &&& 31)) &&& 1 = 0) := bz_0 hw3 c4
          refine lv_iconst (v := 0) hx hb dX4_standAlone_56 (by decide) ?_
          refine va_iast hx hb hE.1 hP hD hS 9 0 rfl rfl (vp_in_nI (n := i20) (by omega) (by decide)) dX4_standAlone_57 (fun H locs hP hD hS => ?_)
          refine k_re (w := [(oX4 x1 x0 s1 s2 (nI pn) si4 s5 s6 s7 s8 s9 s10 s11 si12 si13), (oX0 x0 b0 b1 b2 b3 b4 b5 b6 b7 b8 b9 b10 b11 (nI np) (nI nl) bi14), (aIc cI b0 8 B0), (aIc cI b2 8 B2), (aIc cI b3 8 B3), (aIc cI b4 8 B4), (aIc cI b8 64 B8), (aIc cI s5 8 S5), (aIc cI s6 8 (va_cpy S5 S6 (0 : Int32).toNatClampNeg (0 : Int32).toNatClampNeg (8 : Int32).toNatClampNeg)), (aIc cI s8 8 (upd a_s8_20 (Int32.toNatClampNeg (nI i20)) 0))]) hP hD (fun hP hD => ?_)
          refine lv_aload_n hx hb dX4_standAlone_58 rfl (lv_at hl 2 rfl) ?_
          refine va_get (D := D) (ci := 4) (v := .ref s8) (C := RX4) (T := TX4) (N := 14) hx hb hts hiX4 hown hE.1 hP 0 rfl rfl 8 (by decide) (hts _ (List.mem_cons_of_mem _ wd_52)) (fun _ h9 => h9) rfl dX4_standAlone_59 ?_
          refine lv_iload hx hb dX4_standAlone_62 (lv_at hl 0 rfl) ?_
          refine va_iald hx hb hE.1 hP 9 0 rfl rfl (vp_in_nI (n := i20) (by omega) (by decide)) dX4_standAlone_64 ?_
          refine lv_topi (fun v5 ev5 => ?_)
          refine lv_if_le (tgt := 75) hx hb dX4_standAlone_65 (by decide) (fun c6 => ?_) (fun c6 => ?_)
          · skip
            refine lv_iinc (v := (nI (i20 + 1))) (lv' := [(4, .int (nI (i20 + 1))), (3, .int (nI h3_20)), (0, .ref x1), (1, .int (nI it)), (2, .int am)]) hx hb dX4_standAlone_75 hl (k := 0) rfl (nI_1 _) (by decide) rfl (fun ls hl => ?_)
            refine lv_goto (tgt := 20) hx hb dX4_standAlone_78 (by decide) ?_
            exact ih20 (i20 + 1) h3_20 (upd a_s8_20 (Int32.toNatClampNeg (nI i20)) 0) (by omega) (by omega) (by omega) _ _ _ hP hD hS (lv_sub hl [0, 1, 2, 3, 4] rfl)
          · skip
            refine lv_iload_n hx hb dX4_standAlone_68 rfl (lv_at hl 1 rfl) ?_
            refine lv_iconst (v := 1) hx hb dX4_standAlone_69 (by decide) ?_
            refine lv_iload hx hb dX4_standAlone_70 (lv_at hl 0 rfl) ?_
            refine lv_ishl hx hb dX4_standAlone_72 ?_
            refine lv_topi (fun v7 ev7 => ?_)
            refine lv_ior hx hb dX4_standAlone_73 ?_
            refine lv_topi (fun v8 ev8 => ?_)
            obtain ⟨n9, hn9, rfl⟩ := orb (by omega) (by omega) ev7 ev8
            refine lv_istore_n (lv' := [(3, .int (nI n9)), (4, .int (nI i20)), (0, .ref x1), (1, .int (nI it)), (2, .int am)]) hx hb dX4_standAlone_74 rfl hl (by decide) rfl (fun ls hl => ?_)
            refine lv_iinc (v := (nI (i20 + 1))) (lv' := [(4, .int (nI (i20 + 1))), (3, .int (nI n9)), (0, .ref x1), (1, .int (nI it)), (2, .int am)]) hx hb dX4_standAlone_75 hl (k := 1) rfl (nI_1 _) (by decide) rfl (fun ls hl => ?_)
            refine lv_goto (tgt := 20) hx hb dX4_standAlone_78 (by decide) ?_
            exact ih20 (i20 + 1) n9 (upd a_s8_20 (Int32.toNatClampNeg (nI i20)) 0) (by omega) (by omega) (by omega) _ _ _ hP hD hS (lv_sub hl [0, 1, 2, 3, 4] rfl)
        · skip
          have hc4 : ¬ ((nI pn) >>> ((nI i20) &&& 31)) &&& 1 = 0 := bz_1 hw3 c4
          refine lv_aload_n hx hb dX4_standAlone_45 rfl (lv_at hl 2 rfl) ?_
          refine lv_iload hx hb dX4_standAlone_46 (lv_at hl 0 rfl) ?_
          refine lv_iload_n hx hb dX4_standAlone_48 rfl (lv_at hl 3 rfl) ?_
          refine lv_iload_n hx hb dX4_standAlone_49 rfl (lv_at hl 4 rfl) ?_
          refine k_iS (va_runV (As := [.int (nI i20), .int (nI it), .int am]) (rest := [.int (nI i20), .ref s8]) ⟨hx, hb, hml, hown, hts⟩ (m_X4_owed l D cI cJ H.size x1 x0 s1 s2 s5 s6 s7 s8 s9 s10 s11 b0 b1 b2 b3 b4 b5 b6 b7 b8 b9 b10 b11 i20 it np nl pn si4 si12 si13 bi14 am B0 B2 B3 B4 B8 (va_cpy S5 S6 (0 : Int32).toNatClampNeg (0 : Int32).toNatClampNeg (8 : Int32).toNatClampNeg) (by omega) (by omega)) (cwV 3 hts gX4_standAlone_X4_owed rfl rfl rfl (by decide +kernel) ⟨Nat.le_of_ble_eq_true rfl, Nat.le_of_ble_eq_true rfl⟩) (k_preV hE hP hD [0, 1, 2, 3, 4, 5, 6, 8] (by decide +kernel) rfl 0 rfl rfl) rfl rfl hl.1 rfl (lv_room (Nat.le_of_ble_eq_true rfl)) dX4_standAlone_50 ⟨Nat.le_of_ble_eq_true rfl, Nat.le_of_ble_eq_true rfl⟩) hP hD hS hA [0, 1, 2, 3, 4, 5, 6, 8] rfl (fun _ _ h9 => h9) (fun r10 H locs hw11 hP hD hS => ?_)
          refine lv_goto (tgt := 57) hx hb dX4_standAlone_53 (by decide) ?_
          refine va_iast hx hb hE.1 hP hD hS 9 0 rfl rfl (vp_in_nI (n := i20) (by omega) (by decide)) dX4_standAlone_57 (fun H locs hP hD hS => ?_)
          refine k_re (w := [(oX4 x1 x0 s1 s2 (nI pn) si4 s5 s6 s7 s8 s9 s10 s11 si12 si13), (oX0 x0 b0 b1 b2 b3 b4 b5 b6 b7 b8 b9 b10 b11 (nI np) (nI nl) bi14), (aIc cI b0 8 B0), (aIc cI b2 8 B2), (aIc cI b3 8 B3), (aIc cI b4 8 B4), (aIc cI b8 64 B8), (aIc cI s5 8 S5), (aIc cI s6 8 (va_cpy S5 S6 (0 : Int32).toNatClampNeg (0 : Int32).toNatClampNeg (8 : Int32).toNatClampNeg)), (aIc cI s8 8 (upd a_s8_20 (Int32.toNatClampNeg (nI i20)) r10))]) hP hD (fun hP hD => ?_)
          refine lv_aload_n hx hb dX4_standAlone_58 rfl (lv_at hl 2 rfl) ?_
          refine va_get (D := D) (ci := 4) (v := .ref s8) (C := RX4) (T := TX4) (N := 14) hx hb hts hiX4 hown hE.1 hP 0 rfl rfl 8 (by decide) (hts _ (List.mem_cons_of_mem _ wd_52)) (fun _ h9 => h9) rfl dX4_standAlone_59 ?_
          refine lv_iload hx hb dX4_standAlone_62 (lv_at hl 0 rfl) ?_
          refine va_iald hx hb hE.1 hP 9 0 rfl rfl (vp_in_nI (n := i20) (by omega) (by decide)) dX4_standAlone_64 ?_
          refine lv_topi (fun v12 ev12 => ?_)
          refine lv_if_le (tgt := 75) hx hb dX4_standAlone_65 (by decide) (fun c13 => ?_) (fun c13 => ?_)
          · skip
            refine lv_iinc (v := (nI (i20 + 1))) (lv' := [(4, .int (nI (i20 + 1))), (3, .int (nI h3_20)), (0, .ref x1), (1, .int (nI it)), (2, .int am)]) hx hb dX4_standAlone_75 hl (k := 0) rfl (nI_1 _) (by decide) rfl (fun ls hl => ?_)
            refine lv_goto (tgt := 20) hx hb dX4_standAlone_78 (by decide) ?_
            exact ih20 (i20 + 1) h3_20 (upd a_s8_20 (Int32.toNatClampNeg (nI i20)) r10) (by omega) (by omega) (by omega) _ _ _ hP hD hS (lv_sub hl [0, 1, 2, 3, 4] rfl)
          · skip
            refine lv_iload_n hx hb dX4_standAlone_68 rfl (lv_at hl 1 rfl) ?_
            refine lv_iconst (v := 1) hx hb dX4_standAlone_69 (by decide) ?_
            refine lv_iload hx hb dX4_standAlone_70 (lv_at hl 0 rfl) ?_
            refine lv_ishl hx hb dX4_standAlone_72 ?_
            refine lv_topi (fun v14 ev14 => ?_)
            refine lv_ior hx hb dX4_standAlone_73 ?_
            refine lv_topi (fun v15 ev15 => ?_)
            obtain ⟨n16, hn16, rfl⟩ := orb (by omega) (by omega) ev14 ev15
            refine lv_istore_n (lv' := [(3, .int (nI n16)), (4, .int (nI i20)), (0, .ref x1), (1, .int (nI it)), (2, .int am)]) hx hb dX4_standAlone_74 rfl hl (by decide) rfl (fun ls hl => ?_)
            refine lv_iinc (v := (nI (i20 + 1))) (lv' := [(4, .int (nI (i20 + 1))), (3, .int (nI n16)), (0, .ref x1), (1, .int (nI it)), (2, .int am)]) hx hb dX4_standAlone_75 hl (k := 1) rfl (nI_1 _) (by decide) rfl (fun ls hl => ?_)
            refine lv_goto (tgt := 20) hx hb dX4_standAlone_78 (by decide) ?_
            exact ih20 (i20 + 1) n16 (upd a_s8_20 (Int32.toNatClampNeg (nI i20)) r10) (by omega) (by omega) (by omega) _ _ _ hP hD hS (lv_sub hl [0, 1, 2, 3, 4] rfl)
  exact J20 _ 0 0 S8 (by omega) (by omega) (Nat.lt_succ_self _) _ _ _ hP hD hS (lv_sub hl [0, 1, 2, 3, 4] rfl)
theorem dX4_shareOut_0 : decode cX4_shareOut 0 = .ok (.aload_n 0, 1) := by decide +kernel
theorem dX4_shareOut_1 : decode cX4_shareOut 1 = .ok (.getfield 45, 3) := by decide +kernel
theorem dX4_shareOut_4 : decode cX4_shareOut 4 = .ok (.iconst 0, 1) := by decide +kernel
theorem dX4_shareOut_5 : decode cX4_shareOut 5 = .ok (.invokestatic 79, 3) := by decide +kernel
theorem dX4_shareOut_8 : decode cX4_shareOut 8 = .ok (.aload_n 0, 1) := by decide +kernel
theorem dX4_shareOut_9 : decode cX4_shareOut 9 = .ok (.getfield 48, 3) := by decide +kernel
theorem dX4_shareOut_12 : decode cX4_shareOut 12 = .ok (.iconst 0, 1) := by decide +kernel
theorem dX4_shareOut_13 : decode cX4_shareOut 13 = .ok (.invokestatic 79, 3) := by decide +kernel
theorem dX4_shareOut_16 : decode cX4_shareOut 16 = .ok (.iload_n 2, 1) := by decide +kernel
theorem dX4_shareOut_17 : decode cX4_shareOut 17 = .ok (.istore_n 3, 1) := by decide +kernel
theorem dX4_shareOut_18 : decode cX4_shareOut 18 = .ok (.iconst 0, 1) := by decide +kernel
theorem dX4_shareOut_19 : decode cX4_shareOut 19 = .ok (.istore 4, 2) := by decide +kernel
theorem dX4_shareOut_21 : decode cX4_shareOut 21 = .ok (.iload 4, 2) := by decide +kernel
theorem dX4_shareOut_23 : decode cX4_shareOut 23 = .ok (.aload_n 0, 1) := by decide +kernel
theorem dX4_shareOut_24 : decode cX4_shareOut 24 = .ok (.getfield 21, 3) := by decide +kernel
theorem dX4_shareOut_27 : decode cX4_shareOut 27 = .ok (.getfield 144, 3) := by decide +kernel
theorem dX4_shareOut_30 : decode cX4_shareOut 30 = .ok (.if_icmp .ge 178, 3) := by decide +kernel
theorem dX4_shareOut_33 : decode cX4_shareOut 33 = .ok (.iload 4, 2) := by decide +kernel
theorem dX4_shareOut_35 : decode cX4_shareOut 35 = .ok (.bipush 8, 2) := by decide +kernel
theorem dX4_shareOut_37 : decode cX4_shareOut 37 = .ok (.if_icmp .ge 171, 3) := by decide +kernel
theorem dX4_shareOut_40 : decode cX4_shareOut 40 = .ok (.aload_n 0, 1) := by decide +kernel
theorem dX4_shareOut_41 : decode cX4_shareOut 41 = .ok (.getfield 51, 3) := by decide +kernel
theorem dX4_shareOut_44 : decode cX4_shareOut 44 = .ok (.iload 4, 2) := by decide +kernel
theorem dX4_shareOut_46 : decode cX4_shareOut 46 = .ok (.iload_n 3, 1) := by decide +kernel
theorem dX4_shareOut_47 : decode cX4_shareOut 47 = .ok (.iastore, 1) := by decide +kernel
theorem dX4_shareOut_48 : decode cX4_shareOut 48 = .ok (.aload_n 0, 1) := by decide +kernel
theorem dX4_shareOut_49 : decode cX4_shareOut 49 = .ok (.getfield 21, 3) := by decide +kernel
theorem dX4_shareOut_52 : decode cX4_shareOut 52 = .ok (.getfield 147, 3) := by decide +kernel
theorem dX4_shareOut_55 : decode cX4_shareOut 55 = .ok (.iload 4, 2) := by decide +kernel
theorem dX4_shareOut_57 : decode cX4_shareOut 57 = .ok (.iaload, 1) := by decide +kernel
theorem dX4_shareOut_58 : decode cX4_shareOut 58 = .ok (.aload_n 0, 1) := by decide +kernel
theorem dX4_shareOut_59 : decode cX4_shareOut 59 = .ok (.getfield 21, 3) := by decide +kernel
theorem dX4_shareOut_62 : decode cX4_shareOut 62 = .ok (.getfield 150, 3) := by decide +kernel
theorem dX4_shareOut_65 : decode cX4_shareOut 65 = .ok (.iconst (-1), 1) := by decide +kernel
theorem dX4_shareOut_66 : decode cX4_shareOut 66 = .ok (.ixor, 1) := by decide +kernel
theorem dX4_shareOut_67 : decode cX4_shareOut 67 = .ok (.iand, 1) := by decide +kernel
theorem dX4_shareOut_68 : decode cX4_shareOut 68 = .ok (.istore 5, 2) := by decide +kernel
theorem dX4_shareOut_70 : decode cX4_shareOut 70 = .ok (.aload_n 0, 1) := by decide +kernel
theorem dX4_shareOut_71 : decode cX4_shareOut 71 = .ok (.getfield 28, 3) := by decide +kernel
theorem dX4_shareOut_74 : decode cX4_shareOut 74 = .ok (.invokevirtual 153, 3) := by decide +kernel
theorem dX4_shareOut_77 : decode cX4_shareOut 77 = .ok (.iconst 0, 1) := by decide +kernel
theorem dX4_shareOut_78 : decode cX4_shareOut 78 = .ok (.istore 6, 2) := by decide +kernel
theorem dX4_shareOut_80 : decode cX4_shareOut 80 = .ok (.iload 6, 2) := by decide +kernel
theorem dX4_shareOut_82 : decode cX4_shareOut 82 = .ok (.bipush 8, 2) := by decide +kernel
theorem dX4_shareOut_84 : decode cX4_shareOut 84 = .ok (.if_icmp .ge 51, 3) := by decide +kernel
theorem dX4_shareOut_87 : decode cX4_shareOut 87 = .ok (.iload 5, 2) := by decide +kernel
theorem dX4_shareOut_89 : decode cX4_shareOut 89 = .ok (.iload 6, 2) := by decide +kernel
theorem dX4_shareOut_91 : decode cX4_shareOut 91 = .ok (.invokestatic 113, 3) := by decide +kernel
theorem dX4_shareOut_94 : decode cX4_shareOut 94 = .ok (.ifCond .eq 35, 3) := by decide +kernel
theorem dX4_shareOut_97 : decode cX4_shareOut 97 = .ok (.aload_n 0, 1) := by decide +kernel
theorem dX4_shareOut_98 : decode cX4_shareOut 98 = .ok (.getfield 45, 3) := by decide +kernel
theorem dX4_shareOut_101 : decode cX4_shareOut 101 = .ok (.iload 6, 2) := by decide +kernel
theorem dX4_shareOut_103 : decode cX4_shareOut 103 = .ok (.aload_n 0, 1) := by decide +kernel
theorem dX4_shareOut_104 : decode cX4_shareOut 104 = .ok (.iload 6, 2) := by decide +kernel
theorem dX4_shareOut_106 : decode cX4_shareOut 106 = .ok (.iload_n 1, 1) := by decide +kernel
theorem dX4_shareOut_107 : decode cX4_shareOut 107 = .ok (.iload_n 3, 1) := by decide +kernel
theorem dX4_shareOut_108 : decode cX4_shareOut 108 = .ok (.invokevirtual 117, 3) := by decide +kernel
theorem dX4_shareOut_111 : decode cX4_shareOut 111 = .ok (.iastore, 1) := by decide +kernel
theorem dX4_shareOut_112 : decode cX4_shareOut 112 = .ok (.aload_n 0, 1) := by decide +kernel
theorem dX4_shareOut_113 : decode cX4_shareOut 113 = .ok (.getfield 28, 3) := by decide +kernel
theorem dX4_shareOut_116 : decode cX4_shareOut 116 = .ok (.getfield 156, 3) := by decide +kernel
theorem dX4_shareOut_119 : decode cX4_shareOut 119 = .ok (.iload 6, 2) := by decide +kernel
theorem dX4_shareOut_121 : decode cX4_shareOut 121 = .ok (.aload_n 0, 1) := by decide +kernel
theorem dX4_shareOut_122 : decode cX4_shareOut 122 = .ok (.getfield 45, 3) := by decide +kernel
theorem dX4_shareOut_125 : decode cX4_shareOut 125 = .ok (.iload 6, 2) := by decide +kernel
theorem dX4_shareOut_127 : decode cX4_shareOut 127 = .ok (.iaload, 1) := by decide +kernel
theorem dX4_shareOut_128 : decode cX4_shareOut 128 = .ok (.iastore, 1) := by decide +kernel
theorem dX4_shareOut_129 : decode cX4_shareOut 129 = .ok (.iinc 6 1, 3) := by decide +kernel
theorem dX4_shareOut_132 : decode cX4_shareOut 132 = .ok (.goto (-52), 3) := by decide +kernel
theorem dX4_shareOut_135 : decode cX4_shareOut 135 = .ok (.iload_n 3, 1) := by decide +kernel
theorem dX4_shareOut_136 : decode cX4_shareOut 136 = .ok (.aload_n 0, 1) := by decide +kernel
theorem dX4_shareOut_137 : decode cX4_shareOut 137 = .ok (.getfield 28, 3) := by decide +kernel
theorem dX4_shareOut_140 : decode cX4_shareOut 140 = .ok (.invokevirtual 157, 3) := by decide +kernel
theorem dX4_shareOut_143 : decode cX4_shareOut 143 = .ok (.invokestatic 141, 3) := by decide +kernel
theorem dX4_shareOut_146 : decode cX4_shareOut 146 = .ok (.istore 6, 2) := by decide +kernel
theorem dX4_shareOut_148 : decode cX4_shareOut 148 = .ok (.aload_n 0, 1) := by decide +kernel
theorem dX4_shareOut_149 : decode cX4_shareOut 149 = .ok (.getfield 28, 3) := by decide +kernel
theorem dX4_shareOut_152 : decode cX4_shareOut 152 = .ok (.aload_n 0, 1) := by decide +kernel
theorem dX4_shareOut_153 : decode cX4_shareOut 153 = .ok (.getfield 65, 3) := by decide +kernel
theorem dX4_shareOut_156 : decode cX4_shareOut 156 = .ok (.iload 6, 2) := by decide +kernel
theorem dX4_shareOut_158 : decode cX4_shareOut 158 = .ok (.invokevirtual 160, 3) := by decide +kernel
theorem dX4_shareOut_161 : decode cX4_shareOut 161 = .ok (.iconst 0, 1) := by decide +kernel
theorem dX4_shareOut_162 : decode cX4_shareOut 162 = .ok (.istore 7, 2) := by decide +kernel
theorem dX4_shareOut_164 : decode cX4_shareOut 164 = .ok (.iload 7, 2) := by decide +kernel
theorem dX4_shareOut_166 : decode cX4_shareOut 166 = .ok (.bipush 8, 2) := by decide +kernel
theorem dX4_shareOut_168 : decode cX4_shareOut 168 = .ok (.if_icmp .ge 29, 3) := by decide +kernel
theorem dX4_shareOut_171 : decode cX4_shareOut 171 = .ok (.aload_n 0, 1) := by decide +kernel
theorem dX4_shareOut_172 : decode cX4_shareOut 172 = .ok (.getfield 48, 3) := by decide +kernel
theorem dX4_shareOut_175 : decode cX4_shareOut 175 = .ok (.iload 7, 2) := by decide +kernel
theorem dX4_shareOut_177 : decode cX4_shareOut 177 = .ok (.dup2, 1) := by decide +kernel
theorem dX4_shareOut_178 : decode cX4_shareOut 178 = .ok (.iaload, 1) := by decide +kernel
theorem dX4_shareOut_179 : decode cX4_shareOut 179 = .ok (.aload_n 0, 1) := by decide +kernel
theorem dX4_shareOut_180 : decode cX4_shareOut 180 = .ok (.getfield 28, 3) := by decide +kernel
theorem dX4_shareOut_183 : decode cX4_shareOut 183 = .ok (.getfield 163, 3) := by decide +kernel
theorem dX4_shareOut_186 : decode cX4_shareOut 186 = .ok (.iload 7, 2) := by decide +kernel
theorem dX4_shareOut_188 : decode cX4_shareOut 188 = .ok (.iaload, 1) := by decide +kernel
theorem dX4_shareOut_189 : decode cX4_shareOut 189 = .ok (.iadd, 1) := by decide +kernel
theorem dX4_shareOut_190 : decode cX4_shareOut 190 = .ok (.iastore, 1) := by decide +kernel
theorem dX4_shareOut_191 : decode cX4_shareOut 191 = .ok (.iinc 7 1, 3) := by decide +kernel
theorem dX4_shareOut_194 : decode cX4_shareOut 194 = .ok (.goto (-30), 3) := by decide +kernel
theorem dX4_shareOut_197 : decode cX4_shareOut 197 = .ok (.iload_n 3, 1) := by decide +kernel
theorem dX4_shareOut_198 : decode cX4_shareOut 198 = .ok (.iload 6, 2) := by decide +kernel
theorem dX4_shareOut_200 : decode cX4_shareOut 200 = .ok (.isub, 1) := by decide +kernel
theorem dX4_shareOut_201 : decode cX4_shareOut 201 = .ok (.istore_n 3, 1) := by decide +kernel
theorem dX4_shareOut_202 : decode cX4_shareOut 202 = .ok (.iinc 4 1, 3) := by decide +kernel
theorem dX4_shareOut_205 : decode cX4_shareOut 205 = .ok (.goto (-184), 3) := by decide +kernel
theorem dX4_shareOut_208 : decode cX4_shareOut 208 = .ok (.aload_n 0, 1) := by decide +kernel
theorem dX4_shareOut_209 : decode cX4_shareOut 209 = .ok (.iload_n 2, 1) := by decide +kernel
theorem dX4_shareOut_210 : decode cX4_shareOut 210 = .ok (.iload_n 3, 1) := by decide +kernel
theorem dX4_shareOut_211 : decode cX4_shareOut 211 = .ok (.isub, 1) := by decide +kernel
theorem dX4_shareOut_212 : decode cX4_shareOut 212 = .ok (.putfield 166, 3) := by decide +kernel
theorem dX4_shareOut_215 : decode cX4_shareOut 215 = .ok (.return_, 1) := by decide +kernel
theorem gX4_shareOut_J7_fill_53178 : GoodIn wtX4_shareOut (va_wsS RX4 79 yJ7_fill_53178 wtJ7_fill_53178) := tb_good (tb_s0 wd_306 wd_73 wd_74 wd_75)
theorem gX4_shareOut_X2_capsTogether : GoodIn wtX4_shareOut (wsV RX4 157 RX2 yX2_capsTogether wtX2_capsTogether) := tb_good (tb_v0 wd_364 wd_365 wd_366 wd_47 wd_367)
theorem gX4_shareOut_X2_clear : GoodIn wtX4_shareOut (wsV RX4 153 RX2 yX2_clear wtX2_clear) := tb_good (tb_v0 wd_359 wd_360 wd_361 wd_47 wd_362)
theorem gX4_shareOut_X2_divide : GoodIn wtX4_shareOut (wsV RX4 160 RX2 yX2_divide wtX2_divide) := tb_good (tb_v0 wd_368 wd_369 wd_370 wd_47 wd_371)
theorem gX4_shareOut_X4_owed : GoodIn wtX4_shareOut (wsV RX4 117 RX4 yX4_owed wtX4_owed) := tb_good (tb_v0 wd_313 wd_314 wd_315 wd_16 wd_316)
theorem gX4_shareOut_X7_has_n113 : GoodIn wtX4_shareOut (wtX7_has) := tb_good (tb_c0 wd_312)
set_option maxHeartbeats 4000000 in
set_option maxRecDepth 100000 in
theorem m_X4_shareOut (l : Launch) (D : va_G) (cI cJ : ClassId) (sz : Nat) (x1 x0 s1 s2 s5 s6 s7 s8 s9 s10 s11 b0 b1 b2 b3 b4 b5 b6 b7 b8 b9 b10 b11 w0 w1 w2 w3 w4 w8 d0 d1 d2 it wn lv np nl pn : Nat) (si4 si12 si13 bi14 wi6 am : Int32) (B0 B2 B3 B4 B8 S6 S9 S10 S11 W4 D0 D1 : Nat → Int32) (D2 : Nat → Int64) (hit : it < 8) (hlv : lv ≤ 8) : Met l yX4_shareOut wtX4_shareOut { frames := 3, cells := 0, slots := 0, locals := 75 } (cPc D cI cJ [.ref x1, .int (nI it), .int am] sz [(oX4 x1 x0 s1 s2 (nI pn) si4 s5 s6 s7 s8 s9 s10 s11 si12 si13), (oX0 x0 b0 b1 b2 b3 b4 b5 b6 b7 b8 b9 b10 b11 (nI np) (nI nl) bi14), (oX6 s1 w0 w1 w2 w3 w4 (nI wn) wi6 (nI lv) w8), (oX2 s2 d0 d1 d2), (aIc cI b0 8 B0), (aIc cI b2 8 B2), (aIc cI b3 8 B3), (aIc cI b4 8 B4), (aIc cI b8 64 B8), (aIc cI s6 8 S6), (aIc cI s9 8 S9), (aIc cI s10 8 S10), (aIc cI s11 8 S11), (aIc cI w4 8 W4), (aIc cI d0 8 D0), (aIc cI d1 8 D1), (aJc cJ d2 8 D2)]) (cQv D (fun u => ∃ (S9p S10p S11p D0p D1p : Nat → Int32) (D2p : Nat → Int64) (si12p : Int32), u = [(oX4 x1 x0 s1 s2 (nI pn) si4 s5 s6 s7 s8 s9 s10 s11 si12p si13), (oX0 x0 b0 b1 b2 b3 b4 b5 b6 b7 b8 b9 b10 b11 (nI np) (nI nl) bi14), (oX6 s1 w0 w1 w2 w3 w4 (nI wn) wi6 (nI lv) w8), (oX2 s2 d0 d1 d2), (aIc cI b0 8 B0), (aIc cI b2 8 B2), (aIc cI b3 8 B3), (aIc cI b4 8 B4), (aIc cI b8 64 B8), (aIc cI s6 8 S6), (aIc cI s9 8 S9p), (aIc cI s10 8 S10p), (aIc cI s11 8 S11p), (aIc cI w4 8 W4), (aIc cI d0 8 D0p), (aIc cI d1 8 D1p), (aJc cJ d2 8 D2p)]) (va_A [(oX4 x1 x0 s1 s2 (nI pn) si4 s5 s6 s7 s8 s9 s10 s11 si12 si13), (oX0 x0 b0 b1 b2 b3 b4 b5 b6 b7 b8 b9 b10 b11 (nI np) (nI nl) bi14), (oX6 s1 w0 w1 w2 w3 w4 (nI wn) wi6 (nI lv) w8), (oX2 s2 d0 d1 d2), (aIc cI b0 8 B0), (aIc cI b2 8 B2), (aIc cI b3 8 B3), (aIc cI b4 8 B4), (aIc cI b8 64 B8), (aIc cI s6 8 S6), (aIc cI s9 8 S9), (aIc cI s10 8 S10), (aIc cI s11 8 S11), (aIc cI w4 8 W4), (aIc cI d0 8 D0), (aIc cI d1 8 D1), (aJc cJ d2 8 D2)] sz)) 0 0 (va_A [(oX4 x1 x0 s1 s2 (nI pn) si4 s5 s6 s7 s8 s9 s10 s11 si12 si13), (oX0 x0 b0 b1 b2 b3 b4 b5 b6 b7 b8 b9 b10 b11 (nI np) (nI nl) bi14), (oX6 s1 w0 w1 w2 w3 w4 (nI wn) wi6 (nI lv) w8), (oX2 s2 d0 d1 d2), (aIc cI b0 8 B0), (aIc cI b2 8 B2), (aIc cI b3 8 B3), (aIc cI b4 8 B4), (aIc cI b8 64 B8), (aIc cI s6 8 S6), (aIc cI s9 8 S9), (aIc cI s10 8 S10), (aIc cI s11 8 S11), (aIc cI w4 8 W4), (aIc cI d0 8 D0), (aIc cI d1 8 D1), (aJc cJ d2 8 D2)] sz) := by
  refine k_ofW (Qc := cQv D (fun u => ∃ (S9p S10p S11p D0p D1p : Nat → Int32) (D2p : Nat → Int64) (si12p : Int32), u = [(oX4 x1 x0 s1 s2 (nI pn) si4 s5 s6 s7 s8 s9 s10 s11 si12p si13), (oX0 x0 b0 b1 b2 b3 b4 b5 b6 b7 b8 b9 b10 b11 (nI np) (nI nl) bi14), (oX6 s1 w0 w1 w2 w3 w4 (nI wn) wi6 (nI lv) w8), (oX2 s2 d0 d1 d2), (aIc cI b0 8 B0), (aIc cI b2 8 B2), (aIc cI b3 8 B3), (aIc cI b4 8 B4), (aIc cI b8 64 B8), (aIc cI s6 8 S6), (aIc cI s9 8 S9p), (aIc cI s10 8 S10p), (aIc cI s11 8 S11p), (aIc cI w4 8 W4), (aIc cI d0 8 D0p), (aIc cI d1 8 D1p), (aJc cJ d2 8 D2p)])) (by decide) rfl (Nat.le_of_ble_eq_true rfl) ?_
  intro p e s m below meth c A ls hx hb hr hml hts hown hlk hnm hsz hE hP hD hS hA hl
  have hown : s.vm.findClass RX4 = some m.cls := hown
  have hiX4 : ∀ w ∈ u_ws RX4 TX4 14, w ∈ wtX4_shareOut := fun w h => List.mem_cons_of_mem _ (iuX4 w h)
  have hiX6 : ∀ w ∈ u_ws RX6 TX6 9, w ∈ wtX4_shareOut := fun w h => List.mem_cons_of_mem _ (iuX6 w h)
  have hiX2 : ∀ w ∈ u_ws RX2 TX2 3, w ∈ wtX4_shareOut := fun w h => List.mem_cons_of_mem _ (iuX2 w h)
  have hl : lv_has ls 8 [(0, .ref x1), (1, .int (nI it)), (2, .int am)] := hl
  refine lv_aload_n hx hb dX4_shareOut_0 rfl (lv_at hl 0 rfl) ?_
  refine va_get (D := D) (ci := 4) (v := .ref s9) (C := RX4) (T := TX4) (N := 14) hx hb hts hiX4 hown hE.1 hP 0 rfl rfl 9 (by decide) (hts _ (List.mem_cons_of_mem _ wd_53)) (fun _ h9 => h9) rfl dX4_shareOut_1 ?_
  refine lv_iconst (v := 0) hx hb dX4_shareOut_4 (by decide) ?_
  refine k_v (va_runS (As := [.ref s9, .int 0]) (rest := []) ⟨hx, hb, hml, hown, hts⟩ (m_J7_fill l D cI cJ (s.heap).size s9 0 8 S9 (by decide)) (va_cwS 2 hts gX4_shareOut_J7_fill_53178 rfl rfl rfl (by decide +kernel) ⟨Nat.le_of_ble_eq_true rfl, Nat.le_of_ble_eq_true rfl⟩) (k_pre hE hP hD [10] (by decide +kernel) rfl) rfl rfl hl.1 rfl (lv_room (Nat.le_of_ble_eq_true rfl)) dX4_shareOut_5 ⟨Nat.le_of_ble_eq_true rfl, Nat.le_of_ble_eq_true rfl⟩) hP hD hS hA [10] [0, 1, 2, 3, 4, 5, 6, 7, 8, 9, 11, 12, 13, 14, 15, 16] rfl (wr := [(oX4 x1 x0 s1 s2 (nI pn) si4 s5 s6 s7 s8 s9 s10 s11 si12 si13), (oX0 x0 b0 b1 b2 b3 b4 b5 b6 b7 b8 b9 b10 b11 (nI np) (nI nl) bi14), (oX6 s1 w0 w1 w2 w3 w4 (nI wn) wi6 (nI lv) w8), (oX2 s2 d0 d1 d2), (aIc cI b0 8 B0), (aIc cI b2 8 B2), (aIc cI b3 8 B3), (aIc cI b4 8 B4), (aIc cI b8 64 B8), (aIc cI s6 8 S6), (aIc cI s10 8 S10), (aIc cI s11 8 S11), (aIc cI w4 8 W4), (aIc cI d0 8 D0), (aIc cI d1 8 D1), (aJc cJ d2 8 D2)]) rfl (by decide +kernel) (by decide +kernel) (fun u H locs hw1 hP hD hS => ?_)
  subst hw1
  refine k_re (w := [(oX4 x1 x0 s1 s2 (nI pn) si4 s5 s6 s7 s8 s9 s10 s11 si12 si13), (oX0 x0 b0 b1 b2 b3 b4 b5 b6 b7 b8 b9 b10 b11 (nI np) (nI nl) bi14), (oX6 s1 w0 w1 w2 w3 w4 (nI wn) wi6 (nI lv) w8), (oX2 s2 d0 d1 d2), (aIc cI b0 8 B0), (aIc cI b2 8 B2), (aIc cI b3 8 B3), (aIc cI b4 8 B4), (aIc cI b8 64 B8), (aIc cI s6 8 S6), (aIc cI s10 8 S10), (aIc cI s11 8 S11), (aIc cI w4 8 W4), (aIc cI d0 8 D0), (aIc cI d1 8 D1), (aJc cJ d2 8 D2), (aIc cI s9 8 (fl 8 0 S9))]) hP hD (fun hP hD => ?_)
  refine lv_aload_n hx hb dX4_shareOut_8 rfl (lv_at hl 0 rfl) ?_
  refine va_get (D := D) (ci := 4) (v := .ref s10) (C := RX4) (T := TX4) (N := 14) hx hb hts hiX4 hown hE.1 hP 0 rfl rfl 10 (by decide) (hts _ (List.mem_cons_of_mem _ wd_54)) (fun _ h9 => h9) rfl dX4_shareOut_9 ?_
  refine lv_iconst (v := 0) hx hb dX4_shareOut_12 (by decide) ?_
  refine k_v (va_runS (As := [.ref s10, .int 0]) (rest := []) ⟨hx, hb, hml, hown, hts⟩ (m_J7_fill l D cI cJ H.size s10 0 8 S10 (by decide)) (va_cwS 2 hts gX4_shareOut_J7_fill_53178 rfl rfl rfl (by decide +kernel) ⟨Nat.le_of_ble_eq_true rfl, Nat.le_of_ble_eq_true rfl⟩) (k_pre hE hP hD [10] (by decide +kernel) rfl) rfl rfl hl.1 rfl (lv_room (Nat.le_of_ble_eq_true rfl)) dX4_shareOut_13 ⟨Nat.le_of_ble_eq_true rfl, Nat.le_of_ble_eq_true rfl⟩) hP hD hS hA [10] [0, 1, 2, 3, 4, 5, 6, 7, 8, 9, 11, 12, 13, 14, 15, 16] rfl (wr := [(oX4 x1 x0 s1 s2 (nI pn) si4 s5 s6 s7 s8 s9 s10 s11 si12 si13), (oX0 x0 b0 b1 b2 b3 b4 b5 b6 b7 b8 b9 b10 b11 (nI np) (nI nl) bi14), (oX6 s1 w0 w1 w2 w3 w4 (nI wn) wi6 (nI lv) w8), (oX2 s2 d0 d1 d2), (aIc cI b0 8 B0), (aIc cI b2 8 B2), (aIc cI b3 8 B3), (aIc cI b4 8 B4), (aIc cI b8 64 B8), (aIc cI s6 8 S6), (aIc cI s11 8 S11), (aIc cI w4 8 W4), (aIc cI d0 8 D0), (aIc cI d1 8 D1), (aJc cJ d2 8 D2), (aIc cI s9 8 (fl 8 0 S9))]) rfl (by decide +kernel) (by decide +kernel) (fun u H locs hw2 hP hD hS => ?_)
  subst hw2
  refine k_re (w := [(oX4 x1 x0 s1 s2 (nI pn) si4 s5 s6 s7 s8 s9 s10 s11 si12 si13), (oX0 x0 b0 b1 b2 b3 b4 b5 b6 b7 b8 b9 b10 b11 (nI np) (nI nl) bi14), (oX6 s1 w0 w1 w2 w3 w4 (nI wn) wi6 (nI lv) w8), (oX2 s2 d0 d1 d2), (aIc cI b0 8 B0), (aIc cI b2 8 B2), (aIc cI b3 8 B3), (aIc cI b4 8 B4), (aIc cI b8 64 B8), (aIc cI s6 8 S6), (aIc cI s11 8 S11), (aIc cI w4 8 W4), (aIc cI d0 8 D0), (aIc cI d1 8 D1), (aJc cJ d2 8 D2), (aIc cI s9 8 (fl 8 0 S9)), (aIc cI s10 8 (fl 8 0 S10))]) hP hD (fun hP hD => ?_)
  refine lv_iload_n hx hb dX4_shareOut_16 rfl (lv_at hl 2 rfl) ?_
  refine lv_istore_n (lv' := [(3, .int am), (0, .ref x1), (1, .int (nI it)), (2, .int am)]) hx hb dX4_shareOut_17 rfl hl (by decide) rfl (fun ls hl => ?_)
  refine lv_iconst (v := 0) hx hb dX4_shareOut_18 (by decide) ?_
  refine lv_istore (lv' := [(4, .int 0), (3, .int am), (0, .ref x1), (1, .int (nI it)), (2, .int am)]) hx hb dX4_shareOut_19 hl (by decide) rfl (fun ls hl => ?_)
  have J21 : ∀ (zz : Nat) (i21 : Nat) (h3_21 : Int32) (a_s9_21 a_s10_21 a_s11_21 a_d0_21 a_d1_21 : Nat → Int32) (a_d2_21 : Nat → Int64), (i21 ≤ 8) → (8 - i21) < zz → ∀ (H : Heap) (locs : List Loc) (ls : Array Slot), va_P D vwCl [(oX4 x1 x0 s1 s2 (nI pn) si4 s5 s6 s7 s8 s9 s10 s11 si12 si13), (oX0 x0 b0 b1 b2 b3 b4 b5 b6 b7 b8 b9 b10 b11 (nI np) (nI nl) bi14), (oX6 s1 w0 w1 w2 w3 w4 (nI wn) wi6 (nI lv) w8), (oX2 s2 d0 d1 d2), (aIc cI b0 8 B0), (aIc cI b2 8 B2), (aIc cI b3 8 B3), (aIc cI b4 8 B4), (aIc cI b8 64 B8), (aIc cI s6 8 S6), (aIc cI s11 8 a_s11_21), (aIc cI w4 8 W4), (aIc cI d0 8 a_d0_21), (aIc cI d1 8 a_d1_21), (aJc cJ d2 8 a_d2_21), (aIc cI s9 8 a_s9_21), (aIc cI s10 8 a_s10_21)] H → va_D A [(oX4 x1 x0 s1 s2 (nI pn) si4 s5 s6 s7 s8 s9 s10 s11 si12 si13), (oX0 x0 b0 b1 b2 b3 b4 b5 b6 b7 b8 b9 b10 b11 (nI np) (nI nl) bi14), (oX6 s1 w0 w1 w2 w3 w4 (nI wn) wi6 (nI lv) w8), (oX2 s2 d0 d1 d2), (aIc cI b0 8 B0), (aIc cI b2 8 B2), (aIc cI b3 8 B3), (aIc cI b4 8 B4), (aIc cI b8 64 B8), (aIc cI s6 8 S6), (aIc cI s11 8 a_s11_21), (aIc cI w4 8 W4), (aIc cI d0 8 a_d0_21), (aIc cI d1 8 a_d1_21), (aJc cJ d2 8 a_d2_21), (aIc cI s9 8 a_s9_21), (aIc cI s10 8 a_s10_21)] → va_S A s.heap H locs → lv_has ls 8 [(4, .int (nI i21)), (3, .int h3_21), (0, .ref x1), (1, .int (nI it)), (2, .int am)] → W p l e { frames := 3, cells := 0, slots := 0, locals := 75 } s m [.ref x1, .int (nI it), .int am].toArray below meth c H locs 0 0 (MQ below (cQv D (fun u => ∃ (S9p S10p S11p D0p D1p : Nat → Int32) (D2p : Nat → Int64) (si12p : Int32), u = [(oX4 x1 x0 s1 s2 (nI pn) si4 s5 s6 s7 s8 s9 s10 s11 si12p si13), (oX0 x0 b0 b1 b2 b3 b4 b5 b6 b7 b8 b9 b10 b11 (nI np) (nI nl) bi14), (oX6 s1 w0 w1 w2 w3 w4 (nI wn) wi6 (nI lv) w8), (oX2 s2 d0 d1 d2), (aIc cI b0 8 B0), (aIc cI b2 8 B2), (aIc cI b3 8 B3), (aIc cI b4 8 B4), (aIc cI b8 64 B8), (aIc cI s6 8 S6), (aIc cI s9 8 S9p), (aIc cI s10 8 S10p), (aIc cI s11 8 S11p), (aIc cI w4 8 W4), (aIc cI d0 8 D0p), (aIc cI d1 8 D1p), (aJc cJ d2 8 D2p)]) A) [.ref x1, .int (nI it), .int am].toArray s 0 0 A) (F0 m 21 ls []) := by
    intro zz
    induction zz with
    | zero => intro i21 h3_21 a_s9_21 a_s10_21 a_s11_21 a_d0_21 a_d1_21 a_d2_21 _; exact fun h => absurd h (Nat.not_lt_zero _)
    | succ zz ih21 =>
      intro i21 h3_21 a_s9_21 a_s10_21 a_s11_21 a_d0_21 a_d1_21 a_d2_21 hc4_21 hmu21 H locs ls hP hD hS hl
      refine lv_iload hx hb dX4_shareOut_21 (lv_at hl 0 rfl) ?_
      refine lv_aload_n hx hb dX4_shareOut_23 rfl (lv_at hl 2 rfl) ?_
      refine va_get (D := D) (ci := 4) (v := .ref s1) (C := RX4) (T := TX4) (N := 14) hx hb hts hiX4 hown hE.1 hP 0 rfl rfl 1 (by decide) (hts _ (List.mem_cons_of_mem _ wd_44)) (fun _ h9 => h9) rfl dX4_shareOut_24 ?_
      refine va_get (D := D) (ci := 6) (v := .int (nI lv)) (C := RX6) (T := TX6) (N := 9) hx hb hts hiX6 hown hE.1 hP 2 rfl rfl 7 (by decide) (hts _ (List.mem_cons_of_mem _ wd_353)) (fun _ h9 => h9) rfl dX4_shareOut_27 ?_
      refine lv_icmp_ge (tgt := 208) hx hb dX4_shareOut_30 (by decide) (fun c3 => ?_) (fun c3 => ?_)
      · skip
        have nc3 : lv ≤ i21 := (nI_leI (a := lv) (b := i21) (by omega) (by omega)).mp c3
        refine lv_aload_n hx hb dX4_shareOut_208 rfl (lv_at hl 2 rfl) ?_
        refine lv_iload_n hx hb dX4_shareOut_209 rfl (lv_at hl 4 rfl) ?_
        refine lv_iload_n hx hb dX4_shareOut_210 rfl (lv_at hl 1 rfl) ?_
        refine lv_isub hx hb dX4_shareOut_211 ?_
        refine lv_topi (fun v4 ev4 => ?_)
        refine va_put (D := D) (ci := 4) (v := .int v4) (ty := .int) (C := RX4) (T := TX4) (N := 14) hx hb hts hiX4 tyX4 tyX4_ok nmX4 hown hE.1 hP hD hS 0 rfl rfl 12 (by decide) (hts _ (List.mem_cons_of_mem _ wd_358)) (fun _ h9 => h9) rfl (by decide +kernel) rfl rfl (Nat.le_of_ble_eq_true rfl) dX4_shareOut_212 (fun H locs hP hD hS => ?_)
        refine k_re (w := [(oX4 x1 x0 s1 s2 (nI pn) si4 s5 s6 s7 s8 s9 s10 s11 v4 si13), (oX0 x0 b0 b1 b2 b3 b4 b5 b6 b7 b8 b9 b10 b11 (nI np) (nI nl) bi14), (oX6 s1 w0 w1 w2 w3 w4 (nI wn) wi6 (nI lv) w8), (oX2 s2 d0 d1 d2), (aIc cI b0 8 B0), (aIc cI b2 8 B2), (aIc cI b3 8 B3), (aIc cI b4 8 B4), (aIc cI b8 64 B8), (aIc cI s6 8 S6), (aIc cI s11 8 a_s11_21), (aIc cI w4 8 W4), (aIc cI d0 8 a_d0_21), (aIc cI d1 8 a_d1_21), (aJc cJ d2 8 a_d2_21), (aIc cI s9 8 a_s9_21), (aIc cI s10 8 a_s10_21)]) hP hD (fun hP hD => ?_)
        refine k_vret (u := [(oX4 x1 x0 s1 s2 (nI pn) si4 s5 s6 s7 s8 s9 s10 s11 v4 si13), (oX0 x0 b0 b1 b2 b3 b4 b5 b6 b7 b8 b9 b10 b11 (nI np) (nI nl) bi14), (oX6 s1 w0 w1 w2 w3 w4 (nI wn) wi6 (nI lv) w8), (oX2 s2 d0 d1 d2), (aIc cI b0 8 B0), (aIc cI b2 8 B2), (aIc cI b3 8 B3), (aIc cI b4 8 B4), (aIc cI b8 64 B8), (aIc cI s6 8 S6), (aIc cI s9 8 a_s9_21), (aIc cI s10 8 a_s10_21), (aIc cI s11 8 a_s11_21), (aIc cI w4 8 W4), (aIc cI d0 8 a_d0_21), (aIc cI d1 8 a_d1_21), (aJc cJ d2 8 a_d2_21)]) hx hb hr hlk (k_sub hP [0, 1, 2, 3, 4, 5, 6, 7, 8, 9, 15, 16, 10, 11, 12, 13, 14] rfl) (hD.sub [0, 1, 2, 3, 4, 5, 6, 7, 8, 9, 15, 16, 10, 11, 12, 13, 14] (by decide +kernel) rfl) hS dX4_shareOut_215 ?_
        exact ⟨a_s9_21, a_s10_21, a_s11_21, a_d0_21, a_d1_21, a_d2_21, v4, rfl⟩
      · skip
        have nc3 : ¬ lv ≤ i21 := fun q9 => c3 ((nI_leI (a := lv) (b := i21) (by omega) (by omega)).mpr q9)
        refine lv_iload hx hb dX4_shareOut_33 (lv_at hl 0 rfl) ?_
        refine lv_bipush (v := 8) hx hb dX4_shareOut_35 (by decide) ?_
        refine lv_icmp_ge (tgt := 208) hx hb dX4_shareOut_37 (by decide) (fun c5 => ?_) (fun c5 => ?_)
        · skip
          have nc5 : 8 ≤ i21 := (nI_leI (a := 8) (b := i21) (by omega) (by omega)).mp c5
          refine lv_aload_n hx hb dX4_shareOut_208 rfl (lv_at hl 2 rfl) ?_
          refine lv_iload_n hx hb dX4_shareOut_209 rfl (lv_at hl 4 rfl) ?_
          refine lv_iload_n hx hb dX4_shareOut_210 rfl (lv_at hl 1 rfl) ?_
          refine lv_isub hx hb dX4_shareOut_211 ?_
          refine lv_topi (fun v6 ev6 => ?_)
          refine va_put (D := D) (ci := 4) (v := .int v6) (ty := .int) (C := RX4) (T := TX4) (N := 14) hx hb hts hiX4 tyX4 tyX4_ok nmX4 hown hE.1 hP hD hS 0 rfl rfl 12 (by decide) (hts _ (List.mem_cons_of_mem _ wd_358)) (fun _ h9 => h9) rfl (by decide +kernel) rfl rfl (Nat.le_of_ble_eq_true rfl) dX4_shareOut_212 (fun H locs hP hD hS => ?_)
          refine k_re (w := [(oX4 x1 x0 s1 s2 (nI pn) si4 s5 s6 s7 s8 s9 s10 s11 v6 si13), (oX0 x0 b0 b1 b2 b3 b4 b5 b6 b7 b8 b9 b10 b11 (nI np) (nI nl) bi14), (oX6 s1 w0 w1 w2 w3 w4 (nI wn) wi6 (nI lv) w8), (oX2 s2 d0 d1 d2), (aIc cI b0 8 B0), (aIc cI b2 8 B2), (aIc cI b3 8 B3), (aIc cI b4 8 B4), (aIc cI b8 64 B8), (aIc cI s6 8 S6), (aIc cI s11 8 a_s11_21), (aIc cI w4 8 W4), (aIc cI d0 8 a_d0_21), (aIc cI d1 8 a_d1_21), (aJc cJ d2 8 a_d2_21), (aIc cI s9 8 a_s9_21), (aIc cI s10 8 a_s10_21)]) hP hD (fun hP hD => ?_)
          refine k_vret (u := [(oX4 x1 x0 s1 s2 (nI pn) si4 s5 s6 s7 s8 s9 s10 s11 v6 si13), (oX0 x0 b0 b1 b2 b3 b4 b5 b6 b7 b8 b9 b10 b11 (nI np) (nI nl) bi14), (oX6 s1 w0 w1 w2 w3 w4 (nI wn) wi6 (nI lv) w8), (oX2 s2 d0 d1 d2), (aIc cI b0 8 B0), (aIc cI b2 8 B2), (aIc cI b3 8 B3), (aIc cI b4 8 B4), (aIc cI b8 64 B8), (aIc cI s6 8 S6), (aIc cI s9 8 a_s9_21), (aIc cI s10 8 a_s10_21), (aIc cI s11 8 a_s11_21), (aIc cI w4 8 W4), (aIc cI d0 8 a_d0_21), (aIc cI d1 8 a_d1_21), (aJc cJ d2 8 a_d2_21)]) hx hb hr hlk (k_sub hP [0, 1, 2, 3, 4, 5, 6, 7, 8, 9, 15, 16, 10, 11, 12, 13, 14] rfl) (hD.sub [0, 1, 2, 3, 4, 5, 6, 7, 8, 9, 15, 16, 10, 11, 12, 13, 14] (by decide +kernel) rfl) hS dX4_shareOut_215 ?_
          exact ⟨a_s9_21, a_s10_21, a_s11_21, a_d0_21, a_d1_21, a_d2_21, v6, rfl⟩
        · skip
          have nc5 : ¬ 8 ≤ i21 := fun q9 => c5 ((nI_leI (a := 8) (b := i21) (by omega) (by omega)).mpr q9)
          refine lv_aload_n hx hb dX4_shareOut_40 rfl (lv_at hl 2 rfl) ?_
          refine va_get (D := D) (ci := 4) (v := .ref s11) (C := RX4) (T := TX4) (N := 14) hx hb hts hiX4 hown hE.1 hP 0 rfl rfl 11 (by decide) (hts _ (List.mem_cons_of_mem _ wd_55)) (fun _ h9 => h9) rfl dX4_shareOut_41 ?_
          refine lv_iload hx hb dX4_shareOut_44 (lv_at hl 0 rfl) ?_
          refine lv_iload_n hx hb dX4_shareOut_46 rfl (lv_at hl 1 rfl) ?_
          refine va_iast hx hb hE.1 hP hD hS 10 0 rfl rfl (vp_in_nI (n := i21) (by omega) (by decide)) dX4_shareOut_47 (fun H locs hP hD hS => ?_)
          refine k_re (w := [(oX4 x1 x0 s1 s2 (nI pn) si4 s5 s6 s7 s8 s9 s10 s11 si12 si13), (oX0 x0 b0 b1 b2 b3 b4 b5 b6 b7 b8 b9 b10 b11 (nI np) (nI nl) bi14), (oX6 s1 w0 w1 w2 w3 w4 (nI wn) wi6 (nI lv) w8), (oX2 s2 d0 d1 d2), (aIc cI b0 8 B0), (aIc cI b2 8 B2), (aIc cI b3 8 B3), (aIc cI b4 8 B4), (aIc cI b8 64 B8), (aIc cI s6 8 S6), (aIc cI s11 8 (upd a_s11_21 (Int32.toNatClampNeg (nI i21)) h3_21)), (aIc cI w4 8 W4), (aIc cI d0 8 a_d0_21), (aIc cI d1 8 a_d1_21), (aJc cJ d2 8 a_d2_21), (aIc cI s9 8 a_s9_21), (aIc cI s10 8 a_s10_21)]) hP hD (fun hP hD => ?_)
          refine lv_aload_n hx hb dX4_shareOut_48 rfl (lv_at hl 2 rfl) ?_
          refine va_get (D := D) (ci := 4) (v := .ref s1) (C := RX4) (T := TX4) (N := 14) hx hb hts hiX4 hown hE.1 hP 0 rfl rfl 1 (by decide) (hts _ (List.mem_cons_of_mem _ wd_44)) (fun _ h9 => h9) rfl dX4_shareOut_49 ?_
          refine va_get (D := D) (ci := 6) (v := .ref w4) (C := RX6) (T := TX6) (N := 9) hx hb hts hiX6 hown hE.1 hP 2 rfl rfl 4 (by decide) (hts _ (List.mem_cons_of_mem _ wd_354)) (fun _ h9 => h9) rfl dX4_shareOut_52 ?_
          refine lv_iload hx hb dX4_shareOut_55 (lv_at hl 0 rfl) ?_
          refine va_iald hx hb hE.1 hP 11 0 rfl rfl (vp_in_nI (n := i21) (by omega) (by decide)) dX4_shareOut_57 ?_
          refine lv_topi (fun v7 ev7 => ?_)
          refine lv_aload_n hx hb dX4_shareOut_58 rfl (lv_at hl 2 rfl) ?_
          refine va_get (D := D) (ci := 4) (v := .ref s1) (C := RX4) (T := TX4) (N := 14) hx hb hts hiX4 hown hE.1 hP 0 rfl rfl 1 (by decide) (hts _ (List.mem_cons_of_mem _ wd_44)) (fun _ h9 => h9) rfl dX4_shareOut_59 ?_
          refine va_get (D := D) (ci := 6) (v := .int wi6) (C := RX6) (T := TX6) (N := 9) hx hb hts hiX6 hown hE.1 hP 2 rfl rfl 6 (by decide) (hts _ (List.mem_cons_of_mem _ wd_355)) (fun _ h9 => h9) rfl dX4_shareOut_62 ?_
          refine lv_iconst (v := (-1)) hx hb dX4_shareOut_65 (by decide) ?_
          refine lv_ixor hx hb dX4_shareOut_66 ?_
          refine lv_topi (fun v8 ev8 => ?_)
          refine lv_iand hx hb dX4_shareOut_67 ?_
          refine lv_topi (fun v9 ev9 => ?_)
          refine lv_istore (lv' := [(5, .int v9), (4, .int (nI i21)), (3, .int h3_21), (0, .ref x1), (1, .int (nI it)), (2, .int am)]) hx hb dX4_shareOut_68 hl (by decide) rfl (fun ls hl => ?_)
          refine lv_aload_n hx hb dX4_shareOut_70 rfl (lv_at hl 3 rfl) ?_
          refine va_get (D := D) (ci := 4) (v := .ref s2) (C := RX4) (T := TX4) (N := 14) hx hb hts hiX4 hown hE.1 hP 0 rfl rfl 2 (by decide) (hts _ (List.mem_cons_of_mem _ wd_48)) (fun _ h9 => h9) rfl dX4_shareOut_71 ?_
          refine k_v (va_runV (As := []) (rest := []) ⟨hx, hb, hml, hown, hts⟩ (m_X2_clear l D cI cJ H.size s2 d0 d1 d2 a_d0_21) (cwV 0 hts gX4_shareOut_X2_clear rfl rfl rfl (by decide +kernel) ⟨Nat.le_of_ble_eq_true rfl, Nat.le_of_ble_eq_true rfl⟩) (k_preV hE hP hD [3, 12] (by decide +kernel) rfl 3 rfl rfl) rfl rfl hl.1 rfl (lv_room (Nat.le_of_ble_eq_true rfl)) dX4_shareOut_74 ⟨Nat.le_of_ble_eq_true rfl, Nat.le_of_ble_eq_true rfl⟩) hP hD hS hA [3, 12] [0, 1, 2, 4, 5, 6, 7, 8, 9, 10, 11, 13, 14, 15, 16] rfl (wr := [(oX4 x1 x0 s1 s2 (nI pn) si4 s5 s6 s7 s8 s9 s10 s11 si12 si13), (oX0 x0 b0 b1 b2 b3 b4 b5 b6 b7 b8 b9 b10 b11 (nI np) (nI nl) bi14), (oX6 s1 w0 w1 w2 w3 w4 (nI wn) wi6 (nI lv) w8), (aIc cI b0 8 B0), (aIc cI b2 8 B2), (aIc cI b3 8 B3), (aIc cI b4 8 B4), (aIc cI b8 64 B8), (aIc cI s6 8 S6), (aIc cI s11 8 (upd a_s11_21 (Int32.toNatClampNeg (nI i21)) h3_21)), (aIc cI w4 8 W4), (aIc cI d1 8 a_d1_21), (aJc cJ d2 8 a_d2_21), (aIc cI s9 8 a_s9_21), (aIc cI s10 8 a_s10_21)]) rfl (by decide +kernel) (by decide +kernel) (fun u H locs hw10 hP hD hS => ?_)
          obtain ⟨z11, rfl⟩ := hw10
          refine k_re (w := [(oX4 x1 x0 s1 s2 (nI pn) si4 s5 s6 s7 s8 s9 s10 s11 si12 si13), (oX0 x0 b0 b1 b2 b3 b4 b5 b6 b7 b8 b9 b10 b11 (nI np) (nI nl) bi14), (oX6 s1 w0 w1 w2 w3 w4 (nI wn) wi6 (nI lv) w8), (aIc cI b0 8 B0), (aIc cI b2 8 B2), (aIc cI b3 8 B3), (aIc cI b4 8 B4), (aIc cI b8 64 B8), (aIc cI s6 8 S6), (aIc cI s11 8 (upd a_s11_21 (Int32.toNatClampNeg (nI i21)) h3_21)), (aIc cI w4 8 W4), (aIc cI d1 8 a_d1_21), (aJc cJ d2 8 a_d2_21), (aIc cI s9 8 a_s9_21), (aIc cI s10 8 a_s10_21), (oX2 s2 d0 d1 d2), (aIc cI d0 8 z11)]) hP hD (fun hP hD => ?_)
          refine lv_iconst (v := 0) hx hb dX4_shareOut_77 (by decide) ?_
          refine lv_istore (lv' := [(6, .int 0), (5, .int v9), (4, .int (nI i21)), (3, .int h3_21), (0, .ref x1), (1, .int (nI it)), (2, .int am)]) hx hb dX4_shareOut_78 hl (by decide) rfl (fun ls hl => ?_)
          have J80 : ∀ (zz : Nat) (j80 : Nat) (a_s9_80 a_d0_80 : Nat → Int32), (j80 ≤ 8) → (8 - j80) < zz → ∀ (H : Heap) (locs : List Loc) (ls : Array Slot), va_P D vwCl [(oX4 x1 x0 s1 s2 (nI pn) si4 s5 s6 s7 s8 s9 s10 s11 si12 si13), (oX0 x0 b0 b1 b2 b3 b4 b5 b6 b7 b8 b9 b10 b11 (nI np) (nI nl) bi14), (oX6 s1 w0 w1 w2 w3 w4 (nI wn) wi6 (nI lv) w8), (aIc cI b0 8 B0), (aIc cI b2 8 B2), (aIc cI b3 8 B3), (aIc cI b4 8 B4), (aIc cI b8 64 B8), (aIc cI s6 8 S6), (aIc cI s11 8 (upd a_s11_21 (Int32.toNatClampNeg (nI i21)) h3_21)), (aIc cI w4 8 W4), (aIc cI d1 8 a_d1_21), (aJc cJ d2 8 a_d2_21), (aIc cI s9 8 a_s9_80), (aIc cI s10 8 a_s10_21), (oX2 s2 d0 d1 d2), (aIc cI d0 8 a_d0_80)] H → va_D A [(oX4 x1 x0 s1 s2 (nI pn) si4 s5 s6 s7 s8 s9 s10 s11 si12 si13), (oX0 x0 b0 b1 b2 b3 b4 b5 b6 b7 b8 b9 b10 b11 (nI np) (nI nl) bi14), (oX6 s1 w0 w1 w2 w3 w4 (nI wn) wi6 (nI lv) w8), (aIc cI b0 8 B0), (aIc cI b2 8 B2), (aIc cI b3 8 B3), (aIc cI b4 8 B4), (aIc cI b8 64 B8), (aIc cI s6 8 S6), (aIc cI s11 8 (upd a_s11_21 (Int32.toNatClampNeg (nI i21)) h3_21)), (aIc cI w4 8 W4), (aIc cI d1 8 a_d1_21), (aJc cJ d2 8 a_d2_21), (aIc cI s9 8 a_s9_80), (aIc cI s10 8 a_s10_21), (oX2 s2 d0 d1 d2), (aIc cI d0 8 a_d0_80)] → va_S A s.heap H locs → lv_has ls 8 [(6, .int (nI j80)), (5, .int v9), (4, .int (nI i21)), (3, .int h3_21), (0, .ref x1), (1, .int (nI it)), (2, .int am)] → W p l e { frames := 3, cells := 0, slots := 0, locals := 75 } s m [.ref x1, .int (nI it), .int am].toArray below meth c H locs 0 0 (MQ below (cQv D (fun u => ∃ (S9p S10p S11p D0p D1p : Nat → Int32) (D2p : Nat → Int64) (si12p : Int32), u = [(oX4 x1 x0 s1 s2 (nI pn) si4 s5 s6 s7 s8 s9 s10 s11 si12p si13), (oX0 x0 b0 b1 b2 b3 b4 b5 b6 b7 b8 b9 b10 b11 (nI np) (nI nl) bi14), (oX6 s1 w0 w1 w2 w3 w4 (nI wn) wi6 (nI lv) w8), (oX2 s2 d0 d1 d2), (aIc cI b0 8 B0), (aIc cI b2 8 B2), (aIc cI b3 8 B3), (aIc cI b4 8 B4), (aIc cI b8 64 B8), (aIc cI s6 8 S6), (aIc cI s9 8 S9p), (aIc cI s10 8 S10p), (aIc cI s11 8 S11p), (aIc cI w4 8 W4), (aIc cI d0 8 D0p), (aIc cI d1 8 D1p), (aJc cJ d2 8 D2p)]) A) [.ref x1, .int (nI it), .int am].toArray s 0 0 A) (F0 m 80 ls []) := by
            intro zz
            induction zz with
            | zero => intro j80 a_s9_80 a_d0_80 _; exact fun h => absurd h (Nat.not_lt_zero _)
            | succ zz ih80 =>
              intro j80 a_s9_80 a_d0_80 hc6_80 hmu80 H locs ls hP hD hS hl
              refine lv_iload hx hb dX4_shareOut_80 (lv_at hl 0 rfl) ?_
              refine lv_bipush (v := 8) hx hb dX4_shareOut_82 (by decide) ?_
              refine lv_icmp_ge (tgt := 135) hx hb dX4_shareOut_84 (by decide) (fun c12 => ?_) (fun c12 => ?_)
              · skip
                have nc12 : 8 ≤ j80 := (nI_leI (a := 8) (b := j80) (by omega) (by omega)).mp c12
                refine lv_iload_n hx hb dX4_shareOut_135 rfl (lv_at hl 3 rfl) ?_
                refine lv_aload_n hx hb dX4_shareOut_136 rfl (lv_at hl 4 rfl) ?_
                refine va_get (D := D) (ci := 4) (v := .ref s2) (C := RX4) (T := TX4) (N := 14) hx hb hts hiX4 hown hE.1 hP 0 rfl rfl 2 (by decide) (hts _ (List.mem_cons_of_mem _ wd_48)) (fun _ h9 => h9) rfl dX4_shareOut_137 ?_
                refine k_iS (va_runV (As := []) (rest := [.int h3_21]) ⟨hx, hb, hml, hown, hts⟩ (m_X2_capsTogether l D cI cJ H.size s2 d0 d1 d2 a_d0_80) (cwV 0 hts gX4_shareOut_X2_capsTogether rfl rfl rfl (by decide +kernel) ⟨Nat.le_of_ble_eq_true rfl, Nat.le_of_ble_eq_true rfl⟩) (k_preV hE hP hD [15, 16] (by decide +kernel) rfl 15 rfl rfl) rfl rfl hl.1 rfl (lv_room (Nat.le_of_ble_eq_true rfl)) dX4_shareOut_140 ⟨Nat.le_of_ble_eq_true rfl, Nat.le_of_ble_eq_true rfl⟩) hP hD hS hA [15, 16] rfl (fun _ _ h9 => h9) (fun r13 H locs hw14 hP hD hS => ?_)
                refine va_mmin hx hb (by rw [hml]; exact hl.1.symm) hown (hts _ (List.mem_cons_of_mem _ wd_326)) (hts _ (List.mem_cons_of_mem _ wd_327)) (hts _ (List.mem_cons_of_mem _ wd_324)) (hts _ (List.mem_cons_of_mem _ wd_328)) (Nat.le_of_ble_eq_true rfl) (Nat.le_of_ble_eq_true rfl) (Nat.le_of_ble_eq_true rfl) (Nat.le_of_ble_eq_true rfl) dX4_shareOut_143 ?_
                refine lv_topi (fun v15 ev15 => ?_)
                refine lv_istore (lv' := [(6, .int v15), (5, .int v9), (4, .int (nI i21)), (3, .int h3_21), (0, .ref x1), (1, .int (nI it)), (2, .int am)]) hx hb dX4_shareOut_146 hl (by decide) rfl (fun ls hl => ?_)
                refine lv_aload_n hx hb dX4_shareOut_148 rfl (lv_at hl 4 rfl) ?_
                refine va_get (D := D) (ci := 4) (v := .ref s2) (C := RX4) (T := TX4) (N := 14) hx hb hts hiX4 hown hE.1 hP 0 rfl rfl 2 (by decide) (hts _ (List.mem_cons_of_mem _ wd_48)) (fun _ h9 => h9) rfl dX4_shareOut_149 ?_
                refine lv_aload_n hx hb dX4_shareOut_152 rfl (lv_at hl 4 rfl) ?_
                refine va_get (D := D) (ci := 4) (v := .int si4) (C := RX4) (T := TX4) (N := 14) hx hb hts hiX4 hown hE.1 hP 0 rfl rfl 4 (by decide) (hts _ (List.mem_cons_of_mem _ wd_285)) (fun _ h9 => h9) rfl dX4_shareOut_153 ?_
                refine lv_iload hx hb dX4_shareOut_156 (lv_at hl 0 rfl) ?_
                refine k_v (va_runV (As := [.int si4, .int v15]) (rest := []) ⟨hx, hb, hml, hown, hts⟩ (m_X2_divide l D cI cJ H.size s2 d0 d1 d2 si4 v15 a_d0_80 a_d1_21 a_d2_21) (cwV 2 hts gX4_shareOut_X2_divide rfl rfl rfl (by decide +kernel) ⟨Nat.le_of_ble_eq_true rfl, Nat.le_of_ble_eq_true rfl⟩) (k_preV hE hP hD [15, 16, 11, 12] (by decide +kernel) rfl 15 rfl rfl) rfl rfl hl.1 rfl (lv_room (Nat.le_of_ble_eq_true rfl)) dX4_shareOut_158 ⟨Nat.le_of_ble_eq_true rfl, Nat.le_of_ble_eq_true rfl⟩) hP hD hS hA [15, 16, 11, 12] [0, 1, 2, 3, 4, 5, 6, 7, 8, 9, 10, 13, 14] rfl (wr := [(oX4 x1 x0 s1 s2 (nI pn) si4 s5 s6 s7 s8 s9 s10 s11 si12 si13), (oX0 x0 b0 b1 b2 b3 b4 b5 b6 b7 b8 b9 b10 b11 (nI np) (nI nl) bi14), (oX6 s1 w0 w1 w2 w3 w4 (nI wn) wi6 (nI lv) w8), (aIc cI b0 8 B0), (aIc cI b2 8 B2), (aIc cI b3 8 B3), (aIc cI b4 8 B4), (aIc cI b8 64 B8), (aIc cI s6 8 S6), (aIc cI s11 8 (upd a_s11_21 (Int32.toNatClampNeg (nI i21)) h3_21)), (aIc cI w4 8 W4), (aIc cI s9 8 a_s9_80), (aIc cI s10 8 a_s10_21)]) rfl (by decide +kernel) (by decide +kernel) (fun u H locs hw16 hP hD hS => ?_)
                obtain ⟨z17, z18, rfl⟩ := hw16
                refine k_re (w := [(oX4 x1 x0 s1 s2 (nI pn) si4 s5 s6 s7 s8 s9 s10 s11 si12 si13), (oX0 x0 b0 b1 b2 b3 b4 b5 b6 b7 b8 b9 b10 b11 (nI np) (nI nl) bi14), (oX6 s1 w0 w1 w2 w3 w4 (nI wn) wi6 (nI lv) w8), (aIc cI b0 8 B0), (aIc cI b2 8 B2), (aIc cI b3 8 B3), (aIc cI b4 8 B4), (aIc cI b8 64 B8), (aIc cI s6 8 S6), (aIc cI s11 8 (upd a_s11_21 (Int32.toNatClampNeg (nI i21)) h3_21)), (aIc cI w4 8 W4), (aIc cI s9 8 a_s9_80), (aIc cI s10 8 a_s10_21), (oX2 s2 d0 d1 d2), (aIc cI d0 8 a_d0_80), (aIc cI d1 8 z17), (aJc cJ d2 8 z18)]) hP hD (fun hP hD => ?_)
                refine lv_iconst (v := 0) hx hb dX4_shareOut_161 (by decide) ?_
                refine lv_istore (lv' := [(7, .int 0), (6, .int v15), (5, .int v9), (4, .int (nI i21)), (3, .int h3_21), (0, .ref x1), (1, .int (nI it)), (2, .int am)]) hx hb dX4_shareOut_162 hl (by decide) rfl (fun ls hl => ?_)
                have J164 : ∀ (zz : Nat) (j164 : Nat) (a_s10_164 : Nat → Int32), (j164 ≤ 8) → (8 - j164) < zz → ∀ (H : Heap) (locs : List Loc) (ls : Array Slot), va_P D vwCl [(oX4 x1 x0 s1 s2 (nI pn) si4 s5 s6 s7 s8 s9 s10 s11 si12 si13), (oX0 x0 b0 b1 b2 b3 b4 b5 b6 b7 b8 b9 b10 b11 (nI np) (nI nl) bi14), (oX6 s1 w0 w1 w2 w3 w4 (nI wn) wi6 (nI lv) w8), (aIc cI b0 8 B0), (aIc cI b2 8 B2), (aIc cI b3 8 B3), (aIc cI b4 8 B4), (aIc cI b8 64 B8), (aIc cI s6 8 S6), (aIc cI s11 8 (upd a_s11_21 (Int32.toNatClampNeg (nI i21)) h3_21)), (aIc cI w4 8 W4), (aIc cI s9 8 a_s9_80), (aIc cI s10 8 a_s10_164), (oX2 s2 d0 d1 d2), (aIc cI d0 8 a_d0_80), (aIc cI d1 8 z17), (aJc cJ d2 8 z18)] H → va_D A [(oX4 x1 x0 s1 s2 (nI pn) si4 s5 s6 s7 s8 s9 s10 s11 si12 si13), (oX0 x0 b0 b1 b2 b3 b4 b5 b6 b7 b8 b9 b10 b11 (nI np) (nI nl) bi14), (oX6 s1 w0 w1 w2 w3 w4 (nI wn) wi6 (nI lv) w8), (aIc cI b0 8 B0), (aIc cI b2 8 B2), (aIc cI b3 8 B3), (aIc cI b4 8 B4), (aIc cI b8 64 B8), (aIc cI s6 8 S6), (aIc cI s11 8 (upd a_s11_21 (Int32.toNatClampNeg (nI i21)) h3_21)), (aIc cI w4 8 W4), (aIc cI s9 8 a_s9_80), (aIc cI s10 8 a_s10_164), (oX2 s2 d0 d1 d2), (aIc cI d0 8 a_d0_80), (aIc cI d1 8 z17), (aJc cJ d2 8 z18)] → va_S A s.heap H locs → lv_has ls 8 [(7, .int (nI j164)), (6, .int v15), (5, .int v9), (4, .int (nI i21)), (3, .int h3_21), (0, .ref x1), (1, .int (nI it)), (2, .int am)] → W p l e { frames := 3, cells := 0, slots := 0, locals := 75 } s m [.ref x1, .int (nI it), .int am].toArray below meth c H locs 0 0 (MQ below (cQv D (fun u => ∃ (S9p S10p S11p D0p D1p : Nat → Int32) (D2p : Nat → Int64) (si12p : Int32), u = [(oX4 x1 x0 s1 s2 (nI pn) si4 s5 s6 s7 s8 s9 s10 s11 si12p si13), (oX0 x0 b0 b1 b2 b3 b4 b5 b6 b7 b8 b9 b10 b11 (nI np) (nI nl) bi14), (oX6 s1 w0 w1 w2 w3 w4 (nI wn) wi6 (nI lv) w8), (oX2 s2 d0 d1 d2), (aIc cI b0 8 B0), (aIc cI b2 8 B2), (aIc cI b3 8 B3), (aIc cI b4 8 B4), (aIc cI b8 64 B8), (aIc cI s6 8 S6), (aIc cI s9 8 S9p), (aIc cI s10 8 S10p), (aIc cI s11 8 S11p), (aIc cI w4 8 W4), (aIc cI d0 8 D0p), (aIc cI d1 8 D1p), (aJc cJ d2 8 D2p)]) A) [.ref x1, .int (nI it), .int am].toArray s 0 0 A) (F0 m 164 ls []) := by
                  intro zz
                  induction zz with
                  | zero => intro j164 a_s10_164 _; exact fun h => absurd h (Nat.not_lt_zero _)
                  | succ zz ih164 =>
                    intro j164 a_s10_164 hc7_164 hmu164 H locs ls hP hD hS hl
                    refine lv_iload hx hb dX4_shareOut_164 (lv_at hl 0 rfl) ?_
                    refine lv_bipush (v := 8) hx hb dX4_shareOut_166 (by decide) ?_
                    refine lv_icmp_ge (tgt := 197) hx hb dX4_shareOut_168 (by decide) (fun c19 => ?_) (fun c19 => ?_)
                    · skip
                      have nc19 : 8 ≤ j164 := (nI_leI (a := 8) (b := j164) (by omega) (by omega)).mp c19
                      refine lv_iload_n hx hb dX4_shareOut_197 rfl (lv_at hl 4 rfl) ?_
                      refine lv_iload hx hb dX4_shareOut_198 (lv_at hl 1 rfl) ?_
                      refine lv_isub hx hb dX4_shareOut_200 ?_
                      refine lv_topi (fun v20 ev20 => ?_)
                      refine lv_istore_n (lv' := [(3, .int v20), (7, .int (nI j164)), (6, .int v15), (5, .int v9), (4, .int (nI i21)), (0, .ref x1), (1, .int (nI it)), (2, .int am)]) hx hb dX4_shareOut_201 rfl hl (by decide) rfl (fun ls hl => ?_)
                      refine lv_iinc (v := (nI (i21 + 1))) (lv' := [(4, .int (nI (i21 + 1))), (3, .int v20), (7, .int (nI j164)), (6, .int v15), (5, .int v9), (0, .ref x1), (1, .int (nI it)), (2, .int am)]) hx hb dX4_shareOut_202 hl (k := 4) rfl (nI_1 _) (by decide) rfl (fun ls hl => ?_)
                      refine lv_goto (tgt := 21) hx hb dX4_shareOut_205 (by decide) ?_
                      exact ih21 (i21 + 1) v20 a_s9_80 a_s10_164 (upd a_s11_21 (Int32.toNatClampNeg (nI i21)) h3_21) a_d0_80 z17 z18 (by omega) (by omega) _ _ _ (k_sub hP [0, 1, 2, 13, 3, 4, 5, 6, 7, 8, 9, 10, 14, 15, 16, 11, 12] rfl) (hD.sub [0, 1, 2, 13, 3, 4, 5, 6, 7, 8, 9, 10, 14, 15, 16, 11, 12] (by decide +kernel) rfl) hS (lv_sub hl [0, 1, 5, 6, 7] rfl)
                    · skip
                      have nc19 : ¬ 8 ≤ j164 := fun q9 => c19 ((nI_leI (a := 8) (b := j164) (by omega) (by omega)).mpr q9)
                      refine lv_aload_n hx hb dX4_shareOut_171 rfl (lv_at hl 5 rfl) ?_
                      refine va_get (D := D) (ci := 4) (v := .ref s10) (C := RX4) (T := TX4) (N := 14) hx hb hts hiX4 hown hE.1 hP 0 rfl rfl 10 (by decide) (hts _ (List.mem_cons_of_mem _ wd_54)) (fun _ h9 => h9) rfl dX4_shareOut_172 ?_
                      refine lv_iload hx hb dX4_shareOut_175 (lv_at hl 0 rfl) ?_
                      refine lv_dup2_11 hx hb dX4_shareOut_177 rfl rfl ?_
                      refine va_iald hx hb hE.1 hP 12 0 rfl rfl (vp_in_nI (n := j164) (by omega) (by decide)) dX4_shareOut_178 ?_
                      refine lv_topi (fun v21 ev21 => ?_)
                      refine lv_aload_n hx hb dX4_shareOut_179 rfl (lv_at hl 5 rfl) ?_
                      refine va_get (D := D) (ci := 4) (v := .ref s2) (C := RX4) (T := TX4) (N := 14) hx hb hts hiX4 hown hE.1 hP 0 rfl rfl 2 (by decide) (hts _ (List.mem_cons_of_mem _ wd_48)) (fun _ h9 => h9) rfl dX4_shareOut_180 ?_
                      refine va_get (D := D) (ci := 2) (v := .ref d1) (C := RX2) (T := TX2) (N := 3) hx hb hts hiX2 hown hE.1 hP 13 rfl rfl 1 (by decide) (hts _ (List.mem_cons_of_mem _ wd_357)) (fun _ h9 => h9) rfl dX4_shareOut_183 ?_
                      refine lv_iload hx hb dX4_shareOut_186 (lv_at hl 0 rfl) ?_
                      refine va_iald hx hb hE.1 hP 15 0 rfl rfl (vp_in_nI (n := j164) (by omega) (by decide)) dX4_shareOut_188 ?_
                      refine lv_topi (fun v22 ev22 => ?_)
                      refine lv_iadd hx hb dX4_shareOut_189 ?_
                      refine lv_topi (fun v23 ev23 => ?_)
                      refine va_iast hx hb hE.1 hP hD hS 12 0 rfl rfl (vp_in_nI (n := j164) (by omega) (by decide)) dX4_shareOut_190 (fun H locs hP hD hS => ?_)
                      refine k_re (w := [(oX4 x1 x0 s1 s2 (nI pn) si4 s5 s6 s7 s8 s9 s10 s11 si12 si13), (oX0 x0 b0 b1 b2 b3 b4 b5 b6 b7 b8 b9 b10 b11 (nI np) (nI nl) bi14), (oX6 s1 w0 w1 w2 w3 w4 (nI wn) wi6 (nI lv) w8), (aIc cI b0 8 B0), (aIc cI b2 8 B2), (aIc cI b3 8 B3), (aIc cI b4 8 B4), (aIc cI b8 64 B8), (aIc cI s6 8 S6), (aIc cI s11 8 (upd a_s11_21 (Int32.toNatClampNeg (nI i21)) h3_21)), (aIc cI w4 8 W4), (aIc cI s9 8 a_s9_80), (aIc cI s10 8 (upd a_s10_164 (Int32.toNatClampNeg (nI j164)) v23)), (oX2 s2 d0 d1 d2), (aIc cI d0 8 a_d0_80), (aIc cI d1 8 z17), (aJc cJ d2 8 z18)]) hP hD (fun hP hD => ?_)
                      refine lv_iinc (v := (nI (j164 + 1))) (lv' := [(7, .int (nI (j164 + 1))), (6, .int v15), (5, .int v9), (4, .int (nI i21)), (3, .int h3_21), (0, .ref x1), (1, .int (nI it)), (2, .int am)]) hx hb dX4_shareOut_191 hl (k := 0) rfl (nI_1 _) (by decide) rfl (fun ls hl => ?_)
                      refine lv_goto (tgt := 164) hx hb dX4_shareOut_194 (by decide) ?_
                      exact ih164 (j164 + 1) (upd a_s10_164 (Int32.toNatClampNeg (nI j164)) v23) (by omega) (by omega) _ _ _ hP hD hS (lv_sub hl [0, 1, 2, 3, 4, 5, 6, 7] rfl)
                exact J164 _ 0 a_s10_21 (by omega) (Nat.lt_succ_self _) _ _ _ hP hD hS (lv_sub hl [0, 1, 2, 3, 4, 5, 6, 7] rfl)
              · skip
                have nc12 : ¬ 8 ≤ j80 := fun q9 => c12 ((nI_leI (a := 8) (b := j80) (by omega) (by omega)).mpr q9)
                refine lv_iload hx hb dX4_shareOut_87 (lv_at hl 1 rfl) ?_
                refine lv_iload hx hb dX4_shareOut_89 (lv_at hl 0 rfl) ?_
                refine k_iS (va_runSN (As := [.int v9, .int (nI j80)]) (rest := []) ⟨hx, hb, hml, hown, hts⟩ (m_X7_has l D cI cJ H.size v9 (nI j80)) ⟨va_cnB 2 hts gX4_shareOut_X7_has_n113 rfl rfl rfl (nwk5 hE.2) (hts _ (List.mem_cons_of_mem _ wd_2)) (by decide +kernel) ⟨Nat.le_of_ble_eq_true rfl, Nat.le_of_ble_eq_true rfl⟩, (hts _ (List.mem_cons_of_mem _ wd_311)), trivial⟩ (k_pre hE hP hD [] (by decide +kernel) rfl) rfl rfl hl.1 rfl (lv_room (Nat.le_of_ble_eq_true rfl)) dX4_shareOut_91 ⟨Nat.le_of_ble_eq_true rfl, Nat.le_of_ble_eq_true rfl⟩) hP hD hS hA [] rfl (fun _ _ h9 => h9.2) (fun r24 H locs hw25 hP hD hS => ?_)
                obtain ⟨hw25, -⟩ := hw25
                refine lv_if_eq (tgt := 129) hx hb dX4_shareOut_94 (by decide) (fun c26 => ?_) (fun c26 => ?_)
                · skip
                  have hc26 : ¬ (¬ (v9 >>> ((nI j80) &&& 31)) &&& 1 = 0) := bz_0 hw25 c26
                  refine lv_iinc (v := (nI (j80 + 1))) (lv' := [(6, .int (nI (j80 + 1))), (5, .int v9), (4, .int (nI i21)), (3, .int h3_21), (0, .ref x1), (1, .int (nI it)), (2, .int am)]) hx hb dX4_shareOut_129 hl (k := 0) rfl (nI_1 _) (by decide) rfl (fun ls hl => ?_)
                  refine lv_goto (tgt := 80) hx hb dX4_shareOut_132 (by decide) ?_
                  exact ih80 (j80 + 1) a_s9_80 a_d0_80 (by omega) (by omega) _ _ _ hP hD hS (lv_sub hl [0, 1, 2, 3, 4, 5, 6] rfl)
                · skip
                  have hc26 : ¬ (v9 >>> ((nI j80) &&& 31)) &&& 1 = 0 := bz_1 hw25 c26
                  refine lv_aload_n hx hb dX4_shareOut_97 rfl (lv_at hl 4 rfl) ?_
                  refine va_get (D := D) (ci := 4) (v := .ref s9) (C := RX4) (T := TX4) (N := 14) hx hb hts hiX4 hown hE.1 hP 0 rfl rfl 9 (by decide) (hts _ (List.mem_cons_of_mem _ wd_53)) (fun _ h9 => h9) rfl dX4_shareOut_98 ?_
                  refine lv_iload hx hb dX4_shareOut_101 (lv_at hl 0 rfl) ?_
                  refine lv_aload_n hx hb dX4_shareOut_103 rfl (lv_at hl 4 rfl) ?_
                  refine lv_iload hx hb dX4_shareOut_104 (lv_at hl 0 rfl) ?_
                  refine lv_iload_n hx hb dX4_shareOut_106 rfl (lv_at hl 5 rfl) ?_
                  refine lv_iload_n hx hb dX4_shareOut_107 rfl (lv_at hl 3 rfl) ?_
                  refine k_iS (va_runV (As := [.int (nI j80), .int (nI it), .int h3_21]) (rest := [.int (nI j80), .ref s9]) ⟨hx, hb, hml, hown, hts⟩ (m_X4_owed l D cI cJ H.size x1 x0 s1 s2 s5 s6 s7 s8 s9 s10 s11 b0 b1 b2 b3 b4 b5 b6 b7 b8 b9 b10 b11 j80 it np nl pn si4 si12 si13 bi14 h3_21 B0 B2 B3 B4 B8 S6 (by omega) (by omega)) (cwV 3 hts gX4_shareOut_X4_owed rfl rfl rfl (by decide +kernel) ⟨Nat.le_of_ble_eq_true rfl, Nat.le_of_ble_eq_true rfl⟩) (k_preV hE hP hD [0, 1, 3, 4, 5, 6, 7, 8] (by decide +kernel) rfl 0 rfl rfl) rfl rfl hl.1 rfl (lv_room (Nat.le_of_ble_eq_true rfl)) dX4_shareOut_108 ⟨Nat.le_of_ble_eq_true rfl, Nat.le_of_ble_eq_true rfl⟩) hP hD hS hA [0, 1, 3, 4, 5, 6, 7, 8] rfl (fun _ _ h9 => h9) (fun r27 H locs hw28 hP hD hS => ?_)
                  refine va_iast hx hb hE.1 hP hD hS 13 0 rfl rfl (vp_in_nI (n := j80) (by omega) (by decide)) dX4_shareOut_111 (fun H locs hP hD hS => ?_)
                  refine k_re (w := [(oX4 x1 x0 s1 s2 (nI pn) si4 s5 s6 s7 s8 s9 s10 s11 si12 si13), (oX0 x0 b0 b1 b2 b3 b4 b5 b6 b7 b8 b9 b10 b11 (nI np) (nI nl) bi14), (oX6 s1 w0 w1 w2 w3 w4 (nI wn) wi6 (nI lv) w8), (aIc cI b0 8 B0), (aIc cI b2 8 B2), (aIc cI b3 8 B3), (aIc cI b4 8 B4), (aIc cI b8 64 B8), (aIc cI s6 8 S6), (aIc cI s11 8 (upd a_s11_21 (Int32.toNatClampNeg (nI i21)) h3_21)), (aIc cI w4 8 W4), (aIc cI d1 8 a_d1_21), (aJc cJ d2 8 a_d2_21), (aIc cI s9 8 (upd a_s9_80 (Int32.toNatClampNeg (nI j80)) r27)), (aIc cI s10 8 a_s10_21), (oX2 s2 d0 d1 d2), (aIc cI d0 8 a_d0_80)]) hP hD (fun hP hD => ?_)
                  refine lv_aload_n hx hb dX4_shareOut_112 rfl (lv_at hl 4 rfl) ?_
                  refine va_get (D := D) (ci := 4) (v := .ref s2) (C := RX4) (T := TX4) (N := 14) hx hb hts hiX4 hown hE.1 hP 0 rfl rfl 2 (by decide) (hts _ (List.mem_cons_of_mem _ wd_48)) (fun _ h9 => h9) rfl dX4_shareOut_113 ?_
                  refine va_get (D := D) (ci := 2) (v := .ref d0) (C := RX2) (T := TX2) (N := 3) hx hb hts hiX2 hown hE.1 hP 15 rfl rfl 0 (by decide) (hts _ (List.mem_cons_of_mem _ wd_356)) (fun _ h9 => h9) rfl dX4_shareOut_116 ?_
                  refine lv_iload hx hb dX4_shareOut_119 (lv_at hl 0 rfl) ?_
                  refine lv_aload_n hx hb dX4_shareOut_121 rfl (lv_at hl 4 rfl) ?_
                  refine va_get (D := D) (ci := 4) (v := .ref s9) (C := RX4) (T := TX4) (N := 14) hx hb hts hiX4 hown hE.1 hP 0 rfl rfl 9 (by decide) (hts _ (List.mem_cons_of_mem _ wd_53)) (fun _ h9 => h9) rfl dX4_shareOut_122 ?_
                  refine lv_iload hx hb dX4_shareOut_125 (lv_at hl 0 rfl) ?_
                  refine va_iald hx hb hE.1 hP 13 0 rfl rfl (vp_in_nI (n := j80) (by omega) (by decide)) dX4_shareOut_127 ?_
                  refine lv_topi (fun v29 ev29 => ?_)
                  refine va_iast hx hb hE.1 hP hD hS 16 0 rfl rfl (vp_in_nI (n := j80) (by omega) (by decide)) dX4_shareOut_128 (fun H locs hP hD hS => ?_)
                  refine k_re (w := [(oX4 x1 x0 s1 s2 (nI pn) si4 s5 s6 s7 s8 s9 s10 s11 si12 si13), (oX0 x0 b0 b1 b2 b3 b4 b5 b6 b7 b8 b9 b10 b11 (nI np) (nI nl) bi14), (oX6 s1 w0 w1 w2 w3 w4 (nI wn) wi6 (nI lv) w8), (aIc cI b0 8 B0), (aIc cI b2 8 B2), (aIc cI b3 8 B3), (aIc cI b4 8 B4), (aIc cI b8 64 B8), (aIc cI s6 8 S6), (aIc cI s11 8 (upd a_s11_21 (Int32.toNatClampNeg (nI i21)) h3_21)), (aIc cI w4 8 W4), (aIc cI d1 8 a_d1_21), (aJc cJ d2 8 a_d2_21), (aIc cI s9 8 (upd a_s9_80 (Int32.toNatClampNeg (nI j80)) r27)), (aIc cI s10 8 a_s10_21), (oX2 s2 d0 d1 d2), (aIc cI d0 8 (upd a_d0_80 (Int32.toNatClampNeg (nI j80)) v29))]) hP hD (fun hP hD => ?_)
                  refine lv_iinc (v := (nI (j80 + 1))) (lv' := [(6, .int (nI (j80 + 1))), (5, .int v9), (4, .int (nI i21)), (3, .int h3_21), (0, .ref x1), (1, .int (nI it)), (2, .int am)]) hx hb dX4_shareOut_129 hl (k := 0) rfl (nI_1 _) (by decide) rfl (fun ls hl => ?_)
                  refine lv_goto (tgt := 80) hx hb dX4_shareOut_132 (by decide) ?_
                  exact ih80 (j80 + 1) (upd a_s9_80 (Int32.toNatClampNeg (nI j80)) r27) (upd a_d0_80 (Int32.toNatClampNeg (nI j80)) v29) (by omega) (by omega) _ _ _ hP hD hS (lv_sub hl [0, 1, 2, 3, 4, 5, 6] rfl)
          exact J80 _ 0 a_s9_21 z11 (by omega) (Nat.lt_succ_self _) _ _ _ hP hD hS (lv_sub hl [0, 1, 2, 3, 4, 5, 6] rfl)
  exact J21 _ 0 am (fl 8 0 S9) (fl 8 0 S10) S11 D0 D1 D2 (by omega) (Nat.lt_succ_self _) _ _ _ hP hD hS (lv_sub hl [0, 1, 2, 3, 4] rfl)
theorem dX4_useUp_0 : decode cX4_useUp 0 = .ok (.aload_n 0, 1) := by decide +kernel
theorem dX4_useUp_1 : decode cX4_useUp 1 = .ok (.dup, 1) := by decide +kernel
theorem dX4_useUp_2 : decode cX4_useUp 2 = .ok (.getfield 85, 3) := by decide +kernel
theorem dX4_useUp_5 : decode cX4_useUp 5 = .ok (.aload_n 0, 1) := by decide +kernel
theorem dX4_useUp_6 : decode cX4_useUp 6 = .ok (.getfield 166, 3) := by decide +kernel
theorem dX4_useUp_9 : decode cX4_useUp 9 = .ok (.iadd, 1) := by decide +kernel
theorem dX4_useUp_10 : decode cX4_useUp 10 = .ok (.putfield 85, 3) := by decide +kernel
theorem dX4_useUp_13 : decode cX4_useUp 13 = .ok (.iconst 0, 1) := by decide +kernel
theorem dX4_useUp_14 : decode cX4_useUp 14 = .ok (.istore_n 2, 1) := by decide +kernel
theorem dX4_useUp_15 : decode cX4_useUp 15 = .ok (.iload_n 2, 1) := by decide +kernel
theorem dX4_useUp_16 : decode cX4_useUp 16 = .ok (.bipush 8, 2) := by decide +kernel
theorem dX4_useUp_18 : decode cX4_useUp 18 = .ok (.if_icmp .ge 50, 3) := by decide +kernel
theorem dX4_useUp_21 : decode cX4_useUp 21 = .ok (.aload_n 0, 1) := by decide +kernel
theorem dX4_useUp_22 : decode cX4_useUp 22 = .ok (.getfield 32, 3) := by decide +kernel
theorem dX4_useUp_25 : decode cX4_useUp 25 = .ok (.iload_n 2, 1) := by decide +kernel
theorem dX4_useUp_26 : decode cX4_useUp 26 = .ok (.dup2, 1) := by decide +kernel
theorem dX4_useUp_27 : decode cX4_useUp 27 = .ok (.iaload, 1) := by decide +kernel
theorem dX4_useUp_28 : decode cX4_useUp 28 = .ok (.aload_n 0, 1) := by decide +kernel
theorem dX4_useUp_29 : decode cX4_useUp 29 = .ok (.getfield 48, 3) := by decide +kernel
theorem dX4_useUp_32 : decode cX4_useUp 32 = .ok (.iload_n 2, 1) := by decide +kernel
theorem dX4_useUp_33 : decode cX4_useUp 33 = .ok (.iaload, 1) := by decide +kernel
theorem dX4_useUp_34 : decode cX4_useUp 34 = .ok (.isub, 1) := by decide +kernel
theorem dX4_useUp_35 : decode cX4_useUp 35 = .ok (.iastore, 1) := by decide +kernel
theorem dX4_useUp_36 : decode cX4_useUp 36 = .ok (.aload_n 0, 1) := by decide +kernel
theorem dX4_useUp_37 : decode cX4_useUp 37 = .ok (.getfield 32, 3) := by decide +kernel
theorem dX4_useUp_40 : decode cX4_useUp 40 = .ok (.iload_n 2, 1) := by decide +kernel
theorem dX4_useUp_41 : decode cX4_useUp 41 = .ok (.iaload, 1) := by decide +kernel
theorem dX4_useUp_42 : decode cX4_useUp 42 = .ok (.ifCond .ne 20, 3) := by decide +kernel
theorem dX4_useUp_45 : decode cX4_useUp 45 = .ok (.aload_n 0, 1) := by decide +kernel
theorem dX4_useUp_46 : decode cX4_useUp 46 = .ok (.getfield 39, 3) := by decide +kernel
theorem dX4_useUp_49 : decode cX4_useUp 49 = .ok (.iload_n 2, 1) := by decide +kernel
theorem dX4_useUp_50 : decode cX4_useUp 50 = .ok (.iaload, 1) := by decide +kernel
theorem dX4_useUp_51 : decode cX4_useUp 51 = .ok (.iconst (-1), 1) := by decide +kernel
theorem dX4_useUp_52 : decode cX4_useUp 52 = .ok (.if_icmp .ne 10, 3) := by decide +kernel
theorem dX4_useUp_55 : decode cX4_useUp 55 = .ok (.aload_n 0, 1) := by decide +kernel
theorem dX4_useUp_56 : decode cX4_useUp 56 = .ok (.getfield 39, 3) := by decide +kernel
theorem dX4_useUp_59 : decode cX4_useUp 59 = .ok (.iload_n 2, 1) := by decide +kernel
theorem dX4_useUp_60 : decode cX4_useUp 60 = .ok (.iload_n 1, 1) := by decide +kernel
theorem dX4_useUp_61 : decode cX4_useUp 61 = .ok (.iastore, 1) := by decide +kernel
theorem dX4_useUp_62 : decode cX4_useUp 62 = .ok (.iinc 2 1, 3) := by decide +kernel
theorem dX4_useUp_65 : decode cX4_useUp 65 = .ok (.goto (-50), 3) := by decide +kernel
theorem dX4_useUp_68 : decode cX4_useUp 68 = .ok (.return_, 1) := by decide +kernel
set_option maxHeartbeats 4000000 in
set_option maxRecDepth 100000 in
theorem m_X4_useUp (l : Launch) (D : va_G) (cI cJ : ClassId) (sz : Nat) (x1 x0 s1 s2 s5 s6 s7 s8 s9 s10 s11 pn : Nat) (si4 si12 si13 l0 : Int32) (S5 S7 S10 : Nat → Int32) : Met l yX4_useUp wtX4_useUp { frames := 0, cells := 0, slots := 0, locals := 0 } (cPc D cI cJ [.ref x1, .int l0] sz [(oX4 x1 x0 s1 s2 (nI pn) si4 s5 s6 s7 s8 s9 s10 s11 si12 si13), (aIc cI s5 8 S5), (aIc cI s7 8 S7), (aIc cI s10 8 S10)]) (cQv D (fun u => ∃ (S5p S7p : Nat → Int32) (si13p : Int32), u = [(oX4 x1 x0 s1 s2 (nI pn) si4 s5 s6 s7 s8 s9 s10 s11 si12 si13p), (aIc cI s5 8 S5p), (aIc cI s7 8 S7p), (aIc cI s10 8 S10)]) (va_A [(oX4 x1 x0 s1 s2 (nI pn) si4 s5 s6 s7 s8 s9 s10 s11 si12 si13), (aIc cI s5 8 S5), (aIc cI s7 8 S7), (aIc cI s10 8 S10)] sz)) 0 0 (va_A [(oX4 x1 x0 s1 s2 (nI pn) si4 s5 s6 s7 s8 s9 s10 s11 si12 si13), (aIc cI s5 8 S5), (aIc cI s7 8 S7), (aIc cI s10 8 S10)] sz) := by
  refine k_ofW (Qc := cQv D (fun u => ∃ (S5p S7p : Nat → Int32) (si13p : Int32), u = [(oX4 x1 x0 s1 s2 (nI pn) si4 s5 s6 s7 s8 s9 s10 s11 si12 si13p), (aIc cI s5 8 S5p), (aIc cI s7 8 S7p), (aIc cI s10 8 S10)])) (by decide) rfl (Nat.le_of_ble_eq_true rfl) ?_
  intro p e s m below meth c A ls hx hb hr hml hts hown hlk hnm hsz hE hP hD hS hA hl
  have hown : s.vm.findClass RX4 = some m.cls := hown
  have hiX4 : ∀ w ∈ u_ws RX4 TX4 14, w ∈ wtX4_useUp := fun w h => List.mem_cons_of_mem _ (iuX4 w h)
  have hl : lv_has ls 3 [(0, .ref x1), (1, .int l0)] := hl
  refine lv_aload_n hx hb dX4_useUp_0 rfl (lv_at hl 0 rfl) ?_
  refine lv_dup hx hb dX4_useUp_1 rfl ?_
  refine va_get (D := D) (ci := 4) (v := .int si13) (C := RX4) (T := TX4) (N := 14) hx hb hts hiX4 hown hE.1 hP 0 rfl rfl 13 (by decide) (hts _ (List.mem_cons_of_mem _ wd_302)) (fun _ h9 => h9) rfl dX4_useUp_2 ?_
  refine lv_aload_n hx hb dX4_useUp_5 rfl (lv_at hl 0 rfl) ?_
  refine va_get (D := D) (ci := 4) (v := .int si12) (C := RX4) (T := TX4) (N := 14) hx hb hts hiX4 hown hE.1 hP 0 rfl rfl 12 (by decide) (hts _ (List.mem_cons_of_mem _ wd_358)) (fun _ h9 => h9) rfl dX4_useUp_6 ?_
  refine lv_iadd hx hb dX4_useUp_9 ?_
  refine lv_topi (fun v1 ev1 => ?_)
  refine va_put (D := D) (ci := 4) (v := .int v1) (ty := .int) (C := RX4) (T := TX4) (N := 14) hx hb hts hiX4 tyX4 tyX4_ok nmX4 hown hE.1 hP hD hS 0 rfl rfl 13 (by decide) (hts _ (List.mem_cons_of_mem _ wd_302)) (fun _ h9 => h9) rfl (by decide +kernel) rfl rfl (Nat.le_of_ble_eq_true rfl) dX4_useUp_10 (fun H locs hP hD hS => ?_)
  refine k_re (w := [(oX4 x1 x0 s1 s2 (nI pn) si4 s5 s6 s7 s8 s9 s10 s11 si12 v1), (aIc cI s5 8 S5), (aIc cI s7 8 S7), (aIc cI s10 8 S10)]) hP hD (fun hP hD => ?_)
  refine lv_iconst (v := 0) hx hb dX4_useUp_13 (by decide) ?_
  refine lv_istore_n (lv' := [(2, .int 0), (0, .ref x1), (1, .int l0)]) hx hb dX4_useUp_14 rfl hl (by decide) rfl (fun ls hl => ?_)
  have J15 : ∀ (zz : Nat) (i15 : Nat) (a_s5_15 a_s7_15 : Nat → Int32), (i15 ≤ 8) → (8 - i15) < zz → ∀ (H : Heap) (locs : List Loc) (ls : Array Slot), va_P D vwCl [(oX4 x1 x0 s1 s2 (nI pn) si4 s5 s6 s7 s8 s9 s10 s11 si12 v1), (aIc cI s5 8 a_s5_15), (aIc cI s7 8 a_s7_15), (aIc cI s10 8 S10)] H → va_D A [(oX4 x1 x0 s1 s2 (nI pn) si4 s5 s6 s7 s8 s9 s10 s11 si12 v1), (aIc cI s5 8 a_s5_15), (aIc cI s7 8 a_s7_15), (aIc cI s10 8 S10)] → va_S A s.heap H locs → lv_has ls 3 [(2, .int (nI i15)), (0, .ref x1), (1, .int l0)] → W p l e { frames := 0, cells := 0, slots := 0, locals := 0 } s m [.ref x1, .int l0].toArray below meth c H locs 0 0 (MQ below (cQv D (fun u => ∃ (S5p S7p : Nat → Int32) (si13p : Int32), u = [(oX4 x1 x0 s1 s2 (nI pn) si4 s5 s6 s7 s8 s9 s10 s11 si12 si13p), (aIc cI s5 8 S5p), (aIc cI s7 8 S7p), (aIc cI s10 8 S10)]) A) [.ref x1, .int l0].toArray s 0 0 A) (F0 m 15 ls []) := by
    intro zz
    induction zz with
    | zero => intro i15 a_s5_15 a_s7_15 _; exact fun h => absurd h (Nat.not_lt_zero _)
    | succ zz ih15 =>
      intro i15 a_s5_15 a_s7_15 hc2_15 hmu15 H locs ls hP hD hS hl
      refine lv_iload_n hx hb dX4_useUp_15 rfl (lv_at hl 0 rfl) ?_
      refine lv_bipush (v := 8) hx hb dX4_useUp_16 (by decide) ?_
      refine lv_icmp_ge (tgt := 68) hx hb dX4_useUp_18 (by decide) (fun c2 => ?_) (fun c2 => ?_)
      · skip
        have nc2 : 8 ≤ i15 := (nI_leI (a := 8) (b := i15) (by omega) (by omega)).mp c2
        refine k_vret (u := [(oX4 x1 x0 s1 s2 (nI pn) si4 s5 s6 s7 s8 s9 s10 s11 si12 v1), (aIc cI s5 8 a_s5_15), (aIc cI s7 8 a_s7_15), (aIc cI s10 8 S10)]) hx hb hr hlk hP hD hS dX4_useUp_68 ?_
        exact ⟨a_s5_15, a_s7_15, v1, rfl⟩
      · skip
        have nc2 : ¬ 8 ≤ i15 := fun q9 => c2 ((nI_leI (a := 8) (b := i15) (by omega) (by omega)).mpr q9)
        refine lv_aload_n hx hb dX4_useUp_21 rfl (lv_at hl 1 rfl) ?_
        refine va_get (D := D) (ci := 4) (v := .ref s5) (C := RX4) (T := TX4) (N := 14) hx hb hts hiX4 hown hE.1 hP 0 rfl rfl 5 (by decide) (hts _ (List.mem_cons_of_mem _ wd_49)) (fun _ h9 => h9) rfl dX4_useUp_22 ?_
        refine lv_iload_n hx hb dX4_useUp_25 rfl (lv_at hl 0 rfl) ?_
        refine lv_dup2_11 hx hb dX4_useUp_26 rfl rfl ?_
        refine va_iald hx hb hE.1 hP 1 0 rfl rfl (vp_in_nI (n := i15) (by omega) (by decide)) dX4_useUp_27 ?_
        refine lv_topi (fun v3 ev3 => ?_)
        refine lv_aload_n hx hb dX4_useUp_28 rfl (lv_at hl 1 rfl) ?_
        refine va_get (D := D) (ci := 4) (v := .ref s10) (C := RX4) (T := TX4) (N := 14) hx hb hts hiX4 hown hE.1 hP 0 rfl rfl 10 (by decide) (hts _ (List.mem_cons_of_mem _ wd_54)) (fun _ h9 => h9) rfl dX4_useUp_29 ?_
        refine lv_iload_n hx hb dX4_useUp_32 rfl (lv_at hl 0 rfl) ?_
        refine va_iald hx hb hE.1 hP 3 0 rfl rfl (vp_in_nI (n := i15) (by omega) (by decide)) dX4_useUp_33 ?_
        refine lv_topi (fun v4 ev4 => ?_)
        refine lv_isub hx hb dX4_useUp_34 ?_
        refine lv_topi (fun v5 ev5 => ?_)
        refine va_iast hx hb hE.1 hP hD hS 1 0 rfl rfl (vp_in_nI (n := i15) (by omega) (by decide)) dX4_useUp_35 (fun H locs hP hD hS => ?_)
        refine k_re (w := [(oX4 x1 x0 s1 s2 (nI pn) si4 s5 s6 s7 s8 s9 s10 s11 si12 v1), (aIc cI s5 8 (upd a_s5_15 (Int32.toNatClampNeg (nI i15)) v5)), (aIc cI s7 8 a_s7_15), (aIc cI s10 8 S10)]) hP hD (fun hP hD => ?_)
        refine lv_aload_n hx hb dX4_useUp_36 rfl (lv_at hl 1 rfl) ?_
        refine va_get (D := D) (ci := 4) (v := .ref s5) (C := RX4) (T := TX4) (N := 14) hx hb hts hiX4 hown hE.1 hP 0 rfl rfl 5 (by decide) (hts _ (List.mem_cons_of_mem _ wd_49)) (fun _ h9 => h9) rfl dX4_useUp_37 ?_
        refine lv_iload_n hx hb dX4_useUp_40 rfl (lv_at hl 0 rfl) ?_
        refine va_iald hx hb hE.1 hP 1 0 rfl rfl (vp_in_nI (n := i15) (by omega) (by decide)) dX4_useUp_41 ?_
        refine lv_topi (fun v6 ev6 => ?_)
        refine lv_if_ne (tgt := 62) hx hb dX4_useUp_42 (by decide) (fun c7 => ?_) (fun c7 => ?_)
        · skip
          refine lv_iinc (v := (nI (i15 + 1))) (lv' := [(2, .int (nI (i15 + 1))), (0, .ref x1), (1, .int l0)]) hx hb dX4_useUp_62 hl (k := 0) rfl (nI_1 _) (by decide) rfl (fun ls hl => ?_)
          refine lv_goto (tgt := 15) hx hb dX4_useUp_65 (by decide) ?_
          exact ih15 (i15 + 1) (upd a_s5_15 (Int32.toNatClampNeg (nI i15)) v5) a_s7_15 (by omega) (by omega) _ _ _ hP hD hS (lv_sub hl [0, 1, 2] rfl)
        · skip
          refine lv_aload_n hx hb dX4_useUp_45 rfl (lv_at hl 1 rfl) ?_
          refine va_get (D := D) (ci := 4) (v := .ref s7) (C := RX4) (T := TX4) (N := 14) hx hb hts hiX4 hown hE.1 hP 0 rfl rfl 7 (by decide) (hts _ (List.mem_cons_of_mem _ wd_51)) (fun _ h9 => h9) rfl dX4_useUp_46 ?_
          refine lv_iload_n hx hb dX4_useUp_49 rfl (lv_at hl 0 rfl) ?_
          refine va_iald hx hb hE.1 hP 2 0 rfl rfl (vp_in_nI (n := i15) (by omega) (by decide)) dX4_useUp_50 ?_
          refine lv_topi (fun v8 ev8 => ?_)
          refine lv_iconst (v := (-1)) hx hb dX4_useUp_51 (by decide) ?_
          refine lv_icmp_ne (tgt := 62) hx hb dX4_useUp_52 (by decide) (fun c9 => ?_) (fun c9 => ?_)
          · skip
            refine lv_iinc (v := (nI (i15 + 1))) (lv' := [(2, .int (nI (i15 + 1))), (0, .ref x1), (1, .int l0)]) hx hb dX4_useUp_62 hl (k := 0) rfl (nI_1 _) (by decide) rfl (fun ls hl => ?_)
            refine lv_goto (tgt := 15) hx hb dX4_useUp_65 (by decide) ?_
            exact ih15 (i15 + 1) (upd a_s5_15 (Int32.toNatClampNeg (nI i15)) v5) a_s7_15 (by omega) (by omega) _ _ _ hP hD hS (lv_sub hl [0, 1, 2] rfl)
          · skip
            refine lv_aload_n hx hb dX4_useUp_55 rfl (lv_at hl 1 rfl) ?_
            refine va_get (D := D) (ci := 4) (v := .ref s7) (C := RX4) (T := TX4) (N := 14) hx hb hts hiX4 hown hE.1 hP 0 rfl rfl 7 (by decide) (hts _ (List.mem_cons_of_mem _ wd_51)) (fun _ h9 => h9) rfl dX4_useUp_56 ?_
            refine lv_iload_n hx hb dX4_useUp_59 rfl (lv_at hl 0 rfl) ?_
            refine lv_iload_n hx hb dX4_useUp_60 rfl (lv_at hl 2 rfl) ?_
            refine va_iast hx hb hE.1 hP hD hS 2 0 rfl rfl (vp_in_nI (n := i15) (by omega) (by decide)) dX4_useUp_61 (fun H locs hP hD hS => ?_)
            refine k_re (w := [(oX4 x1 x0 s1 s2 (nI pn) si4 s5 s6 s7 s8 s9 s10 s11 si12 v1), (aIc cI s5 8 (upd a_s5_15 (Int32.toNatClampNeg (nI i15)) v5)), (aIc cI s7 8 (upd a_s7_15 (Int32.toNatClampNeg (nI i15)) l0)), (aIc cI s10 8 S10)]) hP hD (fun hP hD => ?_)
            refine lv_iinc (v := (nI (i15 + 1))) (lv' := [(2, .int (nI (i15 + 1))), (0, .ref x1), (1, .int l0)]) hx hb dX4_useUp_62 hl (k := 0) rfl (nI_1 _) (by decide) rfl (fun ls hl => ?_)
            refine lv_goto (tgt := 15) hx hb dX4_useUp_65 (by decide) ?_
            exact ih15 (i15 + 1) (upd a_s5_15 (Int32.toNatClampNeg (nI i15)) v5) (upd a_s7_15 (Int32.toNatClampNeg (nI i15)) l0) (by omega) (by omega) _ _ _ hP hD hS (lv_sub hl [0, 1, 2] rfl)
  exact J15 _ 0 S5 S7 (by omega) (Nat.lt_succ_self _) _ _ _ hP hD hS (lv_sub hl [0, 1, 2] rfl)
theorem dX4_through_0 : decode cX4_through 0 = .ok (.aload_n 0, 1) := by decide +kernel
theorem dX4_through_1 : decode cX4_through 1 = .ok (.getfield 12, 3) := by decide +kernel
theorem dX4_through_4 : decode cX4_through 4 = .ok (.getfield 76, 3) := by decide +kernel
theorem dX4_through_7 : decode cX4_through 7 = .ok (.iconst 0, 1) := by decide +kernel
theorem dX4_through_8 : decode cX4_through 8 = .ok (.aload_n 0, 1) := by decide +kernel
theorem dX4_through_9 : decode cX4_through 9 = .ok (.getfield 32, 3) := by decide +kernel
theorem dX4_through_12 : decode cX4_through 12 = .ok (.iconst 0, 1) := by decide +kernel
theorem dX4_through_13 : decode cX4_through 13 = .ok (.bipush 8, 2) := by decide +kernel
theorem dX4_through_15 : decode cX4_through 15 = .ok (.invokestatic 70, 3) := by decide +kernel
theorem dX4_through_18 : decode cX4_through 18 = .ok (.aload_n 0, 1) := by decide +kernel
theorem dX4_through_19 : decode cX4_through 19 = .ok (.getfield 39, 3) := by decide +kernel
theorem dX4_through_22 : decode cX4_through 22 = .ok (.iconst (-1), 1) := by decide +kernel
theorem dX4_through_23 : decode cX4_through 23 = .ok (.invokestatic 79, 3) := by decide +kernel
theorem dX4_through_26 : decode cX4_through 26 = .ok (.aload_n 0, 1) := by decide +kernel
theorem dX4_through_27 : decode cX4_through 27 = .ok (.iconst 0, 1) := by decide +kernel
theorem dX4_through_28 : decode cX4_through 28 = .ok (.putfield 85, 3) := by decide +kernel
theorem dX4_through_31 : decode cX4_through 31 = .ok (.iconst 0, 1) := by decide +kernel
theorem dX4_through_32 : decode cX4_through 32 = .ok (.istore_n 2, 1) := by decide +kernel
theorem dX4_through_33 : decode cX4_through 33 = .ok (.iload_n 2, 1) := by decide +kernel
theorem dX4_through_34 : decode cX4_through 34 = .ok (.iload_n 1, 1) := by decide +kernel
theorem dX4_through_35 : decode cX4_through 35 = .ok (.if_icmp .gt 80, 3) := by decide +kernel
theorem dX4_through_38 : decode cX4_through 38 = .ok (.iload_n 2, 1) := by decide +kernel
theorem dX4_through_39 : decode cX4_through 39 = .ok (.bipush 10, 2) := by decide +kernel
theorem dX4_through_41 : decode cX4_through 41 = .ok (.if_icmp .ge 74, 3) := by decide +kernel
theorem dX4_through_44 : decode cX4_through 44 = .ok (.aload_n 0, 1) := by decide +kernel
theorem dX4_through_45 : decode cX4_through 45 = .ok (.aload_n 0, 1) := by decide +kernel
theorem dX4_through_46 : decode cX4_through 46 = .ok (.getfield 12, 3) := by decide +kernel
theorem dX4_through_49 : decode cX4_through 49 = .ok (.getfield 88, 3) := by decide +kernel
theorem dX4_through_52 : decode cX4_through 52 = .ok (.iload_n 2, 1) := by decide +kernel
theorem dX4_through_53 : decode cX4_through 53 = .ok (.iaload, 1) := by decide +kernel
theorem dX4_through_54 : decode cX4_through 54 = .ok (.aload_n 0, 1) := by decide +kernel
theorem dX4_through_55 : decode cX4_through 55 = .ok (.getfield 12, 3) := by decide +kernel
theorem dX4_through_58 : decode cX4_through 58 = .ok (.getfield 91, 3) := by decide +kernel
theorem dX4_through_61 : decode cX4_through 61 = .ok (.iload_n 2, 1) := by decide +kernel
theorem dX4_through_62 : decode cX4_through 62 = .ok (.iaload, 1) := by decide +kernel
theorem dX4_through_63 : decode cX4_through 63 = .ok (.invokevirtual 94, 3) := by decide +kernel
theorem dX4_through_66 : decode cX4_through 66 = .ok (.istore_n 3, 1) := by decide +kernel
theorem dX4_through_67 : decode cX4_through 67 = .ok (.aload_n 0, 1) := by decide +kernel
theorem dX4_through_68 : decode cX4_through 68 = .ok (.getfield 21, 3) := by decide +kernel
theorem dX4_through_71 : decode cX4_through 71 = .ok (.iload_n 3, 1) := by decide +kernel
theorem dX4_through_72 : decode cX4_through 72 = .ok (.aload_n 0, 1) := by decide +kernel
theorem dX4_through_73 : decode cX4_through 73 = .ok (.getfield 12, 3) := by decide +kernel
theorem dX4_through_76 : decode cX4_through 76 = .ok (.getfield 98, 3) := by decide +kernel
theorem dX4_through_79 : decode cX4_through 79 = .ok (.invokevirtual 101, 3) := by decide +kernel
theorem dX4_through_82 : decode cX4_through 82 = .ok (.aload_n 0, 1) := by decide +kernel
theorem dX4_through_83 : decode cX4_through 83 = .ok (.aload_n 0, 1) := by decide +kernel
theorem dX4_through_84 : decode cX4_through 84 = .ok (.getfield 12, 3) := by decide +kernel
theorem dX4_through_87 : decode cX4_through 87 = .ok (.getfield 88, 3) := by decide +kernel
theorem dX4_through_90 : decode cX4_through 90 = .ok (.iload_n 2, 1) := by decide +kernel
theorem dX4_through_91 : decode cX4_through 91 = .ok (.iaload, 1) := by decide +kernel
theorem dX4_through_92 : decode cX4_through 92 = .ok (.aload_n 0, 1) := by decide +kernel
theorem dX4_through_93 : decode cX4_through 93 = .ok (.getfield 12, 3) := by decide +kernel
theorem dX4_through_96 : decode cX4_through 96 = .ok (.getfield 91, 3) := by decide +kernel
theorem dX4_through_99 : decode cX4_through 99 = .ok (.iload_n 2, 1) := by decide +kernel
theorem dX4_through_100 : decode cX4_through 100 = .ok (.iaload, 1) := by decide +kernel
theorem dX4_through_101 : decode cX4_through 101 = .ok (.invokevirtual 105, 3) := by decide +kernel
theorem dX4_through_104 : decode cX4_through 104 = .ok (.aload_n 0, 1) := by decide +kernel
theorem dX4_through_105 : decode cX4_through 105 = .ok (.iload_n 2, 1) := by decide +kernel
theorem dX4_through_106 : decode cX4_through 106 = .ok (.invokevirtual 109, 3) := by decide +kernel
theorem dX4_through_109 : decode cX4_through 109 = .ok (.iinc 2 1, 3) := by decide +kernel
theorem dX4_through_112 : decode cX4_through 112 = .ok (.goto (-79), 3) := by decide +kernel
theorem dX4_through_115 : decode cX4_through 115 = .ok (.return_, 1) := by decide +kernel
theorem gX4_through_J7_fill_53178 : GoodIn wtX4_through (va_wsS RX4 79 yJ7_fill_53178 wtJ7_fill_53178) := tb_good (tb_s0 wd_306 wd_73 wd_74 wd_75)
theorem gX4_through_X4_shareOut : GoodIn wtX4_through (wsV RX4 105 RX4 yX4_shareOut wtX4_shareOut) := tb_good (tb_v0 wd_349 wd_350 wd_351 wd_16 wd_352)
theorem gX4_through_X4_standAlone : GoodIn wtX4_through (wsV RX4 94 RX4 yX4_standAlone wtX4_standAlone) := tb_good (tb_v0 wd_307 wd_308 wd_309 wd_16 wd_310)
theorem gX4_through_X4_useUp : GoodIn wtX4_through (wsV RX4 109 RX4 yX4_useUp wtX4_useUp) := tb_good (tb_v0 wd_390 wd_391 wd_392 wd_16 wd_393)
theorem gX4_through_X6_weave : GoodIn wtX4_through (wsV RX4 101 RX6 yX6_weave wtX6_weave) := tb_good (tb_v0 wd_329 wd_330 wd_331 wd_43 wd_332)
set_option maxHeartbeats 4000000 in
set_option maxRecDepth 100000 in
theorem m_X4_through (l : Launch) (D : va_G) (cI cJ : ClassId) (sz : Nat) (x1 x0 s1 s2 s5 s6 s7 s8 s9 s10 s11 b0 b1 b2 b3 b4 b5 b6 b7 b8 b9 b10 b11 w0 w1 w2 w3 w4 w8 d0 d1 d2 wn lv np nl pn : Nat) (si4 si12 si13 bi14 wi6 la : Int32) (B0 B1 B2 B3 B4 B6 B8 B10 B11 S5 S6 S7 S8 S9 S10 S11 W0 W1 W2 W3 W4 W8 D0 D1 : Nat → Int32) (D2 : Nat → Int64) (hwn : wn < 256) (hlv : lv ≤ 8) (hli : ∀ k, k < 10 → ∃ j : Nat, j < 8 ∧ B10 k = nI j) : Met l yX4_through wtX4_through { frames := 4, cells := 0, slots := 0, locals := 102 } (cPc D cI cJ [.ref x1, .int la] sz [(oX4 x1 x0 s1 s2 (nI pn) si4 s5 s6 s7 s8 s9 s10 s11 si12 si13), (oX0 x0 b0 b1 b2 b3 b4 b5 b6 b7 b8 b9 b10 b11 (nI np) (nI nl) bi14), (oX6 s1 w0 w1 w2 w3 w4 (nI wn) wi6 (nI lv) w8), (oX2 s2 d0 d1 d2), (aIc cI b0 8 B0), (aIc cI b1 8 B1), (aIc cI b2 8 B2), (aIc cI b3 8 B3), (aIc cI b4 8 B4), (aIc cI b6 8 B6), (aIc cI b8 64 B8), (aIc cI b10 10 B10), (aIc cI b11 10 B11), (aIc cI s5 8 S5), (aIc cI s6 8 S6), (aIc cI s7 8 S7), (aIc cI s8 8 S8), (aIc cI s9 8 S9), (aIc cI s10 8 S10), (aIc cI s11 8 S11), (aIc cI w0 8 W0), (aIc cI w1 8 W1), (aIc cI w2 8 W2), (aIc cI w3 8 W3), (aIc cI w4 8 W4), (aIc cI w8 8 W8), (aIc cI d0 8 D0), (aIc cI d1 8 D1), (aJc cJ d2 8 D2)]) (cQv D (fun u => ∃ (S5p S6p S7p S8p S9p S10p S11p W1p W2p W3p W4p W8p D0p D1p : Nat → Int32) (D2p : Nat → Int64) (si12p si13p wi6p : Int32) (lvp wnp : Nat), (lvp ≤ 8) ∧ (wnp < 256) ∧ u = [(oX4 x1 x0 s1 s2 (nI pn) si4 s5 s6 s7 s8 s9 s10 s11 si12p si13p), (oX0 x0 b0 b1 b2 b3 b4 b5 b6 b7 b8 b9 b10 b11 (nI np) (nI nl) bi14), (oX6 s1 w0 w1 w2 w3 w4 (nI wnp) wi6p (nI lvp) w8), (oX2 s2 d0 d1 d2), (aIc cI b0 8 B0), (aIc cI b1 8 B1), (aIc cI b2 8 B2), (aIc cI b3 8 B3), (aIc cI b4 8 B4), (aIc cI b6 8 B6), (aIc cI b8 64 B8), (aIc cI b10 10 B10), (aIc cI b11 10 B11), (aIc cI s5 8 S5p), (aIc cI s6 8 S6p), (aIc cI s7 8 S7p), (aIc cI s8 8 S8p), (aIc cI s9 8 S9p), (aIc cI s10 8 S10p), (aIc cI s11 8 S11p), (aIc cI w0 8 W0), (aIc cI w1 8 W1p), (aIc cI w2 8 W2p), (aIc cI w3 8 W3p), (aIc cI w4 8 W4p), (aIc cI w8 8 W8p), (aIc cI d0 8 D0p), (aIc cI d1 8 D1p), (aJc cJ d2 8 D2p)]) (va_A [(oX4 x1 x0 s1 s2 (nI pn) si4 s5 s6 s7 s8 s9 s10 s11 si12 si13), (oX0 x0 b0 b1 b2 b3 b4 b5 b6 b7 b8 b9 b10 b11 (nI np) (nI nl) bi14), (oX6 s1 w0 w1 w2 w3 w4 (nI wn) wi6 (nI lv) w8), (oX2 s2 d0 d1 d2), (aIc cI b0 8 B0), (aIc cI b1 8 B1), (aIc cI b2 8 B2), (aIc cI b3 8 B3), (aIc cI b4 8 B4), (aIc cI b6 8 B6), (aIc cI b8 64 B8), (aIc cI b10 10 B10), (aIc cI b11 10 B11), (aIc cI s5 8 S5), (aIc cI s6 8 S6), (aIc cI s7 8 S7), (aIc cI s8 8 S8), (aIc cI s9 8 S9), (aIc cI s10 8 S10), (aIc cI s11 8 S11), (aIc cI w0 8 W0), (aIc cI w1 8 W1), (aIc cI w2 8 W2), (aIc cI w3 8 W3), (aIc cI w4 8 W4), (aIc cI w8 8 W8), (aIc cI d0 8 D0), (aIc cI d1 8 D1), (aJc cJ d2 8 D2)] sz)) 0 0 (va_A [(oX4 x1 x0 s1 s2 (nI pn) si4 s5 s6 s7 s8 s9 s10 s11 si12 si13), (oX0 x0 b0 b1 b2 b3 b4 b5 b6 b7 b8 b9 b10 b11 (nI np) (nI nl) bi14), (oX6 s1 w0 w1 w2 w3 w4 (nI wn) wi6 (nI lv) w8), (oX2 s2 d0 d1 d2), (aIc cI b0 8 B0), (aIc cI b1 8 B1), (aIc cI b2 8 B2), (aIc cI b3 8 B3), (aIc cI b4 8 B4), (aIc cI b6 8 B6), (aIc cI b8 64 B8), (aIc cI b10 10 B10), (aIc cI b11 10 B11), (aIc cI s5 8 S5), (aIc cI s6 8 S6), (aIc cI s7 8 S7), (aIc cI s8 8 S8), (aIc cI s9 8 S9), (aIc cI s10 8 S10), (aIc cI s11 8 S11), (aIc cI w0 8 W0), (aIc cI w1 8 W1), (aIc cI w2 8 W2), (aIc cI w3 8 W3), (aIc cI w4 8 W4), (aIc cI w8 8 W8), (aIc cI d0 8 D0), (aIc cI d1 8 D1), (aJc cJ d2 8 D2)] sz) := by
  refine k_ofW (Qc := cQv D (fun u => ∃ (S5p S6p S7p S8p S9p S10p S11p W1p W2p W3p W4p W8p D0p D1p : Nat → Int32) (D2p : Nat → Int64) (si12p si13p wi6p : Int32) (lvp wnp : Nat), (lvp ≤ 8) ∧ (wnp < 256) ∧ u = [(oX4 x1 x0 s1 s2 (nI pn) si4 s5 s6 s7 s8 s9 s10 s11 si12p si13p), (oX0 x0 b0 b1 b2 b3 b4 b5 b6 b7 b8 b9 b10 b11 (nI np) (nI nl) bi14), (oX6 s1 w0 w1 w2 w3 w4 (nI wnp) wi6p (nI lvp) w8), (oX2 s2 d0 d1 d2), (aIc cI b0 8 B0), (aIc cI b1 8 B1), (aIc cI b2 8 B2), (aIc cI b3 8 B3), (aIc cI b4 8 B4), (aIc cI b6 8 B6), (aIc cI b8 64 B8), (aIc cI b10 10 B10), (aIc cI b11 10 B11), (aIc cI s5 8 S5p), (aIc cI s6 8 S6p), (aIc cI s7 8 S7p), (aIc cI s8 8 S8p), (aIc cI s9 8 S9p), (aIc cI s10 8 S10p), (aIc cI s11 8 S11p), (aIc cI w0 8 W0), (aIc cI w1 8 W1p), (aIc cI w2 8 W2p), (aIc cI w3 8 W3p), (aIc cI w4 8 W4p), (aIc cI w8 8 W8p), (aIc cI d0 8 D0p), (aIc cI d1 8 D1p), (aJc cJ d2 8 D2p)])) (by decide) rfl (Nat.le_of_ble_eq_true rfl) ?_
  intro p e s m below meth c A ls hx hb hr hml hts hown hlk hnm hsz hE hP hD hS hA hl
  have hown : s.vm.findClass RX4 = some m.cls := hown
  have hiX4 : ∀ w ∈ u_ws RX4 TX4 14, w ∈ wtX4_through := fun w h => List.mem_cons_of_mem _ (iuX4 w h)
  have hiX0 : ∀ w ∈ u_ws RX0 TX0 15, w ∈ wtX4_through := fun w h => List.mem_cons_of_mem _ (iuX0 w h)
  have hl : lv_has ls 4 [(0, .ref x1), (1, .int la)] := hl
  refine lv_aload_n hx hb dX4_through_0 rfl (lv_at hl 0 rfl) ?_
  refine va_get (D := D) (ci := 4) (v := .ref x0) (C := RX4) (T := TX4) (N := 14) hx hb hts hiX4 hown hE.1 hP 0 rfl rfl 0 (by decide) (hts _ (List.mem_cons_of_mem _ wd_40)) (fun _ h9 => h9) rfl dX4_through_1 ?_
  refine va_get (D := D) (ci := 0) (v := .ref b1) (C := RX0) (T := TX0) (N := 15) hx hb hts hiX0 hown hE.1 hP 1 rfl rfl 1 (by decide) (hts _ (List.mem_cons_of_mem _ wd_301)) (fun _ h9 => h9) rfl dX4_through_4 ?_
  refine lv_iconst (v := 0) hx hb dX4_through_7 (by decide) ?_
  refine lv_aload_n hx hb dX4_through_8 rfl (lv_at hl 0 rfl) ?_
  refine va_get (D := D) (ci := 4) (v := .ref s5) (C := RX4) (T := TX4) (N := 14) hx hb hts hiX4 hown hE.1 hP 0 rfl rfl 5 (by decide) (hts _ (List.mem_cons_of_mem _ wd_49)) (fun _ h9 => h9) rfl dX4_through_9 ?_
  refine lv_iconst (v := 0) hx hb dX4_through_12 (by decide) ?_
  refine lv_bipush (v := 8) hx hb dX4_through_13 (by decide) ?_
  refine va_copyi hx hb (by rw [hml]; exact hl.1.symm) hown (hts _ (List.mem_cons_of_mem _ wd_288)) (hts _ (List.mem_cons_of_mem _ wd_289)) (hts _ (List.mem_cons_of_mem _ wd_290)) (hts _ (List.mem_cons_of_mem _ wd_291)) hE.1 hP hD hS 5 13 0 0 rfl rfl rfl rfl rfl (by decide) (by decide) (by decide) (by decide) (by decide) (fun _ _ => rfl) (Nat.le_of_ble_eq_true rfl) (Nat.le_of_ble_eq_true rfl) dX4_through_15 (fun H locs hP hD hS => ?_)
  refine k_re (w := [(oX4 x1 x0 s1 s2 (nI pn) si4 s5 s6 s7 s8 s9 s10 s11 si12 si13), (oX0 x0 b0 b1 b2 b3 b4 b5 b6 b7 b8 b9 b10 b11 (nI np) (nI nl) bi14), (oX6 s1 w0 w1 w2 w3 w4 (nI wn) wi6 (nI lv) w8), (oX2 s2 d0 d1 d2), (aIc cI b0 8 B0), (aIc cI b1 8 B1), (aIc cI b2 8 B2), (aIc cI b3 8 B3), (aIc cI b4 8 B4), (aIc cI b6 8 B6), (aIc cI b8 64 B8), (aIc cI b10 10 B10), (aIc cI b11 10 B11), (aIc cI s5 8 (va_cpy B1 S5 (0 : Int32).toNatClampNeg (0 : Int32).toNatClampNeg (8 : Int32).toNatClampNeg)), (aIc cI s6 8 S6), (aIc cI s7 8 S7), (aIc cI s8 8 S8), (aIc cI s9 8 S9), (aIc cI s10 8 S10), (aIc cI s11 8 S11), (aIc cI w0 8 W0), (aIc cI w1 8 W1), (aIc cI w2 8 W2), (aIc cI w3 8 W3), (aIc cI w4 8 W4), (aIc cI w8 8 W8), (aIc cI d0 8 D0), (aIc cI d1 8 D1), (aJc cJ d2 8 D2)]) hP hD (fun hP hD => ?_)
  refine lv_aload_n hx hb dX4_through_18 rfl (lv_at hl 0 rfl) ?_
  refine va_get (D := D) (ci := 4) (v := .ref s7) (C := RX4) (T := TX4) (N := 14) hx hb hts hiX4 hown hE.1 hP 0 rfl rfl 7 (by decide) (hts _ (List.mem_cons_of_mem _ wd_51)) (fun _ h9 => h9) rfl dX4_through_19 ?_
  refine lv_iconst (v := (-1)) hx hb dX4_through_22 (by decide) ?_
  refine k_v (va_runS (As := [.ref s7, .int (-1)]) (rest := []) ⟨hx, hb, hml, hown, hts⟩ (m_J7_fill l D cI cJ H.size s7 (-1) 8 S7 (by decide)) (va_cwS 2 hts gX4_through_J7_fill_53178 rfl rfl rfl (by decide +kernel) ⟨Nat.le_of_ble_eq_true rfl, Nat.le_of_ble_eq_true rfl⟩) (k_pre hE hP hD [15] (by decide +kernel) rfl) rfl rfl hl.1 rfl (lv_room (Nat.le_of_ble_eq_true rfl)) dX4_through_23 ⟨Nat.le_of_ble_eq_true rfl, Nat.le_of_ble_eq_true rfl⟩) hP hD hS hA [15] [0, 1, 2, 3, 4, 5, 6, 7, 8, 9, 10, 11, 12, 13, 14, 16, 17, 18, 19, 20, 21, 22, 23, 24, 25, 26, 27, 28] rfl (wr := [(oX4 x1 x0 s1 s2 (nI pn) si4 s5 s6 s7 s8 s9 s10 s11 si12 si13), (oX0 x0 b0 b1 b2 b3 b4 b5 b6 b7 b8 b9 b10 b11 (nI np) (nI nl) bi14), (oX6 s1 w0 w1 w2 w3 w4 (nI wn) wi6 (nI lv) w8), (oX2 s2 d0 d1 d2), (aIc cI b0 8 B0), (aIc cI b1 8 B1), (aIc cI b2 8 B2), (aIc cI b3 8 B3), (aIc cI b4 8 B4), (aIc cI b6 8 B6), (aIc cI b8 64 B8), (aIc cI b10 10 B10), (aIc cI b11 10 B11), (aIc cI s5 8 (va_cpy B1 S5 (0 : Int32).toNatClampNeg (0 : Int32).toNatClampNeg (8 : Int32).toNatClampNeg)), (aIc cI s6 8 S6), (aIc cI s8 8 S8), (aIc cI s9 8 S9), (aIc cI s10 8 S10), (aIc cI s11 8 S11), (aIc cI w0 8 W0), (aIc cI w1 8 W1), (aIc cI w2 8 W2), (aIc cI w3 8 W3), (aIc cI w4 8 W4), (aIc cI w8 8 W8), (aIc cI d0 8 D0), (aIc cI d1 8 D1), (aJc cJ d2 8 D2)]) rfl (by decide +kernel) (by decide +kernel) (fun u H locs hw1 hP hD hS => ?_)
  subst hw1
  refine k_re (w := [(oX4 x1 x0 s1 s2 (nI pn) si4 s5 s6 s7 s8 s9 s10 s11 si12 si13), (oX0 x0 b0 b1 b2 b3 b4 b5 b6 b7 b8 b9 b10 b11 (nI np) (nI nl) bi14), (oX6 s1 w0 w1 w2 w3 w4 (nI wn) wi6 (nI lv) w8), (oX2 s2 d0 d1 d2), (aIc cI b0 8 B0), (aIc cI b1 8 B1), (aIc cI b2 8 B2), (aIc cI b3 8 B3), (aIc cI b4 8 B4), (aIc cI b6 8 B6), (aIc cI b8 64 B8), (aIc cI b10 10 B10), (aIc cI b11 10 B11), (aIc cI s5 8 (va_cpy B1 S5 (0 : Int32).toNatClampNeg (0 : Int32).toNatClampNeg (8 : Int32).toNatClampNeg)), (aIc cI s6 8 S6), (aIc cI s8 8 S8), (aIc cI s9 8 S9), (aIc cI s10 8 S10), (aIc cI s11 8 S11), (aIc cI w0 8 W0), (aIc cI w1 8 W1), (aIc cI w2 8 W2), (aIc cI w3 8 W3), (aIc cI w4 8 W4), (aIc cI w8 8 W8), (aIc cI d0 8 D0), (aIc cI d1 8 D1), (aJc cJ d2 8 D2), (aIc cI s7 8 (fl 8 (-1) S7))]) hP hD (fun hP hD => ?_)
  refine lv_aload_n hx hb dX4_through_26 rfl (lv_at hl 0 rfl) ?_
  refine lv_iconst (v := 0) hx hb dX4_through_27 (by decide) ?_
  refine va_put (D := D) (ci := 4) (v := .int 0) (ty := .int) (C := RX4) (T := TX4) (N := 14) hx hb hts hiX4 tyX4 tyX4_ok nmX4 hown hE.1 hP hD hS 0 rfl rfl 13 (by decide) (hts _ (List.mem_cons_of_mem _ wd_302)) (fun _ h9 => h9) rfl (by decide +kernel) rfl rfl (Nat.le_of_ble_eq_true rfl) dX4_through_28 (fun H locs hP hD hS => ?_)
  refine k_re (w := [(oX4 x1 x0 s1 s2 (nI pn) si4 s5 s6 s7 s8 s9 s10 s11 si12 0), (oX0 x0 b0 b1 b2 b3 b4 b5 b6 b7 b8 b9 b10 b11 (nI np) (nI nl) bi14), (oX6 s1 w0 w1 w2 w3 w4 (nI wn) wi6 (nI lv) w8), (oX2 s2 d0 d1 d2), (aIc cI b0 8 B0), (aIc cI b1 8 B1), (aIc cI b2 8 B2), (aIc cI b3 8 B3), (aIc cI b4 8 B4), (aIc cI b6 8 B6), (aIc cI b8 64 B8), (aIc cI b10 10 B10), (aIc cI b11 10 B11), (aIc cI s5 8 (va_cpy B1 S5 (0 : Int32).toNatClampNeg (0 : Int32).toNatClampNeg (8 : Int32).toNatClampNeg)), (aIc cI s6 8 S6), (aIc cI s8 8 S8), (aIc cI s9 8 S9), (aIc cI s10 8 S10), (aIc cI s11 8 S11), (aIc cI w0 8 W0), (aIc cI w1 8 W1), (aIc cI w2 8 W2), (aIc cI w3 8 W3), (aIc cI w4 8 W4), (aIc cI w8 8 W8), (aIc cI d0 8 D0), (aIc cI d1 8 D1), (aJc cJ d2 8 D2), (aIc cI s7 8 (fl 8 (-1) S7))]) hP hD (fun hP hD => ?_)
  refine lv_iconst (v := 0) hx hb dX4_through_31 (by decide) ?_
  refine lv_istore_n (lv' := [(2, .int 0), (0, .ref x1), (1, .int la)]) hx hb dX4_through_32 rfl hl (by decide) rfl (fun ls hl => ?_)
  have J33 : ∀ (zz : Nat) (i33 : Nat) (a_s5_33 a_s6_33 a_s7_33 a_s8_33 a_s9_33 a_s10_33 a_s11_33 a_w1_33 a_w2_33 a_w3_33 a_w4_33 a_w8_33 a_d0_33 a_d1_33 : Nat → Int32) (a_d2_33 : Nat → Int64) (f4_12_33 f4_13_33 f6_6_33 : Int32) (f6_7_33 f6_5_33 : Nat), (i33 ≤ 10) → (f6_7_33 ≤ 8) → (f6_5_33 < 256) → (10 - i33) < zz → ∀ (H : Heap) (locs : List Loc) (ls : Array Slot), va_P D vwCl [(oX4 x1 x0 s1 s2 (nI pn) si4 s5 s6 s7 s8 s9 s10 s11 f4_12_33 f4_13_33), (oX0 x0 b0 b1 b2 b3 b4 b5 b6 b7 b8 b9 b10 b11 (nI np) (nI nl) bi14), (oX6 s1 w0 w1 w2 w3 w4 (nI f6_5_33) f6_6_33 (nI f6_7_33) w8), (oX2 s2 d0 d1 d2), (aIc cI b0 8 B0), (aIc cI b1 8 B1), (aIc cI b2 8 B2), (aIc cI b3 8 B3), (aIc cI b4 8 B4), (aIc cI b6 8 B6), (aIc cI b8 64 B8), (aIc cI b10 10 B10), (aIc cI b11 10 B11), (aIc cI s5 8 a_s5_33), (aIc cI s6 8 a_s6_33), (aIc cI s8 8 a_s8_33), (aIc cI s9 8 a_s9_33), (aIc cI s10 8 a_s10_33), (aIc cI s11 8 a_s11_33), (aIc cI w0 8 W0), (aIc cI w1 8 a_w1_33), (aIc cI w2 8 a_w2_33), (aIc cI w3 8 a_w3_33), (aIc cI w4 8 a_w4_33), (aIc cI w8 8 a_w8_33), (aIc cI d0 8 a_d0_33), (aIc cI d1 8 a_d1_33), (aJc cJ d2 8 a_d2_33), (aIc cI s7 8 a_s7_33)] H → va_D A [(oX4 x1 x0 s1 s2 (nI pn) si4 s5 s6 s7 s8 s9 s10 s11 f4_12_33 f4_13_33), (oX0 x0 b0 b1 b2 b3 b4 b5 b6 b7 b8 b9 b10 b11 (nI np) (nI nl) bi14), (oX6 s1 w0 w1 w2 w3 w4 (nI f6_5_33) f6_6_33 (nI f6_7_33) w8), (oX2 s2 d0 d1 d2), (aIc cI b0 8 B0), (aIc cI b1 8 B1), (aIc cI b2 8 B2), (aIc cI b3 8 B3), (aIc cI b4 8 B4), (aIc cI b6 8 B6), (aIc cI b8 64 B8), (aIc cI b10 10 B10), (aIc cI b11 10 B11), (aIc cI s5 8 a_s5_33), (aIc cI s6 8 a_s6_33), (aIc cI s8 8 a_s8_33), (aIc cI s9 8 a_s9_33), (aIc cI s10 8 a_s10_33), (aIc cI s11 8 a_s11_33), (aIc cI w0 8 W0), (aIc cI w1 8 a_w1_33), (aIc cI w2 8 a_w2_33), (aIc cI w3 8 a_w3_33), (aIc cI w4 8 a_w4_33), (aIc cI w8 8 a_w8_33), (aIc cI d0 8 a_d0_33), (aIc cI d1 8 a_d1_33), (aJc cJ d2 8 a_d2_33), (aIc cI s7 8 a_s7_33)] → va_S A s.heap H locs → lv_has ls 4 [(2, .int (nI i33)), (0, .ref x1), (1, .int la)] → W p l e { frames := 4, cells := 0, slots := 0, locals := 102 } s m [.ref x1, .int la].toArray below meth c H locs 0 0 (MQ below (cQv D (fun u => ∃ (S5p S6p S7p S8p S9p S10p S11p W1p W2p W3p W4p W8p D0p D1p : Nat → Int32) (D2p : Nat → Int64) (si12p si13p wi6p : Int32) (lvp wnp : Nat), (lvp ≤ 8) ∧ (wnp < 256) ∧ u = [(oX4 x1 x0 s1 s2 (nI pn) si4 s5 s6 s7 s8 s9 s10 s11 si12p si13p), (oX0 x0 b0 b1 b2 b3 b4 b5 b6 b7 b8 b9 b10 b11 (nI np) (nI nl) bi14), (oX6 s1 w0 w1 w2 w3 w4 (nI wnp) wi6p (nI lvp) w8), (oX2 s2 d0 d1 d2), (aIc cI b0 8 B0), (aIc cI b1 8 B1), (aIc cI b2 8 B2), (aIc cI b3 8 B3), (aIc cI b4 8 B4), (aIc cI b6 8 B6), (aIc cI b8 64 B8), (aIc cI b10 10 B10), (aIc cI b11 10 B11), (aIc cI s5 8 S5p), (aIc cI s6 8 S6p), (aIc cI s7 8 S7p), (aIc cI s8 8 S8p), (aIc cI s9 8 S9p), (aIc cI s10 8 S10p), (aIc cI s11 8 S11p), (aIc cI w0 8 W0), (aIc cI w1 8 W1p), (aIc cI w2 8 W2p), (aIc cI w3 8 W3p), (aIc cI w4 8 W4p), (aIc cI w8 8 W8p), (aIc cI d0 8 D0p), (aIc cI d1 8 D1p), (aJc cJ d2 8 D2p)]) A) [.ref x1, .int la].toArray s 0 0 A) (F0 m 33 ls []) := by
    intro zz
    induction zz with
    | zero => intro i33 a_s5_33 a_s6_33 a_s7_33 a_s8_33 a_s9_33 a_s10_33 a_s11_33 a_w1_33 a_w2_33 a_w3_33 a_w4_33 a_w8_33 a_d0_33 a_d1_33 a_d2_33 f4_12_33 f4_13_33 f6_6_33 f6_7_33 f6_5_33 _ _ _; exact fun h => absurd h (Nat.not_lt_zero _)
    | succ zz ih33 =>
      intro i33 a_s5_33 a_s6_33 a_s7_33 a_s8_33 a_s9_33 a_s10_33 a_s11_33 a_w1_33 a_w2_33 a_w3_33 a_w4_33 a_w8_33 a_d0_33 a_d1_33 a_d2_33 f4_12_33 f4_13_33 f6_6_33 f6_7_33 f6_5_33 hc2_33 hl8_33 hw8_33 hmu33 H locs ls hP hD hS hl
      refine lv_iload_n hx hb dX4_through_33 rfl (lv_at hl 0 rfl) ?_
      refine lv_iload_n hx hb dX4_through_34 rfl (lv_at hl 2 rfl) ?_
      refine lv_icmp_gt (tgt := 115) hx hb dX4_through_35 (by decide) (fun c2 => ?_) (fun c2 => ?_)
      · skip
        refine k_vret (u := [(oX4 x1 x0 s1 s2 (nI pn) si4 s5 s6 s7 s8 s9 s10 s11 f4_12_33 f4_13_33), (oX0 x0 b0 b1 b2 b3 b4 b5 b6 b7 b8 b9 b10 b11 (nI np) (nI nl) bi14), (oX6 s1 w0 w1 w2 w3 w4 (nI f6_5_33) f6_6_33 (nI f6_7_33) w8), (oX2 s2 d0 d1 d2), (aIc cI b0 8 B0), (aIc cI b1 8 B1), (aIc cI b2 8 B2), (aIc cI b3 8 B3), (aIc cI b4 8 B4), (aIc cI b6 8 B6), (aIc cI b8 64 B8), (aIc cI b10 10 B10), (aIc cI b11 10 B11), (aIc cI s5 8 a_s5_33), (aIc cI s6 8 a_s6_33), (aIc cI s7 8 a_s7_33), (aIc cI s8 8 a_s8_33), (aIc cI s9 8 a_s9_33), (aIc cI s10 8 a_s10_33), (aIc cI s11 8 a_s11_33), (aIc cI w0 8 W0), (aIc cI w1 8 a_w1_33), (aIc cI w2 8 a_w2_33), (aIc cI w3 8 a_w3_33), (aIc cI w4 8 a_w4_33), (aIc cI w8 8 a_w8_33), (aIc cI d0 8 a_d0_33), (aIc cI d1 8 a_d1_33), (aJc cJ d2 8 a_d2_33)]) hx hb hr hlk (k_sub hP [0, 1, 2, 3, 4, 5, 6, 7, 8, 9, 10, 11, 12, 13, 14, 28, 15, 16, 17, 18, 19, 20, 21, 22, 23, 24, 25, 26, 27] rfl) (hD.sub [0, 1, 2, 3, 4, 5, 6, 7, 8, 9, 10, 11, 12, 13, 14, 28, 15, 16, 17, 18, 19, 20, 21, 22, 23, 24, 25, 26, 27] (by decide +kernel) rfl) hS dX4_through_115 ?_
        exact ⟨a_s5_33, a_s6_33, a_s7_33, a_s8_33, a_s9_33, a_s10_33, a_s11_33, a_w1_33, a_w2_33, a_w3_33, a_w4_33, a_w8_33, a_d0_33, a_d1_33, a_d2_33, f4_12_33, f4_13_33, f6_6_33, f6_7_33, f6_5_33, (by omega), (by omega), rfl⟩
      · skip
        refine lv_iload_n hx hb dX4_through_38 rfl (lv_at hl 0 rfl) ?_
        refine lv_bipush (v := 10) hx hb dX4_through_39 (by decide) ?_
        refine lv_icmp_ge (tgt := 115) hx hb dX4_through_41 (by decide) (fun c3 => ?_) (fun c3 => ?_)
        · skip
          have nc3 : 10 ≤ i33 := (nI_leI (a := 10) (b := i33) (by omega) (by omega)).mp c3
          refine k_vret (u := [(oX4 x1 x0 s1 s2 (nI pn) si4 s5 s6 s7 s8 s9 s10 s11 f4_12_33 f4_13_33), (oX0 x0 b0 b1 b2 b3 b4 b5 b6 b7 b8 b9 b10 b11 (nI np) (nI nl) bi14), (oX6 s1 w0 w1 w2 w3 w4 (nI f6_5_33) f6_6_33 (nI f6_7_33) w8), (oX2 s2 d0 d1 d2), (aIc cI b0 8 B0), (aIc cI b1 8 B1), (aIc cI b2 8 B2), (aIc cI b3 8 B3), (aIc cI b4 8 B4), (aIc cI b6 8 B6), (aIc cI b8 64 B8), (aIc cI b10 10 B10), (aIc cI b11 10 B11), (aIc cI s5 8 a_s5_33), (aIc cI s6 8 a_s6_33), (aIc cI s7 8 a_s7_33), (aIc cI s8 8 a_s8_33), (aIc cI s9 8 a_s9_33), (aIc cI s10 8 a_s10_33), (aIc cI s11 8 a_s11_33), (aIc cI w0 8 W0), (aIc cI w1 8 a_w1_33), (aIc cI w2 8 a_w2_33), (aIc cI w3 8 a_w3_33), (aIc cI w4 8 a_w4_33), (aIc cI w8 8 a_w8_33), (aIc cI d0 8 a_d0_33), (aIc cI d1 8 a_d1_33), (aJc cJ d2 8 a_d2_33)]) hx hb hr hlk (k_sub hP [0, 1, 2, 3, 4, 5, 6, 7, 8, 9, 10, 11, 12, 13, 14, 28, 15, 16, 17, 18, 19, 20, 21, 22, 23, 24, 25, 26, 27] rfl) (hD.sub [0, 1, 2, 3, 4, 5, 6, 7, 8, 9, 10, 11, 12, 13, 14, 28, 15, 16, 17, 18, 19, 20, 21, 22, 23, 24, 25, 26, 27] (by decide +kernel) rfl) hS dX4_through_115 ?_
          exact ⟨a_s5_33, a_s6_33, a_s7_33, a_s8_33, a_s9_33, a_s10_33, a_s11_33, a_w1_33, a_w2_33, a_w3_33, a_w4_33, a_w8_33, a_d0_33, a_d1_33, a_d2_33, f4_12_33, f4_13_33, f6_6_33, f6_7_33, f6_5_33, (by omega), (by omega), rfl⟩
        · skip
          have nc3 : ¬ 10 ≤ i33 := fun q9 => c3 ((nI_leI (a := 10) (b := i33) (by omega) (by omega)).mpr q9)
          refine lv_aload_n hx hb dX4_through_44 rfl (lv_at hl 1 rfl) ?_
          refine lv_aload_n hx hb dX4_through_45 rfl (lv_at hl 1 rfl) ?_
          refine va_get (D := D) (ci := 4) (v := .ref x0) (C := RX4) (T := TX4) (N := 14) hx hb hts hiX4 hown hE.1 hP 0 rfl rfl 0 (by decide) (hts _ (List.mem_cons_of_mem _ wd_40)) (fun _ h9 => h9) rfl dX4_through_46 ?_
          refine va_get (D := D) (ci := 0) (v := .ref b10) (C := RX0) (T := TX0) (N := 15) hx hb hts hiX0 hown hE.1 hP 1 rfl rfl 10 (by decide) (hts _ (List.mem_cons_of_mem _ wd_303)) (fun _ h9 => h9) rfl dX4_through_49 ?_
          refine lv_iload_n hx hb dX4_through_52 rfl (lv_at hl 0 rfl) ?_
          refine va_iald hx hb hE.1 hP 11 0 rfl rfl (vp_in_nI (n := i33) (by omega) (by decide)) dX4_through_53 ?_
          refine lv_topi (fun v4 ev4 => ?_)
          obtain ⟨n5, hn5, en5⟩ := li_at (n := i33) hli (by omega) (by decide)
          obtain rfl : v4 = nI n5 := ev4.trans en5
          refine lv_aload_n hx hb dX4_through_54 rfl (lv_at hl 1 rfl) ?_
          refine va_get (D := D) (ci := 4) (v := .ref x0) (C := RX4) (T := TX4) (N := 14) hx hb hts hiX4 hown hE.1 hP 0 rfl rfl 0 (by decide) (hts _ (List.mem_cons_of_mem _ wd_40)) (fun _ h9 => h9) rfl dX4_through_55 ?_
          refine va_get (D := D) (ci := 0) (v := .ref b11) (C := RX0) (T := TX0) (N := 15) hx hb hts hiX0 hown hE.1 hP 1 rfl rfl 11 (by decide) (hts _ (List.mem_cons_of_mem _ wd_304)) (fun _ h9 => h9) rfl dX4_through_58 ?_
          refine lv_iload_n hx hb dX4_through_61 rfl (lv_at hl 0 rfl) ?_
          refine va_iald hx hb hE.1 hP 12 0 rfl rfl (vp_in_nI (n := i33) (by omega) (by decide)) dX4_through_62 ?_
          refine lv_topi (fun v6 ev6 => ?_)
          refine k_i (va_runV (As := [.int (nI n5), .int v6]) (rest := []) ⟨hx, hb, hml, hown, hts⟩ (m_X4_standAlone l D cI cJ H.size x1 x0 s1 s2 s5 s6 s7 s8 s9 s10 s11 b0 b1 b2 b3 b4 b5 b6 b7 b8 b9 b10 b11 n5 np nl pn si4 f4_12_33 f4_13_33 bi14 v6 B0 B2 B3 B4 B8 a_s5_33 a_s6_33 a_s8_33 (by omega)) (cwV 2 hts gX4_through_X4_standAlone rfl rfl rfl (by decide +kernel) ⟨Nat.le_of_ble_eq_true rfl, Nat.le_of_ble_eq_true rfl⟩) (k_preV hE hP hD [0, 1, 4, 6, 7, 8, 10, 13, 14, 15] (by decide +kernel) rfl 0 rfl rfl) rfl rfl hl.1 rfl (lv_room (Nat.le_of_ble_eq_true rfl)) dX4_through_63 ⟨Nat.le_of_ble_eq_true rfl, Nat.le_of_ble_eq_true rfl⟩) hP hD hS hA [0, 1, 4, 6, 7, 8, 10, 13, 14, 15] [2, 3, 5, 9, 11, 12, 16, 17, 18, 19, 20, 21, 22, 23, 24, 25, 26, 27, 28] rfl (wr := [(oX6 s1 w0 w1 w2 w3 w4 (nI f6_5_33) f6_6_33 (nI f6_7_33) w8), (oX2 s2 d0 d1 d2), (aIc cI b1 8 B1), (aIc cI b6 8 B6), (aIc cI b10 10 B10), (aIc cI b11 10 B11), (aIc cI s9 8 a_s9_33), (aIc cI s10 8 a_s10_33), (aIc cI s11 8 a_s11_33), (aIc cI w0 8 W0), (aIc cI w1 8 a_w1_33), (aIc cI w2 8 a_w2_33), (aIc cI w3 8 a_w3_33), (aIc cI w4 8 a_w4_33), (aIc cI w8 8 a_w8_33), (aIc cI d0 8 a_d0_33), (aIc cI d1 8 a_d1_33), (aJc cJ d2 8 a_d2_33), (aIc cI s7 8 a_s7_33)]) rfl (by decide +kernel) (by decide +kernel) (fun r7 u H locs hw8 hP hD hS => ?_)
          obtain ⟨z9, z10, z11, hz12, rfl, rfl⟩ := hw8
          refine k_re (w := [(oX6 s1 w0 w1 w2 w3 w4 (nI f6_5_33) f6_6_33 (nI f6_7_33) w8), (oX2 s2 d0 d1 d2), (aIc cI b1 8 B1), (aIc cI b6 8 B6), (aIc cI b10 10 B10), (aIc cI b11 10 B11), (aIc cI s9 8 a_s9_33), (aIc cI s10 8 a_s10_33), (aIc cI s11 8 a_s11_33), (aIc cI w0 8 W0), (aIc cI w1 8 a_w1_33), (aIc cI w2 8 a_w2_33), (aIc cI w3 8 a_w3_33), (aIc cI w4 8 a_w4_33), (aIc cI w8 8 a_w8_33), (aIc cI d0 8 a_d0_33), (aIc cI d1 8 a_d1_33), (aJc cJ d2 8 a_d2_33), (aIc cI s7 8 a_s7_33), (oX4 x1 x0 s1 s2 (nI pn) si4 s5 s6 s7 s8 s9 s10 s11 f4_12_33 f4_13_33), (oX0 x0 b0 b1 b2 b3 b4 b5 b6 b7 b8 b9 b10 b11 (nI np) (nI nl) bi14), (aIc cI b0 8 B0), (aIc cI b2 8 B2), (aIc cI b3 8 B3), (aIc cI b4 8 B4), (aIc cI b8 64 B8), (aIc cI s5 8 a_s5_33), (aIc cI s6 8 z10), (aIc cI s8 8 z11)]) hP hD (fun hP hD => ?_)
          refine lv_istore_n (lv' := [(3, .int (nI z9)), (2, .int (nI i33)), (0, .ref x1), (1, .int la)]) hx hb dX4_through_66 rfl hl (by decide) rfl (fun ls hl => ?_)
          refine lv_aload_n hx hb dX4_through_67 rfl (lv_at hl 2 rfl) ?_
          refine va_get (D := D) (ci := 4) (v := .ref s1) (C := RX4) (T := TX4) (N := 14) hx hb hts hiX4 hown hE.1 hP 19 rfl rfl 1 (by decide) (hts _ (List.mem_cons_of_mem _ wd_44)) (fun _ h9 => h9) rfl dX4_through_68 ?_
          refine lv_iload_n hx hb dX4_through_71 rfl (lv_at hl 0 rfl) ?_
          refine lv_aload_n hx hb dX4_through_72 rfl (lv_at hl 2 rfl) ?_
          refine va_get (D := D) (ci := 4) (v := .ref x0) (C := RX4) (T := TX4) (N := 14) hx hb hts hiX4 hown hE.1 hP 19 rfl rfl 0 (by decide) (hts _ (List.mem_cons_of_mem _ wd_40)) (fun _ h9 => h9) rfl dX4_through_73 ?_
          refine va_get (D := D) (ci := 0) (v := .ref b6) (C := RX0) (T := TX0) (N := 15) hx hb hts hiX0 hown hE.1 hP 20 rfl rfl 6 (by decide) (hts _ (List.mem_cons_of_mem _ wd_305)) (fun _ h9 => h9) rfl dX4_through_76 ?_
          refine k_v (va_runV (As := [.int (nI z9), .ref b6]) (rest := []) ⟨hx, hb, hml, hown, hts⟩ (m_X6_weave l D cI cJ H.size s1 w0 w1 w2 w3 w4 w8 b6 z9 f6_5_33 f6_7_33 f6_6_33 W0 a_w1_33 a_w2_33 a_w3_33 a_w4_33 a_w8_33 B6 (by omega) (by omega) (by omega)) (cwV 2 hts gX4_through_X6_weave rfl rfl rfl (by decide +kernel) ⟨Nat.le_of_ble_eq_true rfl, Nat.le_of_ble_eq_true rfl⟩) (k_preV hE hP hD [0, 9, 10, 11, 12, 13, 14, 3] (by decide +kernel) rfl 0 rfl rfl) rfl rfl hl.1 rfl (lv_room (Nat.le_of_ble_eq_true rfl)) dX4_through_79 ⟨Nat.le_of_ble_eq_true rfl, Nat.le_of_ble_eq_true rfl⟩) hP hD hS hA [0, 9, 10, 11, 12, 13, 14, 3] [1, 2, 4, 5, 6, 7, 8, 15, 16, 17, 18, 19, 20, 21, 22, 23, 24, 25, 26, 27, 28] rfl (wr := [(oX2 s2 d0 d1 d2), (aIc cI b1 8 B1), (aIc cI b10 10 B10), (aIc cI b11 10 B11), (aIc cI s9 8 a_s9_33), (aIc cI s10 8 a_s10_33), (aIc cI s11 8 a_s11_33), (aIc cI d0 8 a_d0_33), (aIc cI d1 8 a_d1_33), (aJc cJ d2 8 a_d2_33), (aIc cI s7 8 a_s7_33), (oX4 x1 x0 s1 s2 (nI pn) si4 s5 s6 s7 s8 s9 s10 s11 f4_12_33 f4_13_33), (oX0 x0 b0 b1 b2 b3 b4 b5 b6 b7 b8 b9 b10 b11 (nI np) (nI nl) bi14), (aIc cI b0 8 B0), (aIc cI b2 8 B2), (aIc cI b3 8 B3), (aIc cI b4 8 B4), (aIc cI b8 64 B8), (aIc cI s5 8 a_s5_33), (aIc cI s6 8 z10), (aIc cI s8 8 z11)]) rfl (by decide +kernel) (by decide +kernel) (fun u H locs hw13 hP hD hS => ?_)
          obtain ⟨z14, z15, z16, z17, z18, z19, z20, hz21, rfl⟩ := hw13
          refine k_re (w := [(oX2 s2 d0 d1 d2), (aIc cI b1 8 B1), (aIc cI b10 10 B10), (aIc cI b11 10 B11), (aIc cI s9 8 a_s9_33), (aIc cI s10 8 a_s10_33), (aIc cI s11 8 a_s11_33), (aIc cI d0 8 a_d0_33), (aIc cI d1 8 a_d1_33), (aJc cJ d2 8 a_d2_33), (aIc cI s7 8 a_s7_33), (oX4 x1 x0 s1 s2 (nI pn) si4 s5 s6 s7 s8 s9 s10 s11 f4_12_33 f4_13_33), (oX0 x0 b0 b1 b2 b3 b4 b5 b6 b7 b8 b9 b10 b11 (nI np) (nI nl) bi14), (aIc cI b0 8 B0), (aIc cI b2 8 B2), (aIc cI b3 8 B3), (aIc cI b4 8 B4), (aIc cI b8 64 B8), (aIc cI s5 8 a_s5_33), (aIc cI s6 8 z10), (aIc cI s8 8 z11), (oX6 s1 w0 w1 w2 w3 w4 (nI z9) z19 (nI z20) w8), (aIc cI w0 8 W0), (aIc cI w1 8 z14), (aIc cI w2 8 z15), (aIc cI w3 8 z16), (aIc cI w4 8 z17), (aIc cI w8 8 z18), (aIc cI b6 8 B6)]) hP hD (fun hP hD => ?_)
          refine lv_aload_n hx hb dX4_through_82 rfl (lv_at hl 2 rfl) ?_
          refine lv_aload_n hx hb dX4_through_83 rfl (lv_at hl 2 rfl) ?_
          refine va_get (D := D) (ci := 4) (v := .ref x0) (C := RX4) (T := TX4) (N := 14) hx hb hts hiX4 hown hE.1 hP 11 rfl rfl 0 (by decide) (hts _ (List.mem_cons_of_mem _ wd_40)) (fun _ h9 => h9) rfl dX4_through_84 ?_
          refine va_get (D := D) (ci := 0) (v := .ref b10) (C := RX0) (T := TX0) (N := 15) hx hb hts hiX0 hown hE.1 hP 12 rfl rfl 10 (by decide) (hts _ (List.mem_cons_of_mem _ wd_303)) (fun _ h9 => h9) rfl dX4_through_87 ?_
          refine lv_iload_n hx hb dX4_through_90 rfl (lv_at hl 1 rfl) ?_
          refine va_iald hx hb hE.1 hP 2 0 rfl rfl (vp_in_nI (n := i33) (by omega) (by decide)) dX4_through_91 ?_
          refine lv_topi (fun v22 ev22 => ?_)
          obtain ⟨n23, hn23, en23⟩ := li_at (n := i33) hli (by omega) (by decide)
          obtain rfl : v22 = nI n23 := ev22.trans en23
          refine lv_aload_n hx hb dX4_through_92 rfl (lv_at hl 2 rfl) ?_
          refine va_get (D := D) (ci := 4) (v := .ref x0) (C := RX4) (T := TX4) (N := 14) hx hb hts hiX4 hown hE.1 hP 11 rfl rfl 0 (by decide) (hts _ (List.mem_cons_of_mem _ wd_40)) (fun _ h9 => h9) rfl dX4_through_93 ?_
          refine va_get (D := D) (ci := 0) (v := .ref b11) (C := RX0) (T := TX0) (N := 15) hx hb hts hiX0 hown hE.1 hP 12 rfl rfl 11 (by decide) (hts _ (List.mem_cons_of_mem _ wd_304)) (fun _ h9 => h9) rfl dX4_through_96 ?_
          refine lv_iload_n hx hb dX4_through_99 rfl (lv_at hl 1 rfl) ?_
          refine va_iald hx hb hE.1 hP 3 0 rfl rfl (vp_in_nI (n := i33) (by omega) (by decide)) dX4_through_100 ?_
          refine lv_topi (fun v24 ev24 => ?_)
          refine k_v (va_runV (As := [.int (nI n23), .int v24]) (rest := []) ⟨hx, hb, hml, hown, hts⟩ (m_X4_shareOut l D cI cJ H.size x1 x0 s1 s2 s5 s6 s7 s8 s9 s10 s11 b0 b1 b2 b3 b4 b5 b6 b7 b8 b9 b10 b11 w0 w1 w2 w3 w4 w8 d0 d1 d2 n23 z9 z20 np nl pn si4 f4_12_33 f4_13_33 bi14 z19 v24 B0 B2 B3 B4 B8 z10 a_s9_33 a_s10_33 a_s11_33 z17 a_d0_33 a_d1_33 a_d2_33 (by omega) (by omega)) (cwV 2 hts gX4_through_X4_shareOut rfl rfl rfl (by decide +kernel) ⟨Nat.le_of_ble_eq_true rfl, Nat.le_of_ble_eq_true rfl⟩) (k_preV hE hP hD [11, 12, 21, 0, 13, 14, 15, 16, 17, 19, 4, 5, 6, 26, 7, 8, 9] (by decide +kernel) rfl 11 rfl rfl) rfl rfl hl.1 rfl (lv_room (Nat.le_of_ble_eq_true rfl)) dX4_through_101 ⟨Nat.le_of_ble_eq_true rfl, Nat.le_of_ble_eq_true rfl⟩) hP hD hS hA [11, 12, 21, 0, 13, 14, 15, 16, 17, 19, 4, 5, 6, 26, 7, 8, 9] [1, 2, 3, 10, 18, 20, 22, 23, 24, 25, 27, 28] rfl (wr := [(aIc cI b1 8 B1), (aIc cI b10 10 B10), (aIc cI b11 10 B11), (aIc cI s7 8 a_s7_33), (aIc cI s5 8 a_s5_33), (aIc cI s8 8 z11), (aIc cI w0 8 W0), (aIc cI w1 8 z14), (aIc cI w2 8 z15), (aIc cI w3 8 z16), (aIc cI w8 8 z18), (aIc cI b6 8 B6)]) rfl (by decide +kernel) (by decide +kernel) (fun u H locs hw25 hP hD hS => ?_)
          obtain ⟨z26, z27, z28, z29, z30, z31, z32, rfl⟩ := hw25
          refine k_re (w := [(aIc cI b1 8 B1), (aIc cI b10 10 B10), (aIc cI b11 10 B11), (aIc cI s7 8 a_s7_33), (aIc cI s5 8 a_s5_33), (aIc cI s8 8 z11), (aIc cI w0 8 W0), (aIc cI w1 8 z14), (aIc cI w2 8 z15), (aIc cI w3 8 z16), (aIc cI w8 8 z18), (aIc cI b6 8 B6), (oX4 x1 x0 s1 s2 (nI pn) si4 s5 s6 s7 s8 s9 s10 s11 z32 f4_13_33), (oX0 x0 b0 b1 b2 b3 b4 b5 b6 b7 b8 b9 b10 b11 (nI np) (nI nl) bi14), (oX6 s1 w0 w1 w2 w3 w4 (nI z9) z19 (nI z20) w8), (oX2 s2 d0 d1 d2), (aIc cI b0 8 B0), (aIc cI b2 8 B2), (aIc cI b3 8 B3), (aIc cI b4 8 B4), (aIc cI b8 64 B8), (aIc cI s6 8 z10), (aIc cI s9 8 z26), (aIc cI s10 8 z27), (aIc cI s11 8 z28), (aIc cI w4 8 z17), (aIc cI d0 8 z29), (aIc cI d1 8 z30), (aJc cJ d2 8 z31)]) hP hD (fun hP hD => ?_)
          refine lv_aload_n hx hb dX4_through_104 rfl (lv_at hl 2 rfl) ?_
          refine lv_iload_n hx hb dX4_through_105 rfl (lv_at hl 1 rfl) ?_
          refine k_v (va_runV (As := [.int (nI i33)]) (rest := []) ⟨hx, hb, hml, hown, hts⟩ (m_X4_useUp l D cI cJ H.size x1 x0 s1 s2 s5 s6 s7 s8 s9 s10 s11 pn si4 z32 f4_13_33 (nI i33) a_s5_33 a_s7_33 z27) (cwV 1 hts gX4_through_X4_useUp rfl rfl rfl (by decide +kernel) ⟨Nat.le_of_ble_eq_true rfl, Nat.le_of_ble_eq_true rfl⟩) (k_preV hE hP hD [12, 4, 3, 23] (by decide +kernel) rfl 12 rfl rfl) rfl rfl hl.1 rfl (lv_room (Nat.le_of_ble_eq_true rfl)) dX4_through_106 ⟨Nat.le_of_ble_eq_true rfl, Nat.le_of_ble_eq_true rfl⟩) hP hD hS hA [12, 4, 3, 23] [0, 1, 2, 5, 6, 7, 8, 9, 10, 11, 13, 14, 15, 16, 17, 18, 19, 20, 21, 22, 24, 25, 26, 27, 28] rfl (wr := [(aIc cI b1 8 B1), (aIc cI b10 10 B10), (aIc cI b11 10 B11), (aIc cI s8 8 z11), (aIc cI w0 8 W0), (aIc cI w1 8 z14), (aIc cI w2 8 z15), (aIc cI w3 8 z16), (aIc cI w8 8 z18), (aIc cI b6 8 B6), (oX0 x0 b0 b1 b2 b3 b4 b5 b6 b7 b8 b9 b10 b11 (nI np) (nI nl) bi14), (oX6 s1 w0 w1 w2 w3 w4 (nI z9) z19 (nI z20) w8), (oX2 s2 d0 d1 d2), (aIc cI b0 8 B0), (aIc cI b2 8 B2), (aIc cI b3 8 B3), (aIc cI b4 8 B4), (aIc cI b8 64 B8), (aIc cI s6 8 z10), (aIc cI s9 8 z26), (aIc cI s11 8 z28), (aIc cI w4 8 z17), (aIc cI d0 8 z29), (aIc cI d1 8 z30), (aJc cJ d2 8 z31)]) rfl (by decide +kernel) (by decide +kernel) (fun u H locs hw33 hP hD hS => ?_)
          obtain ⟨z34, z35, z36, rfl⟩ := hw33
          refine k_re (w := [(aIc cI b1 8 B1), (aIc cI b10 10 B10), (aIc cI b11 10 B11), (aIc cI s8 8 z11), (aIc cI w0 8 W0), (aIc cI w1 8 z14), (aIc cI w2 8 z15), (aIc cI w3 8 z16), (aIc cI w8 8 z18), (aIc cI b6 8 B6), (oX0 x0 b0 b1 b2 b3 b4 b5 b6 b7 b8 b9 b10 b11 (nI np) (nI nl) bi14), (oX6 s1 w0 w1 w2 w3 w4 (nI z9) z19 (nI z20) w8), (oX2 s2 d0 d1 d2), (aIc cI b0 8 B0), (aIc cI b2 8 B2), (aIc cI b3 8 B3), (aIc cI b4 8 B4), (aIc cI b8 64 B8), (aIc cI s6 8 z10), (aIc cI s9 8 z26), (aIc cI s11 8 z28), (aIc cI w4 8 z17), (aIc cI d0 8 z29), (aIc cI d1 8 z30), (aJc cJ d2 8 z31), (oX4 x1 x0 s1 s2 (nI pn) si4 s5 s6 s7 s8 s9 s10 s11 z32 z36), (aIc cI s5 8 z34), (aIc cI s7 8 z35), (aIc cI s10 8 z27)]) hP hD (fun hP hD => ?_)
          refine lv_iinc (v := (nI (i33 + 1))) (lv' := [(2, .int (nI (i33 + 1))), (3, .int (nI z9)), (0, .ref x1), (1, .int la)]) hx hb dX4_through_109 hl (k := 1) rfl (nI_1 _) (by decide) rfl (fun ls hl => ?_)
          refine lv_goto (tgt := 33) hx hb dX4_through_112 (by decide) ?_
          exact ih33 (i33 + 1) z34 z10 z35 z11 z26 z27 z28 z14 z15 z16 z17 z18 z29 z30 z31 z32 z36 z19 z20 z9 (by omega) (by omega) (by omega) (by omega) _ _ _ (k_sub hP [25, 10, 11, 12, 13, 0, 14, 15, 16, 9, 17, 1, 2, 26, 18, 3, 19, 28, 20, 4, 5, 6, 7, 21, 8, 22, 23, 24, 27] rfl) (hD.sub [25, 10, 11, 12, 13, 0, 14, 15, 16, 9, 17, 1, 2, 26, 18, 3, 19, 28, 20, 4, 5, 6, 7, 21, 8, 22, 23, 24, 27] (by decide +kernel) rfl) hS (lv_sub hl [0, 2, 3] rfl)
  exact J33 _ 0 (va_cpy B1 S5 (0 : Int32).toNatClampNeg (0 : Int32).toNatClampNeg (8 : Int32).toNatClampNeg) S6 (fl 8 (-1) S7) S8 S9 S10 S11 W1 W2 W3 W4 W8 D0 D1 D2 si12 0 wi6 lv wn (by omega) (by omega) (by omega) (Nat.lt_succ_self _) _ _ _ hP hD hS (lv_sub hl [0, 1, 2] rfl)

