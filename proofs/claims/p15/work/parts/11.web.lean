def bc (x0 : Int32) : Int32 :=
  let x1 := x0 - (((Int32.toUInt32 x0) >>> ((Int32.toUInt32 1) &&& Int32.toUInt32 31)).toInt32 &&& 1431655765)
  let x2 := (x1 &&& 858993459) + (((Int32.toUInt32 x1) >>> ((Int32.toUInt32 2) &&& Int32.toUInt32 31)).toInt32 &&& 858993459)
  let x3 := (x2 + ((Int32.toUInt32 x2) >>> ((Int32.toUInt32 4) &&& Int32.toUInt32 31)).toInt32) &&& 252645135
  let x4 := x3 + ((Int32.toUInt32 x3) >>> ((Int32.toUInt32 8) &&& Int32.toUInt32 31)).toInt32
  let x5 := x4 + ((Int32.toUInt32 x4) >>> ((Int32.toUInt32 16) &&& Int32.toUInt32 31)).toInt32
  x5 &&& 63
theorem orb_tab : ∀ a : Fin 256, ∀ i : Fin 8, (nI a.val ||| ((1 : Int32) <<< (nI i.val &&& 31))) = nI (a.val ||| 2 ^ i.val) ∧ a.val ||| 2 ^ i.val < 256 := by decide +kernel
theorem orb {a i : Nat} {v w : Int32} (ha : a < 256) (hi : i < 8) (ev : v = 1 <<< (nI i &&& 31)) (ew : w = nI a ||| v) : ∃ n : Nat, n < 256 ∧ w = nI n := by
  have h := orb_tab ⟨a, ha⟩ ⟨i, hi⟩
  exact ⟨a ||| 2 ^ i, h.2, by rw [ew, ev]; exact h.1⟩
theorem ev_tab : ∀ n : Fin 9, (((1 : Int32) <<< (nI n.val &&& 31)) - 1) = nI (2 ^ n.val - 1) ∧ 2 ^ n.val - 1 < 256 := by decide +kernel
theorem ev_np {n : Nat} {v w : Int32} (hn : n ≤ 8) (ev : v = 1 <<< (nI n &&& 31)) (ew : w = v - 1) : w = nI (2 ^ n - 1) := by
  rw [ew, ev]; exact (ev_tab ⟨n, by omega⟩).1
theorem ev_lt {n : Nat} (hn : n ≤ 8) : 2 ^ n - 1 < 256 := (ev_tab ⟨n, by omega⟩).2
theorem i2l_ne {v : Int32} {w : Int64} (e : w = Int32.toInt64 v) (h : ¬ v ≤ 0) : ¬ w = 0 := fun q => h (by
  rw [e] at q
  have h1 : (Int32.toInt64 v).toInt = 0 := by rw [q]; rfl
  rw [Int32.toInt_toInt64] at h1
  exact Int32.le_iff_toInt_le.mpr (by rw [h1]; decide))
theorem dJ6_bitCount_0f7a4_0 : decode cJ6_bitCount_0f7a4 0 = .ok (.iload_n 0, 1) := by decide +kernel
theorem dJ6_bitCount_0f7a4_1 : decode cJ6_bitCount_0f7a4 1 = .ok (.iload_n 0, 1) := by decide +kernel
theorem dJ6_bitCount_0f7a4_2 : decode cJ6_bitCount_0f7a4 2 = .ok (.iconst 1, 1) := by decide +kernel
theorem dJ6_bitCount_0f7a4_3 : decode cJ6_bitCount_0f7a4 3 = .ok (.iushr, 1) := by decide +kernel
theorem dJ6_bitCount_0f7a4_4 : decode cJ6_bitCount_0f7a4 4 = .ok (.ldc_w 265, 3) := by decide +kernel
theorem dJ6_bitCount_0f7a4_7 : decode cJ6_bitCount_0f7a4 7 = .ok (.iand, 1) := by decide +kernel
theorem dJ6_bitCount_0f7a4_8 : decode cJ6_bitCount_0f7a4 8 = .ok (.isub, 1) := by decide +kernel
theorem dJ6_bitCount_0f7a4_9 : decode cJ6_bitCount_0f7a4 9 = .ok (.istore_n 0, 1) := by decide +kernel
theorem dJ6_bitCount_0f7a4_10 : decode cJ6_bitCount_0f7a4 10 = .ok (.iload_n 0, 1) := by decide +kernel
theorem dJ6_bitCount_0f7a4_11 : decode cJ6_bitCount_0f7a4 11 = .ok (.ldc_w 266, 3) := by decide +kernel
theorem dJ6_bitCount_0f7a4_14 : decode cJ6_bitCount_0f7a4 14 = .ok (.iand, 1) := by decide +kernel
theorem dJ6_bitCount_0f7a4_15 : decode cJ6_bitCount_0f7a4 15 = .ok (.iload_n 0, 1) := by decide +kernel
theorem dJ6_bitCount_0f7a4_16 : decode cJ6_bitCount_0f7a4 16 = .ok (.iconst 2, 1) := by decide +kernel
theorem dJ6_bitCount_0f7a4_17 : decode cJ6_bitCount_0f7a4 17 = .ok (.iushr, 1) := by decide +kernel
theorem dJ6_bitCount_0f7a4_18 : decode cJ6_bitCount_0f7a4 18 = .ok (.ldc_w 266, 3) := by decide +kernel
theorem dJ6_bitCount_0f7a4_21 : decode cJ6_bitCount_0f7a4 21 = .ok (.iand, 1) := by decide +kernel
theorem dJ6_bitCount_0f7a4_22 : decode cJ6_bitCount_0f7a4 22 = .ok (.iadd, 1) := by decide +kernel
theorem dJ6_bitCount_0f7a4_23 : decode cJ6_bitCount_0f7a4 23 = .ok (.istore_n 0, 1) := by decide +kernel
theorem dJ6_bitCount_0f7a4_24 : decode cJ6_bitCount_0f7a4 24 = .ok (.iload_n 0, 1) := by decide +kernel
theorem dJ6_bitCount_0f7a4_25 : decode cJ6_bitCount_0f7a4 25 = .ok (.iload_n 0, 1) := by decide +kernel
theorem dJ6_bitCount_0f7a4_26 : decode cJ6_bitCount_0f7a4 26 = .ok (.iconst 4, 1) := by decide +kernel
theorem dJ6_bitCount_0f7a4_27 : decode cJ6_bitCount_0f7a4 27 = .ok (.iushr, 1) := by decide +kernel
theorem dJ6_bitCount_0f7a4_28 : decode cJ6_bitCount_0f7a4 28 = .ok (.iadd, 1) := by decide +kernel
theorem dJ6_bitCount_0f7a4_29 : decode cJ6_bitCount_0f7a4 29 = .ok (.ldc_w 267, 3) := by decide +kernel
theorem dJ6_bitCount_0f7a4_32 : decode cJ6_bitCount_0f7a4 32 = .ok (.iand, 1) := by decide +kernel
theorem dJ6_bitCount_0f7a4_33 : decode cJ6_bitCount_0f7a4 33 = .ok (.istore_n 0, 1) := by decide +kernel
theorem dJ6_bitCount_0f7a4_34 : decode cJ6_bitCount_0f7a4 34 = .ok (.iload_n 0, 1) := by decide +kernel
theorem dJ6_bitCount_0f7a4_35 : decode cJ6_bitCount_0f7a4 35 = .ok (.iload_n 0, 1) := by decide +kernel
theorem dJ6_bitCount_0f7a4_36 : decode cJ6_bitCount_0f7a4 36 = .ok (.bipush 8, 2) := by decide +kernel
theorem dJ6_bitCount_0f7a4_38 : decode cJ6_bitCount_0f7a4 38 = .ok (.iushr, 1) := by decide +kernel
theorem dJ6_bitCount_0f7a4_39 : decode cJ6_bitCount_0f7a4 39 = .ok (.iadd, 1) := by decide +kernel
theorem dJ6_bitCount_0f7a4_40 : decode cJ6_bitCount_0f7a4 40 = .ok (.istore_n 0, 1) := by decide +kernel
theorem dJ6_bitCount_0f7a4_41 : decode cJ6_bitCount_0f7a4 41 = .ok (.iload_n 0, 1) := by decide +kernel
theorem dJ6_bitCount_0f7a4_42 : decode cJ6_bitCount_0f7a4 42 = .ok (.iload_n 0, 1) := by decide +kernel
theorem dJ6_bitCount_0f7a4_43 : decode cJ6_bitCount_0f7a4 43 = .ok (.bipush 16, 2) := by decide +kernel
theorem dJ6_bitCount_0f7a4_45 : decode cJ6_bitCount_0f7a4 45 = .ok (.iushr, 1) := by decide +kernel
theorem dJ6_bitCount_0f7a4_46 : decode cJ6_bitCount_0f7a4 46 = .ok (.iadd, 1) := by decide +kernel
theorem dJ6_bitCount_0f7a4_47 : decode cJ6_bitCount_0f7a4 47 = .ok (.istore_n 0, 1) := by decide +kernel
theorem dJ6_bitCount_0f7a4_48 : decode cJ6_bitCount_0f7a4 48 = .ok (.iload_n 0, 1) := by decide +kernel
theorem dJ6_bitCount_0f7a4_49 : decode cJ6_bitCount_0f7a4 49 = .ok (.bipush 63, 2) := by decide +kernel
theorem dJ6_bitCount_0f7a4_51 : decode cJ6_bitCount_0f7a4 51 = .ok (.iand, 1) := by decide +kernel
theorem dJ6_bitCount_0f7a4_52 : decode cJ6_bitCount_0f7a4 52 = .ok (.ireturn, 1) := by decide +kernel
set_option maxHeartbeats 4000000 in
set_option maxRecDepth 100000 in
/-- bitCount -/
theorem m_bitCount (l : Launch) (D : va_G) (cI cJ : ClassId) (sz : Nat) (n : Int32) : Met l yJ6_bitCount_0f7a4 wtJ6_bitCount_0f7a4 { frames := 0, cells := 0, slots := 0, locals := 0 } (cPc D cI cJ [.int n] sz []) (cQi D (fun r u => r = (bc n) ∧ u = []) (va_A [] sz)) 0 0 (va_A [] sz) := by
  refine k_ofW (Qc := cQi D (fun r u => r = (bc n) ∧ u = [])) (by decide) rfl (Nat.le_of_ble_eq_true rfl) ?_
  intro p e s m below meth c A ls hx hb hr hml hts hown hlk hnm hsz hE hP hD hS hA hl
  have hown : s.vm.findClass RJ6 = some m.cls := hown
  have hl : lv_has ls 1 [(0, .int n)] := hl
  refine lv_iload_n hx hb dJ6_bitCount_0f7a4_0 rfl (lv_at hl 0 rfl) ?_
  refine lv_iload_n hx hb dJ6_bitCount_0f7a4_1 rfl (lv_at hl 0 rfl) ?_
  refine lv_iconst (v := 1) hx hb dJ6_bitCount_0f7a4_2 (by decide) ?_
  refine lv_iushr hx hb dJ6_bitCount_0f7a4_3 rfl ?_
  refine lv_topi (fun v1 ev1 => ?_)
  refine lv_ldcw (v := 1431655765) hx hb hown (hts _ (List.mem_cons_of_mem _ wd_543)) dJ6_bitCount_0f7a4_4 ?_
  refine lv_iand hx hb dJ6_bitCount_0f7a4_7 ?_
  refine lv_topi (fun v2 ev2 => ?_)
  refine lv_isub hx hb dJ6_bitCount_0f7a4_8 ?_
  refine lv_topi (fun v3 ev3 => ?_)
  refine lv_istore_n (lv' := [(0, .int v3)]) hx hb dJ6_bitCount_0f7a4_9 rfl hl (by decide) rfl (fun ls hl => ?_)
  refine lv_iload_n hx hb dJ6_bitCount_0f7a4_10 rfl (lv_at hl 0 rfl) ?_
  refine lv_ldcw (v := 858993459) hx hb hown (hts _ (List.mem_cons_of_mem _ wd_544)) dJ6_bitCount_0f7a4_11 ?_
  refine lv_iand hx hb dJ6_bitCount_0f7a4_14 ?_
  refine lv_topi (fun v4 ev4 => ?_)
  refine lv_iload_n hx hb dJ6_bitCount_0f7a4_15 rfl (lv_at hl 0 rfl) ?_
  refine lv_iconst (v := 2) hx hb dJ6_bitCount_0f7a4_16 (by decide) ?_
  refine lv_iushr hx hb dJ6_bitCount_0f7a4_17 rfl ?_
  refine lv_topi (fun v5 ev5 => ?_)
  refine lv_ldcw (v := 858993459) hx hb hown (hts _ (List.mem_cons_of_mem _ wd_544)) dJ6_bitCount_0f7a4_18 ?_
  refine lv_iand hx hb dJ6_bitCount_0f7a4_21 ?_
  refine lv_topi (fun v6 ev6 => ?_)
  refine lv_iadd hx hb dJ6_bitCount_0f7a4_22 ?_
  refine lv_topi (fun v7 ev7 => ?_)
  refine lv_istore_n (lv' := [(0, .int v7)]) hx hb dJ6_bitCount_0f7a4_23 rfl hl (by decide) rfl (fun ls hl => ?_)
  refine lv_iload_n hx hb dJ6_bitCount_0f7a4_24 rfl (lv_at hl 0 rfl) ?_
  refine lv_iload_n hx hb dJ6_bitCount_0f7a4_25 rfl (lv_at hl 0 rfl) ?_
  refine lv_iconst (v := 4) hx hb dJ6_bitCount_0f7a4_26 (by decide) ?_
  refine lv_iushr hx hb dJ6_bitCount_0f7a4_27 rfl ?_
  refine lv_topi (fun v8 ev8 => ?_)
  refine lv_iadd hx hb dJ6_bitCount_0f7a4_28 ?_
  refine lv_topi (fun v9 ev9 => ?_)
  refine lv_ldcw (v := 252645135) hx hb hown (hts _ (List.mem_cons_of_mem _ wd_545)) dJ6_bitCount_0f7a4_29 ?_
  refine lv_iand hx hb dJ6_bitCount_0f7a4_32 ?_
  refine lv_topi (fun v10 ev10 => ?_)
  refine lv_istore_n (lv' := [(0, .int v10)]) hx hb dJ6_bitCount_0f7a4_33 rfl hl (by decide) rfl (fun ls hl => ?_)
  refine lv_iload_n hx hb dJ6_bitCount_0f7a4_34 rfl (lv_at hl 0 rfl) ?_
  refine lv_iload_n hx hb dJ6_bitCount_0f7a4_35 rfl (lv_at hl 0 rfl) ?_
  refine lv_bipush (v := 8) hx hb dJ6_bitCount_0f7a4_36 (by decide) ?_
  refine lv_iushr hx hb dJ6_bitCount_0f7a4_38 rfl ?_
  refine lv_topi (fun v11 ev11 => ?_)
  refine lv_iadd hx hb dJ6_bitCount_0f7a4_39 ?_
  refine lv_topi (fun v12 ev12 => ?_)
  refine lv_istore_n (lv' := [(0, .int v12)]) hx hb dJ6_bitCount_0f7a4_40 rfl hl (by decide) rfl (fun ls hl => ?_)
  refine lv_iload_n hx hb dJ6_bitCount_0f7a4_41 rfl (lv_at hl 0 rfl) ?_
  refine lv_iload_n hx hb dJ6_bitCount_0f7a4_42 rfl (lv_at hl 0 rfl) ?_
  refine lv_bipush (v := 16) hx hb dJ6_bitCount_0f7a4_43 (by decide) ?_
  refine lv_iushr hx hb dJ6_bitCount_0f7a4_45 rfl ?_
  refine lv_topi (fun v13 ev13 => ?_)
  refine lv_iadd hx hb dJ6_bitCount_0f7a4_46 ?_
  refine lv_topi (fun v14 ev14 => ?_)
  refine lv_istore_n (lv' := [(0, .int v14)]) hx hb dJ6_bitCount_0f7a4_47 rfl hl (by decide) rfl (fun ls hl => ?_)
  refine lv_iload_n hx hb dJ6_bitCount_0f7a4_48 rfl (lv_at hl 0 rfl) ?_
  refine lv_bipush (v := 63) hx hb dJ6_bitCount_0f7a4_49 (by decide) ?_
  refine lv_iand hx hb dJ6_bitCount_0f7a4_51 ?_
  refine lv_topi (fun v15 ev15 => ?_)
  refine k_iret (u := []) hx hb hr hlk hP hD hS dJ6_bitCount_0f7a4_52 ?_
  exact ⟨(by subst_vars; rfl), rfl⟩
theorem dX6_trueYields_0 : decode cX6_trueYields 0 = .ok (.aload_n 0, 1) := by decide +kernel
theorem dX6_trueYields_1 : decode cX6_trueYields 1 = .ok (.getfield 15, 3) := by decide +kernel
theorem dX6_trueYields_4 : decode cX6_trueYields 4 = .ok (.iload_n 1, 1) := by decide +kernel
theorem dX6_trueYields_5 : decode cX6_trueYields 5 = .ok (.iaload, 1) := by decide +kernel
theorem dX6_trueYields_6 : decode cX6_trueYields 6 = .ok (.aload_n 0, 1) := by decide +kernel
theorem dX6_trueYields_7 : decode cX6_trueYields 7 = .ok (.getfield 18, 3) := by decide +kernel
theorem dX6_trueYields_10 : decode cX6_trueYields 10 = .ok (.iload_n 1, 1) := by decide +kernel
theorem dX6_trueYields_11 : decode cX6_trueYields 11 = .ok (.iaload, 1) := by decide +kernel
theorem dX6_trueYields_12 : decode cX6_trueYields 12 = .ok (.iconst (-1), 1) := by decide +kernel
theorem dX6_trueYields_13 : decode cX6_trueYields 13 = .ok (.ixor, 1) := by decide +kernel
theorem dX6_trueYields_14 : decode cX6_trueYields 14 = .ok (.iand, 1) := by decide +kernel
theorem dX6_trueYields_15 : decode cX6_trueYields 15 = .ok (.ireturn, 1) := by decide +kernel
set_option maxHeartbeats 4000000 in
set_option maxRecDepth 100000 in
theorem m_X6_trueYields (l : Launch) (D : va_G) (cI cJ : ClassId) (sz : Nat) (s1 w0 w1 w2 w3 w4 w8 p0 wn lv : Nat) (wi6 : Int32) (W1 W2 : Nat → Int32) (hp : p0 < 8) : Met l yX6_trueYields wtX6_trueYields { frames := 0, cells := 0, slots := 0, locals := 0 } (cPc D cI cJ [.ref s1, .int (nI p0)] sz [(oX6 s1 w0 w1 w2 w3 w4 (nI wn) wi6 (nI lv) w8), (aIc cI w1 8 W1), (aIc cI w2 8 W2)]) (cQi D (fun r u => u = [(oX6 s1 w0 w1 w2 w3 w4 (nI wn) wi6 (nI lv) w8), (aIc cI w1 8 W1), (aIc cI w2 8 W2)]) (va_A [(oX6 s1 w0 w1 w2 w3 w4 (nI wn) wi6 (nI lv) w8), (aIc cI w1 8 W1), (aIc cI w2 8 W2)] sz)) 0 0 (va_A [(oX6 s1 w0 w1 w2 w3 w4 (nI wn) wi6 (nI lv) w8), (aIc cI w1 8 W1), (aIc cI w2 8 W2)] sz) := by
  refine k_ofW (Qc := cQi D (fun r u => u = [(oX6 s1 w0 w1 w2 w3 w4 (nI wn) wi6 (nI lv) w8), (aIc cI w1 8 W1), (aIc cI w2 8 W2)])) (by decide) rfl (Nat.le_of_ble_eq_true rfl) ?_
  intro p e s m below meth c A ls hx hb hr hml hts hown hlk hnm hsz hE hP hD hS hA hl
  have hown : s.vm.findClass RX6 = some m.cls := hown
  have hiX6 : ∀ w ∈ u_ws RX6 TX6 9, w ∈ wtX6_trueYields := fun w h => List.mem_cons_of_mem _ (iuX6 w h)
  have hl : lv_has ls 2 [(0, .ref s1), (1, .int (nI p0))] := hl
  refine lv_aload_n hx hb dX6_trueYields_0 rfl (lv_at hl 0 rfl) ?_
  refine va_get (D := D) (ci := 6) (v := .ref w1) (C := RX6) (T := TX6) (N := 9) hx hb hts hiX6 hown hE.1 hP 0 rfl rfl 1 (by decide) (hts _ (List.mem_cons_of_mem _ wd_80)) (fun _ h9 => h9) rfl dX6_trueYields_1 ?_
  refine lv_iload_n hx hb dX6_trueYields_4 rfl (lv_at hl 1 rfl) ?_
  refine va_iald hx hb hE.1 hP 1 0 rfl rfl (vp_in_nI (n := p0) (by omega) (by decide)) dX6_trueYields_5 ?_
  refine lv_topi (fun v1 ev1 => ?_)
  refine lv_aload_n hx hb dX6_trueYields_6 rfl (lv_at hl 0 rfl) ?_
  refine va_get (D := D) (ci := 6) (v := .ref w2) (C := RX6) (T := TX6) (N := 9) hx hb hts hiX6 hown hE.1 hP 0 rfl rfl 2 (by decide) (hts _ (List.mem_cons_of_mem _ wd_81)) (fun _ h9 => h9) rfl dX6_trueYields_7 ?_
  refine lv_iload_n hx hb dX6_trueYields_10 rfl (lv_at hl 1 rfl) ?_
  refine va_iald hx hb hE.1 hP 2 0 rfl rfl (vp_in_nI (n := p0) (by omega) (by decide)) dX6_trueYields_11 ?_
  refine lv_topi (fun v2 ev2 => ?_)
  refine lv_iconst (v := (-1)) hx hb dX6_trueYields_12 (by decide) ?_
  refine lv_ixor hx hb dX6_trueYields_13 ?_
  refine lv_topi (fun v3 ev3 => ?_)
  refine lv_iand hx hb dX6_trueYields_14 ?_
  refine lv_topi (fun v4 ev4 => ?_)
  refine k_iret (u := [(oX6 s1 w0 w1 w2 w3 w4 (nI wn) wi6 (nI lv) w8), (aIc cI w1 8 W1), (aIc cI w2 8 W2)]) hx hb hr hlk hP hD hS dX6_trueYields_15 ?_
  exact rfl
theorem dX6_findRings_0 : decode cX6_findRings 0 = .ok (.iconst 0, 1) := by decide +kernel
theorem dX6_findRings_1 : decode cX6_findRings 1 = .ok (.istore_n 1, 1) := by decide +kernel
theorem dX6_findRings_2 : decode cX6_findRings 2 = .ok (.iload_n 1, 1) := by decide +kernel
theorem dX6_findRings_3 : decode cX6_findRings 3 = .ok (.bipush 8, 2) := by decide +kernel
theorem dX6_findRings_5 : decode cX6_findRings 5 = .ok (.if_icmp .ge 60, 3) := by decide +kernel
theorem dX6_findRings_8 : decode cX6_findRings 8 = .ok (.iconst 0, 1) := by decide +kernel
theorem dX6_findRings_9 : decode cX6_findRings 9 = .ok (.istore_n 2, 1) := by decide +kernel
theorem dX6_findRings_10 : decode cX6_findRings 10 = .ok (.aload_n 0, 1) := by decide +kernel
theorem dX6_findRings_11 : decode cX6_findRings 11 = .ok (.getfield 27, 3) := by decide +kernel
theorem dX6_findRings_14 : decode cX6_findRings 14 = .ok (.iload_n 1, 1) := by decide +kernel
theorem dX6_findRings_15 : decode cX6_findRings 15 = .ok (.iaload, 1) := by decide +kernel
theorem dX6_findRings_16 : decode cX6_findRings 16 = .ok (.ifCond .eq 43, 3) := by decide +kernel
theorem dX6_findRings_19 : decode cX6_findRings 19 = .ok (.iload_n 2, 1) := by decide +kernel
theorem dX6_findRings_20 : decode cX6_findRings 20 = .ok (.bipush 8, 2) := by decide +kernel
theorem dX6_findRings_22 : decode cX6_findRings 22 = .ok (.if_icmp .ge 37, 3) := by decide +kernel
theorem dX6_findRings_25 : decode cX6_findRings 25 = .ok (.aload_n 0, 1) := by decide +kernel
theorem dX6_findRings_26 : decode cX6_findRings 26 = .ok (.getfield 27, 3) := by decide +kernel
theorem dX6_findRings_29 : decode cX6_findRings 29 = .ok (.iload_n 2, 1) := by decide +kernel
theorem dX6_findRings_30 : decode cX6_findRings 30 = .ok (.iaload, 1) := by decide +kernel
theorem dX6_findRings_31 : decode cX6_findRings 31 = .ok (.iload_n 1, 1) := by decide +kernel
theorem dX6_findRings_32 : decode cX6_findRings 32 = .ok (.invokestatic 34, 3) := by decide +kernel
theorem dX6_findRings_35 : decode cX6_findRings 35 = .ok (.ifCond .eq 18, 3) := by decide +kernel
theorem dX6_findRings_38 : decode cX6_findRings 38 = .ok (.aload_n 0, 1) := by decide +kernel
theorem dX6_findRings_39 : decode cX6_findRings 39 = .ok (.getfield 27, 3) := by decide +kernel
theorem dX6_findRings_42 : decode cX6_findRings 42 = .ok (.iload_n 2, 1) := by decide +kernel
theorem dX6_findRings_43 : decode cX6_findRings 43 = .ok (.dup2, 1) := by decide +kernel
theorem dX6_findRings_44 : decode cX6_findRings 44 = .ok (.iaload, 1) := by decide +kernel
theorem dX6_findRings_45 : decode cX6_findRings 45 = .ok (.aload_n 0, 1) := by decide +kernel
theorem dX6_findRings_46 : decode cX6_findRings 46 = .ok (.getfield 27, 3) := by decide +kernel
theorem dX6_findRings_49 : decode cX6_findRings 49 = .ok (.iload_n 1, 1) := by decide +kernel
theorem dX6_findRings_50 : decode cX6_findRings 50 = .ok (.iaload, 1) := by decide +kernel
theorem dX6_findRings_51 : decode cX6_findRings 51 = .ok (.ior, 1) := by decide +kernel
theorem dX6_findRings_52 : decode cX6_findRings 52 = .ok (.iastore, 1) := by decide +kernel
theorem dX6_findRings_53 : decode cX6_findRings 53 = .ok (.iinc 2 1, 3) := by decide +kernel
theorem dX6_findRings_56 : decode cX6_findRings 56 = .ok (.goto (-46), 3) := by decide +kernel
theorem dX6_findRings_59 : decode cX6_findRings 59 = .ok (.iinc 1 1, 3) := by decide +kernel
theorem dX6_findRings_62 : decode cX6_findRings 62 = .ok (.goto (-60), 3) := by decide +kernel
theorem dX6_findRings_65 : decode cX6_findRings 65 = .ok (.iconst 0, 1) := by decide +kernel
theorem dX6_findRings_66 : decode cX6_findRings 66 = .ok (.istore_n 1, 1) := by decide +kernel
theorem dX6_findRings_67 : decode cX6_findRings 67 = .ok (.iload_n 1, 1) := by decide +kernel
theorem dX6_findRings_68 : decode cX6_findRings 68 = .ok (.bipush 8, 2) := by decide +kernel
theorem dX6_findRings_70 : decode cX6_findRings 70 = .ok (.if_icmp .ge 83, 3) := by decide +kernel
theorem dX6_findRings_73 : decode cX6_findRings 73 = .ok (.aload_n 0, 1) := by decide +kernel
theorem dX6_findRings_74 : decode cX6_findRings 74 = .ok (.getfield 18, 3) := by decide +kernel
theorem dX6_findRings_77 : decode cX6_findRings 77 = .ok (.iload_n 1, 1) := by decide +kernel
theorem dX6_findRings_78 : decode cX6_findRings 78 = .ok (.iconst 0, 1) := by decide +kernel
theorem dX6_findRings_79 : decode cX6_findRings 79 = .ok (.iastore, 1) := by decide +kernel
theorem dX6_findRings_80 : decode cX6_findRings 80 = .ok (.aload_n 0, 1) := by decide +kernel
theorem dX6_findRings_81 : decode cX6_findRings 81 = .ok (.getfield 27, 3) := by decide +kernel
theorem dX6_findRings_84 : decode cX6_findRings 84 = .ok (.iload_n 1, 1) := by decide +kernel
theorem dX6_findRings_85 : decode cX6_findRings 85 = .ok (.iaload, 1) := by decide +kernel
theorem dX6_findRings_86 : decode cX6_findRings 86 = .ok (.iload_n 1, 1) := by decide +kernel
theorem dX6_findRings_87 : decode cX6_findRings 87 = .ok (.invokestatic 34, 3) := by decide +kernel
theorem dX6_findRings_90 : decode cX6_findRings 90 = .ok (.istore_n 2, 1) := by decide +kernel
theorem dX6_findRings_91 : decode cX6_findRings 91 = .ok (.iconst 0, 1) := by decide +kernel
theorem dX6_findRings_92 : decode cX6_findRings 92 = .ok (.istore_n 3, 1) := by decide +kernel
theorem dX6_findRings_93 : decode cX6_findRings 93 = .ok (.iload_n 2, 1) := by decide +kernel
theorem dX6_findRings_94 : decode cX6_findRings 94 = .ok (.ifCond .eq 53, 3) := by decide +kernel
theorem dX6_findRings_97 : decode cX6_findRings 97 = .ok (.iload_n 3, 1) := by decide +kernel
theorem dX6_findRings_98 : decode cX6_findRings 98 = .ok (.bipush 8, 2) := by decide +kernel
theorem dX6_findRings_100 : decode cX6_findRings 100 = .ok (.if_icmp .ge 47, 3) := by decide +kernel
theorem dX6_findRings_103 : decode cX6_findRings 103 = .ok (.aload_n 0, 1) := by decide +kernel
theorem dX6_findRings_104 : decode cX6_findRings 104 = .ok (.getfield 27, 3) := by decide +kernel
theorem dX6_findRings_107 : decode cX6_findRings 107 = .ok (.iload_n 1, 1) := by decide +kernel
theorem dX6_findRings_108 : decode cX6_findRings 108 = .ok (.iaload, 1) := by decide +kernel
theorem dX6_findRings_109 : decode cX6_findRings 109 = .ok (.iload_n 3, 1) := by decide +kernel
theorem dX6_findRings_110 : decode cX6_findRings 110 = .ok (.invokestatic 34, 3) := by decide +kernel
theorem dX6_findRings_113 : decode cX6_findRings 113 = .ok (.ifCond .eq 28, 3) := by decide +kernel
theorem dX6_findRings_116 : decode cX6_findRings 116 = .ok (.aload_n 0, 1) := by decide +kernel
theorem dX6_findRings_117 : decode cX6_findRings 117 = .ok (.getfield 27, 3) := by decide +kernel
theorem dX6_findRings_120 : decode cX6_findRings 120 = .ok (.iload_n 3, 1) := by decide +kernel
theorem dX6_findRings_121 : decode cX6_findRings 121 = .ok (.iaload, 1) := by decide +kernel
theorem dX6_findRings_122 : decode cX6_findRings 122 = .ok (.iload_n 1, 1) := by decide +kernel
theorem dX6_findRings_123 : decode cX6_findRings 123 = .ok (.invokestatic 34, 3) := by decide +kernel
theorem dX6_findRings_126 : decode cX6_findRings 126 = .ok (.ifCond .eq 15, 3) := by decide +kernel
theorem dX6_findRings_129 : decode cX6_findRings 129 = .ok (.aload_n 0, 1) := by decide +kernel
theorem dX6_findRings_130 : decode cX6_findRings 130 = .ok (.getfield 18, 3) := by decide +kernel
theorem dX6_findRings_133 : decode cX6_findRings 133 = .ok (.iload_n 1, 1) := by decide +kernel
theorem dX6_findRings_134 : decode cX6_findRings 134 = .ok (.dup2, 1) := by decide +kernel
theorem dX6_findRings_135 : decode cX6_findRings 135 = .ok (.iaload, 1) := by decide +kernel
theorem dX6_findRings_136 : decode cX6_findRings 136 = .ok (.iconst 1, 1) := by decide +kernel
theorem dX6_findRings_137 : decode cX6_findRings 137 = .ok (.iload_n 3, 1) := by decide +kernel
theorem dX6_findRings_138 : decode cX6_findRings 138 = .ok (.ishl, 1) := by decide +kernel
theorem dX6_findRings_139 : decode cX6_findRings 139 = .ok (.ior, 1) := by decide +kernel
theorem dX6_findRings_140 : decode cX6_findRings 140 = .ok (.iastore, 1) := by decide +kernel
theorem dX6_findRings_141 : decode cX6_findRings 141 = .ok (.iinc 3 1, 3) := by decide +kernel
theorem dX6_findRings_144 : decode cX6_findRings 144 = .ok (.goto (-51), 3) := by decide +kernel
theorem dX6_findRings_147 : decode cX6_findRings 147 = .ok (.iinc 1 1, 3) := by decide +kernel
theorem dX6_findRings_150 : decode cX6_findRings 150 = .ok (.goto (-83), 3) := by decide +kernel
theorem dX6_findRings_153 : decode cX6_findRings 153 = .ok (.return_, 1) := by decide +kernel
theorem gX6_findRings_X7_has_n34 : GoodIn wtX6_findRings (wtX7_has) := tb_good (tb_c0 wd_312)
set_option maxHeartbeats 4000000 in
set_option maxRecDepth 100000 in
theorem m_X6_findRings (l : Launch) (D : va_G) (cI cJ : ClassId) (sz : Nat) (s1 w0 w1 w2 w3 w4 w8 wn lv : Nat) (wi6 : Int32) (W2 W8 : Nat → Int32) : Met l yX6_findRings wtX6_findRings { frames := 1, cells := 0, slots := 0, locals := 21 } (cPc D cI cJ [.ref s1] sz [(oX6 s1 w0 w1 w2 w3 w4 (nI wn) wi6 (nI lv) w8), (aIc cI w2 8 W2), (aIc cI w8 8 W8)]) (cQv D (fun u => ∃ (W2p W8p : Nat → Int32), u = [(oX6 s1 w0 w1 w2 w3 w4 (nI wn) wi6 (nI lv) w8), (aIc cI w2 8 W2p), (aIc cI w8 8 W8p)]) (va_A [(oX6 s1 w0 w1 w2 w3 w4 (nI wn) wi6 (nI lv) w8), (aIc cI w2 8 W2), (aIc cI w8 8 W8)] sz)) 0 0 (va_A [(oX6 s1 w0 w1 w2 w3 w4 (nI wn) wi6 (nI lv) w8), (aIc cI w2 8 W2), (aIc cI w8 8 W8)] sz) := by
  refine k_ofW (Qc := cQv D (fun u => ∃ (W2p W8p : Nat → Int32), u = [(oX6 s1 w0 w1 w2 w3 w4 (nI wn) wi6 (nI lv) w8), (aIc cI w2 8 W2p), (aIc cI w8 8 W8p)])) (by decide) rfl (Nat.le_of_ble_eq_true rfl) ?_
  intro p e s m below meth c A ls hx hb hr hml hts hown hlk hnm hsz hE hP hD hS hA hl
  have hown : s.vm.findClass RX6 = some m.cls := hown
  have hiX6 : ∀ w ∈ u_ws RX6 TX6 9, w ∈ wtX6_findRings := fun w h => List.mem_cons_of_mem _ (iuX6 w h)
  have hl : lv_has ls 4 [(0, .ref s1)] := hl
  refine lv_iconst (v := 0) hx hb dX6_findRings_0 (by decide) ?_
  refine lv_istore_n (lv' := [(1, .int 0), (0, .ref s1)]) hx hb dX6_findRings_1 rfl hl (by decide) rfl (fun ls hl => ?_)
  have J2 : ∀ (zz : Nat) (i2 : Nat) (a_w2_2 a_w8_2 : Nat → Int32), (i2 ≤ 8) → (8 - i2) < zz → ∀ (H : Heap) (locs : List Loc) (ls : Array Slot), va_P D vwCl [(oX6 s1 w0 w1 w2 w3 w4 (nI wn) wi6 (nI lv) w8), (aIc cI w2 8 a_w2_2), (aIc cI w8 8 a_w8_2)] H → va_D A [(oX6 s1 w0 w1 w2 w3 w4 (nI wn) wi6 (nI lv) w8), (aIc cI w2 8 a_w2_2), (aIc cI w8 8 a_w8_2)] → va_S A s.heap H locs → lv_has ls 4 [(1, .int (nI i2)), (0, .ref s1)] → W p l e { frames := 1, cells := 0, slots := 0, locals := 21 } s m [.ref s1].toArray below meth c H locs 0 0 (MQ below (cQv D (fun u => ∃ (W2p W8p : Nat → Int32), u = [(oX6 s1 w0 w1 w2 w3 w4 (nI wn) wi6 (nI lv) w8), (aIc cI w2 8 W2p), (aIc cI w8 8 W8p)]) A) [.ref s1].toArray s 0 0 A) (F0 m 2 ls []) := by
    intro zz
    induction zz with
    | zero => intro i2 a_w2_2 a_w8_2 _; exact fun h => absurd h (Nat.not_lt_zero _)
    | succ zz ih2 =>
      intro i2 a_w2_2 a_w8_2 hc1_2 hmu2 H locs ls hP hD hS hl
      refine lv_iload_n hx hb dX6_findRings_2 rfl (lv_at hl 0 rfl) ?_
      refine lv_bipush (v := 8) hx hb dX6_findRings_3 (by decide) ?_
      refine lv_icmp_ge (tgt := 65) hx hb dX6_findRings_5 (by decide) (fun c1 => ?_) (fun c1 => ?_)
      · skip
        have nc1 : 8 ≤ i2 := (nI_leI (a := 8) (b := i2) (by omega) (by omega)).mp c1
        refine lv_iconst (v := 0) hx hb dX6_findRings_65 (by decide) ?_
        refine lv_istore_n (lv' := [(1, .int 0), (0, .ref s1)]) hx hb dX6_findRings_66 rfl hl (by decide) rfl (fun ls hl => ?_)
        have J67 : ∀ (zz : Nat) (i67 : Nat) (a_w2_67 a_w8_67 : Nat → Int32), (i67 ≤ 8) → (8 - i67) < zz → ∀ (H : Heap) (locs : List Loc) (ls : Array Slot), va_P D vwCl [(oX6 s1 w0 w1 w2 w3 w4 (nI wn) wi6 (nI lv) w8), (aIc cI w2 8 a_w2_67), (aIc cI w8 8 a_w8_67)] H → va_D A [(oX6 s1 w0 w1 w2 w3 w4 (nI wn) wi6 (nI lv) w8), (aIc cI w2 8 a_w2_67), (aIc cI w8 8 a_w8_67)] → va_S A s.heap H locs → lv_has ls 4 [(1, .int (nI i67)), (0, .ref s1)] → W p l e { frames := 1, cells := 0, slots := 0, locals := 21 } s m [.ref s1].toArray below meth c H locs 0 0 (MQ below (cQv D (fun u => ∃ (W2p W8p : Nat → Int32), u = [(oX6 s1 w0 w1 w2 w3 w4 (nI wn) wi6 (nI lv) w8), (aIc cI w2 8 W2p), (aIc cI w8 8 W8p)]) A) [.ref s1].toArray s 0 0 A) (F0 m 67 ls []) := by
          intro zz
          induction zz with
          | zero => intro i67 a_w2_67 a_w8_67 _; exact fun h => absurd h (Nat.not_lt_zero _)
          | succ zz ih67 =>
            intro i67 a_w2_67 a_w8_67 hc1_67 hmu67 H locs ls hP hD hS hl
            refine lv_iload_n hx hb dX6_findRings_67 rfl (lv_at hl 0 rfl) ?_
            refine lv_bipush (v := 8) hx hb dX6_findRings_68 (by decide) ?_
            refine lv_icmp_ge (tgt := 153) hx hb dX6_findRings_70 (by decide) (fun c2 => ?_) (fun c2 => ?_)
            · skip
              have nc2 : 8 ≤ i67 := (nI_leI (a := 8) (b := i67) (by omega) (by omega)).mp c2
              refine k_vret (u := [(oX6 s1 w0 w1 w2 w3 w4 (nI wn) wi6 (nI lv) w8), (aIc cI w2 8 a_w2_67), (aIc cI w8 8 a_w8_67)]) hx hb hr hlk hP hD hS dX6_findRings_153 ?_
              exact ⟨a_w2_67, a_w8_67, rfl⟩
            · skip
              have nc2 : ¬ 8 ≤ i67 := fun q9 => c2 ((nI_leI (a := 8) (b := i67) (by omega) (by omega)).mpr q9)
              refine lv_aload_n hx hb dX6_findRings_73 rfl (lv_at hl 1 rfl) ?_
              refine va_get (D := D) (ci := 6) (v := .ref w2) (C := RX6) (T := TX6) (N := 9) hx hb hts hiX6 hown hE.1 hP 0 rfl rfl 2 (by decide) (hts _ (List.mem_cons_of_mem _ wd_81)) (fun _ h9 => h9) rfl dX6_findRings_74 ?_
              refine lv_iload_n hx hb dX6_findRings_77 rfl (lv_at hl 0 rfl) ?_
              refine lv_iconst (v := 0) hx hb dX6_findRings_78 (by decide) ?_
              refine va_iast hx hb hE.1 hP hD hS 1 0 rfl rfl (vp_in_nI (n := i67) (by omega) (by decide)) dX6_findRings_79 (fun H locs hP hD hS => ?_)
              refine k_re (w := [(oX6 s1 w0 w1 w2 w3 w4 (nI wn) wi6 (nI lv) w8), (aIc cI w2 8 (upd a_w2_67 (Int32.toNatClampNeg (nI i67)) 0)), (aIc cI w8 8 a_w8_67)]) hP hD (fun hP hD => ?_)
              refine lv_aload_n hx hb dX6_findRings_80 rfl (lv_at hl 1 rfl) ?_
              refine va_get (D := D) (ci := 6) (v := .ref w8) (C := RX6) (T := TX6) (N := 9) hx hb hts hiX6 hown hE.1 hP 0 rfl rfl 8 (by decide) (hts _ (List.mem_cons_of_mem _ wd_84)) (fun _ h9 => h9) rfl dX6_findRings_81 ?_
              refine lv_iload_n hx hb dX6_findRings_84 rfl (lv_at hl 0 rfl) ?_
              refine va_iald hx hb hE.1 hP 2 0 rfl rfl (vp_in_nI (n := i67) (by omega) (by decide)) dX6_findRings_85 ?_
              refine lv_topi (fun v3 ev3 => ?_)
              refine lv_iload_n hx hb dX6_findRings_86 rfl (lv_at hl 0 rfl) ?_
              refine k_iS (va_runSN (As := [.int v3, .int (nI i67)]) (rest := []) ⟨hx, hb, hml, hown, hts⟩ (m_X7_has l D cI cJ H.size v3 (nI i67)) ⟨va_cnB 2 hts gX6_findRings_X7_has_n34 rfl rfl rfl (nwk6 hE.2) (hts _ (List.mem_cons_of_mem _ wd_2)) (by decide +kernel) ⟨Nat.le_of_ble_eq_true rfl, Nat.le_of_ble_eq_true rfl⟩, (hts _ (List.mem_cons_of_mem _ wd_311)), trivial⟩ (k_pre hE hP hD [] (by decide +kernel) rfl) rfl rfl hl.1 rfl (lv_room (Nat.le_of_ble_eq_true rfl)) dX6_findRings_87 ⟨Nat.le_of_ble_eq_true rfl, Nat.le_of_ble_eq_true rfl⟩) hP hD hS hA [] rfl (fun _ _ h9 => h9.2) (fun r4 H locs hw5 hP hD hS => ?_)
              obtain ⟨hw5, -⟩ := hw5
              refine lv_istore_n (lv' := [(2, .int r4), (1, .int (nI i67)), (0, .ref s1)]) hx hb dX6_findRings_90 rfl hl (by decide) rfl (fun ls hl => ?_)
              refine lv_iconst (v := 0) hx hb dX6_findRings_91 (by decide) ?_
              refine lv_istore_n (lv' := [(3, .int 0), (2, .int r4), (1, .int (nI i67)), (0, .ref s1)]) hx hb dX6_findRings_92 rfl hl (by decide) rfl (fun ls hl => ?_)
              have J93 : ∀ (zz : Nat) (j93 : Nat) (a_w2_93 a_w8_93 : Nat → Int32), (j93 ≤ 8) → (8 - j93) < zz → ∀ (H : Heap) (locs : List Loc) (ls : Array Slot), va_P D vwCl [(oX6 s1 w0 w1 w2 w3 w4 (nI wn) wi6 (nI lv) w8), (aIc cI w2 8 a_w2_93), (aIc cI w8 8 a_w8_93)] H → va_D A [(oX6 s1 w0 w1 w2 w3 w4 (nI wn) wi6 (nI lv) w8), (aIc cI w2 8 a_w2_93), (aIc cI w8 8 a_w8_93)] → va_S A s.heap H locs → lv_has ls 4 [(3, .int (nI j93)), (2, .int r4), (1, .int (nI i67)), (0, .ref s1)] → W p l e { frames := 1, cells := 0, slots := 0, locals := 21 } s m [.ref s1].toArray below meth c H locs 0 0 (MQ below (cQv D (fun u => ∃ (W2p W8p : Nat → Int32), u = [(oX6 s1 w0 w1 w2 w3 w4 (nI wn) wi6 (nI lv) w8), (aIc cI w2 8 W2p), (aIc cI w8 8 W8p)]) A) [.ref s1].toArray s 0 0 A) (F0 m 93 ls []) := by
                intro zz
                induction zz with
                | zero => intro j93 a_w2_93 a_w8_93 _; exact fun h => absurd h (Nat.not_lt_zero _)
                | succ zz ih93 =>
                  intro j93 a_w2_93 a_w8_93 hc3_93 hmu93 H locs ls hP hD hS hl
                  refine lv_iload_n hx hb dX6_findRings_93 rfl (lv_at hl 1 rfl) ?_
                  refine lv_if_eq (tgt := 147) hx hb dX6_findRings_94 (by decide) (fun c6 => ?_) (fun c6 => ?_)
                  · skip
                    have hc6 : ¬ (¬ (v3 >>> ((nI i67) &&& 31)) &&& 1 = 0) := bz_0 hw5 c6
                    refine lv_iinc (v := (nI (i67 + 1))) (lv' := [(1, .int (nI (i67 + 1))), (3, .int (nI j93)), (2, .int r4), (0, .ref s1)]) hx hb dX6_findRings_147 hl (k := 2) rfl (nI_1 _) (by decide) rfl (fun ls hl => ?_)
                    refine lv_goto (tgt := 67) hx hb dX6_findRings_150 (by decide) ?_
                    exact ih67 (i67 + 1) a_w2_93 a_w8_93 (by omega) (by omega) _ _ _ hP hD hS (lv_sub hl [0, 3] rfl)
                  · skip
                    have hc6 : ¬ (v3 >>> ((nI i67) &&& 31)) &&& 1 = 0 := bz_1 hw5 c6
                    refine lv_iload_n hx hb dX6_findRings_97 rfl (lv_at hl 0 rfl) ?_
                    refine lv_bipush (v := 8) hx hb dX6_findRings_98 (by decide) ?_
                    refine lv_icmp_ge (tgt := 147) hx hb dX6_findRings_100 (by decide) (fun c7 => ?_) (fun c7 => ?_)
                    · skip
                      have nc7 : 8 ≤ j93 := (nI_leI (a := 8) (b := j93) (by omega) (by omega)).mp c7
                      refine lv_iinc (v := (nI (i67 + 1))) (lv' := [(1, .int (nI (i67 + 1))), (3, .int (nI j93)), (2, .int r4), (0, .ref s1)]) hx hb dX6_findRings_147 hl (k := 2) rfl (nI_1 _) (by decide) rfl (fun ls hl => ?_)
                      refine lv_goto (tgt := 67) hx hb dX6_findRings_150 (by decide) ?_
                      exact ih67 (i67 + 1) a_w2_93 a_w8_93 (by omega) (by omega) _ _ _ hP hD hS (lv_sub hl [0, 3] rfl)
                    · skip
                      have nc7 : ¬ 8 ≤ j93 := fun q9 => c7 ((nI_leI (a := 8) (b := j93) (by omega) (by omega)).mpr q9)
                      refine lv_aload_n hx hb dX6_findRings_103 rfl (lv_at hl 3 rfl) ?_
                      refine va_get (D := D) (ci := 6) (v := .ref w8) (C := RX6) (T := TX6) (N := 9) hx hb hts hiX6 hown hE.1 hP 0 rfl rfl 8 (by decide) (hts _ (List.mem_cons_of_mem _ wd_84)) (fun _ h9 => h9) rfl dX6_findRings_104 ?_
                      refine lv_iload_n hx hb dX6_findRings_107 rfl (lv_at hl 2 rfl) ?_
                      refine va_iald hx hb hE.1 hP 2 0 rfl rfl (vp_in_nI (n := i67) (by omega) (by decide)) dX6_findRings_108 ?_
                      refine lv_topi (fun v8 ev8 => ?_)
                      refine lv_iload_n hx hb dX6_findRings_109 rfl (lv_at hl 0 rfl) ?_
                      refine k_iS (va_runSN (As := [.int v8, .int (nI j93)]) (rest := []) ⟨hx, hb, hml, hown, hts⟩ (m_X7_has l D cI cJ H.size v8 (nI j93)) ⟨va_cnB 2 hts gX6_findRings_X7_has_n34 rfl rfl rfl (nwk6 hE.2) (hts _ (List.mem_cons_of_mem _ wd_2)) (by decide +kernel) ⟨Nat.le_of_ble_eq_true rfl, Nat.le_of_ble_eq_true rfl⟩, (hts _ (List.mem_cons_of_mem _ wd_311)), trivial⟩ (k_pre hE hP hD [] (by decide +kernel) rfl) rfl rfl hl.1 rfl (lv_room (Nat.le_of_ble_eq_true rfl)) dX6_findRings_110 ⟨Nat.le_of_ble_eq_true rfl, Nat.le_of_ble_eq_true rfl⟩) hP hD hS hA [] rfl (fun _ _ h9 => h9.2) (fun r9 H locs hw10 hP hD hS => ?_)
                      obtain ⟨hw10, -⟩ := hw10
                      refine lv_if_eq (tgt := 141) hx hb dX6_findRings_113 (by decide) (fun c11 => ?_) (fun c11 => ?_)
                      · skip
                        have hc11 : ¬ (¬ (v8 >>> ((nI j93) &&& 31)) &&& 1 = 0) := bz_0 hw10 c11
                        refine lv_iinc (v := (nI (j93 + 1))) (lv' := [(3, .int (nI (j93 + 1))), (2, .int r4), (1, .int (nI i67)), (0, .ref s1)]) hx hb dX6_findRings_141 hl (k := 0) rfl (nI_1 _) (by decide) rfl (fun ls hl => ?_)
                        refine lv_goto (tgt := 93) hx hb dX6_findRings_144 (by decide) ?_
                        exact ih93 (j93 + 1) a_w2_93 a_w8_93 (by omega) (by omega) _ _ _ hP hD hS (lv_sub hl [0, 1, 2, 3] rfl)
                      · skip
                        have hc11 : ¬ (v8 >>> ((nI j93) &&& 31)) &&& 1 = 0 := bz_1 hw10 c11
                        refine lv_aload_n hx hb dX6_findRings_116 rfl (lv_at hl 3 rfl) ?_
                        refine va_get (D := D) (ci := 6) (v := .ref w8) (C := RX6) (T := TX6) (N := 9) hx hb hts hiX6 hown hE.1 hP 0 rfl rfl 8 (by decide) (hts _ (List.mem_cons_of_mem _ wd_84)) (fun _ h9 => h9) rfl dX6_findRings_117 ?_
                        refine lv_iload_n hx hb dX6_findRings_120 rfl (lv_at hl 0 rfl) ?_
                        refine va_iald hx hb hE.1 hP 2 0 rfl rfl (vp_in_nI (n := j93) (by omega) (by decide)) dX6_findRings_121 ?_
                        refine lv_topi (fun v12 ev12 => ?_)
                        refine lv_iload_n hx hb dX6_findRings_122 rfl (lv_at hl 2 rfl) ?_
                        refine k_iS (va_runSN (As := [.int v12, .int (nI i67)]) (rest := []) ⟨hx, hb, hml, hown, hts⟩ (m_X7_has l D cI cJ H.size v12 (nI i67)) ⟨va_cnB 2 hts gX6_findRings_X7_has_n34 rfl rfl rfl (nwk6 hE.2) (hts _ (List.mem_cons_of_mem _ wd_2)) (by decide +kernel) ⟨Nat.le_of_ble_eq_true rfl, Nat.le_of_ble_eq_true rfl⟩, (hts _ (List.mem_cons_of_mem _ wd_311)), trivial⟩ (k_pre hE hP hD [] (by decide +kernel) rfl) rfl rfl hl.1 rfl (lv_room (Nat.le_of_ble_eq_true rfl)) dX6_findRings_123 ⟨Nat.le_of_ble_eq_true rfl, Nat.le_of_ble_eq_true rfl⟩) hP hD hS hA [] rfl (fun _ _ h9 => h9.2) (fun r13 H locs hw14 hP hD hS => ?_)
                        obtain ⟨hw14, -⟩ := hw14
                        refine lv_if_eq (tgt := 141) hx hb dX6_findRings_126 (by decide) (fun c15 => ?_) (fun c15 => ?_)
                        · skip
                          have hc15 : ¬ (¬ (v12 >>> ((nI i67) &&& 31)) &&& 1 = 0) := bz_0 hw14 c15
                          refine lv_iinc (v := (nI (j93 + 1))) (lv' := [(3, .int (nI (j93 + 1))), (2, .int r4), (1, .int (nI i67)), (0, .ref s1)]) hx hb dX6_findRings_141 hl (k := 0) rfl (nI_1 _) (by decide) rfl (fun ls hl => ?_)
                          refine lv_goto (tgt := 93) hx hb dX6_findRings_144 (by decide) ?_
                          exact ih93 (j93 + 1) a_w2_93 a_w8_93 (by omega) (by omega) _ _ _ hP hD hS (lv_sub hl [0, 1, 2, 3] rfl)
                        · skip
                          have hc15 : ¬ (v12 >>> ((nI i67) &&& 31)) &&& 1 = 0 := bz_1 hw14 c15
                          refine lv_aload_n hx hb dX6_findRings_129 rfl (lv_at hl 3 rfl) ?_
                          refine va_get (D := D) (ci := 6) (v := .ref w2) (C := RX6) (T := TX6) (N := 9) hx hb hts hiX6 hown hE.1 hP 0 rfl rfl 2 (by decide) (hts _ (List.mem_cons_of_mem _ wd_81)) (fun _ h9 => h9) rfl dX6_findRings_130 ?_
                          refine lv_iload_n hx hb dX6_findRings_133 rfl (lv_at hl 2 rfl) ?_
                          refine lv_dup2_11 hx hb dX6_findRings_134 rfl rfl ?_
                          refine va_iald hx hb hE.1 hP 1 0 rfl rfl (vp_in_nI (n := i67) (by omega) (by decide)) dX6_findRings_135 ?_
                          refine lv_topi (fun v16 ev16 => ?_)
                          refine lv_iconst (v := 1) hx hb dX6_findRings_136 (by decide) ?_
                          refine lv_iload_n hx hb dX6_findRings_137 rfl (lv_at hl 0 rfl) ?_
                          refine lv_ishl hx hb dX6_findRings_138 ?_
                          refine lv_topi (fun v17 ev17 => ?_)
                          refine lv_ior hx hb dX6_findRings_139 ?_
                          refine lv_topi (fun v18 ev18 => ?_)
                          refine va_iast hx hb hE.1 hP hD hS 1 0 rfl rfl (vp_in_nI (n := i67) (by omega) (by decide)) dX6_findRings_140 (fun H locs hP hD hS => ?_)
                          refine k_re (w := [(oX6 s1 w0 w1 w2 w3 w4 (nI wn) wi6 (nI lv) w8), (aIc cI w2 8 (upd a_w2_93 (Int32.toNatClampNeg (nI i67)) v18)), (aIc cI w8 8 a_w8_93)]) hP hD (fun hP hD => ?_)
                          refine lv_iinc (v := (nI (j93 + 1))) (lv' := [(3, .int (nI (j93 + 1))), (2, .int r4), (1, .int (nI i67)), (0, .ref s1)]) hx hb dX6_findRings_141 hl (k := 0) rfl (nI_1 _) (by decide) rfl (fun ls hl => ?_)
                          refine lv_goto (tgt := 93) hx hb dX6_findRings_144 (by decide) ?_
                          exact ih93 (j93 + 1) (upd a_w2_93 (Int32.toNatClampNeg (nI i67)) v18) a_w8_93 (by omega) (by omega) _ _ _ hP hD hS (lv_sub hl [0, 1, 2, 3] rfl)
              exact J93 _ 0 (upd a_w2_67 (Int32.toNatClampNeg (nI i67)) 0) a_w8_67 (by omega) (Nat.lt_succ_self _) _ _ _ hP hD hS (lv_sub hl [0, 1, 2, 3] rfl)
        exact J67 _ 0 a_w2_2 a_w8_2 (by omega) (Nat.lt_succ_self _) _ _ _ hP hD hS (lv_sub hl [0, 1] rfl)
      · skip
        have nc1 : ¬ 8 ≤ i2 := fun q9 => c1 ((nI_leI (a := 8) (b := i2) (by omega) (by omega)).mpr q9)
        refine lv_iconst (v := 0) hx hb dX6_findRings_8 (by decide) ?_
        refine lv_istore_n (lv' := [(2, .int 0), (1, .int (nI i2)), (0, .ref s1)]) hx hb dX6_findRings_9 rfl hl (by decide) rfl (fun ls hl => ?_)
        have J10 : ∀ (zz : Nat) (j10 : Nat) (a_w2_10 a_w8_10 : Nat → Int32), (j10 ≤ 8) → (8 - j10) < zz → ∀ (H : Heap) (locs : List Loc) (ls : Array Slot), va_P D vwCl [(oX6 s1 w0 w1 w2 w3 w4 (nI wn) wi6 (nI lv) w8), (aIc cI w2 8 a_w2_10), (aIc cI w8 8 a_w8_10)] H → va_D A [(oX6 s1 w0 w1 w2 w3 w4 (nI wn) wi6 (nI lv) w8), (aIc cI w2 8 a_w2_10), (aIc cI w8 8 a_w8_10)] → va_S A s.heap H locs → lv_has ls 4 [(2, .int (nI j10)), (1, .int (nI i2)), (0, .ref s1)] → W p l e { frames := 1, cells := 0, slots := 0, locals := 21 } s m [.ref s1].toArray below meth c H locs 0 0 (MQ below (cQv D (fun u => ∃ (W2p W8p : Nat → Int32), u = [(oX6 s1 w0 w1 w2 w3 w4 (nI wn) wi6 (nI lv) w8), (aIc cI w2 8 W2p), (aIc cI w8 8 W8p)]) A) [.ref s1].toArray s 0 0 A) (F0 m 10 ls []) := by
          intro zz
          induction zz with
          | zero => intro j10 a_w2_10 a_w8_10 _; exact fun h => absurd h (Nat.not_lt_zero _)
          | succ zz ih10 =>
            intro j10 a_w2_10 a_w8_10 hc2_10 hmu10 H locs ls hP hD hS hl
            refine lv_aload_n hx hb dX6_findRings_10 rfl (lv_at hl 2 rfl) ?_
            refine va_get (D := D) (ci := 6) (v := .ref w8) (C := RX6) (T := TX6) (N := 9) hx hb hts hiX6 hown hE.1 hP 0 rfl rfl 8 (by decide) (hts _ (List.mem_cons_of_mem _ wd_84)) (fun _ h9 => h9) rfl dX6_findRings_11 ?_
            refine lv_iload_n hx hb dX6_findRings_14 rfl (lv_at hl 1 rfl) ?_
            refine va_iald hx hb hE.1 hP 2 0 rfl rfl (vp_in_nI (n := i2) (by omega) (by decide)) dX6_findRings_15 ?_
            refine lv_topi (fun v19 ev19 => ?_)
            refine lv_if_eq (tgt := 59) hx hb dX6_findRings_16 (by decide) (fun c20 => ?_) (fun c20 => ?_)
            · skip
              refine lv_iinc (v := (nI (i2 + 1))) (lv' := [(1, .int (nI (i2 + 1))), (2, .int (nI j10)), (0, .ref s1)]) hx hb dX6_findRings_59 hl (k := 1) rfl (nI_1 _) (by decide) rfl (fun ls hl => ?_)
              refine lv_goto (tgt := 2) hx hb dX6_findRings_62 (by decide) ?_
              exact ih2 (i2 + 1) a_w2_10 a_w8_10 (by omega) (by omega) _ _ _ hP hD hS (lv_sub hl [0, 2] rfl)
            · skip
              refine lv_iload_n hx hb dX6_findRings_19 rfl (lv_at hl 0 rfl) ?_
              refine lv_bipush (v := 8) hx hb dX6_findRings_20 (by decide) ?_
              refine lv_icmp_ge (tgt := 59) hx hb dX6_findRings_22 (by decide) (fun c21 => ?_) (fun c21 => ?_)
              · skip
                have nc21 : 8 ≤ j10 := (nI_leI (a := 8) (b := j10) (by omega) (by omega)).mp c21
                refine lv_iinc (v := (nI (i2 + 1))) (lv' := [(1, .int (nI (i2 + 1))), (2, .int (nI j10)), (0, .ref s1)]) hx hb dX6_findRings_59 hl (k := 1) rfl (nI_1 _) (by decide) rfl (fun ls hl => ?_)
                refine lv_goto (tgt := 2) hx hb dX6_findRings_62 (by decide) ?_
                exact ih2 (i2 + 1) a_w2_10 a_w8_10 (by omega) (by omega) _ _ _ hP hD hS (lv_sub hl [0, 2] rfl)
              · skip
                have nc21 : ¬ 8 ≤ j10 := fun q9 => c21 ((nI_leI (a := 8) (b := j10) (by omega) (by omega)).mpr q9)
                refine lv_aload_n hx hb dX6_findRings_25 rfl (lv_at hl 2 rfl) ?_
                refine va_get (D := D) (ci := 6) (v := .ref w8) (C := RX6) (T := TX6) (N := 9) hx hb hts hiX6 hown hE.1 hP 0 rfl rfl 8 (by decide) (hts _ (List.mem_cons_of_mem _ wd_84)) (fun _ h9 => h9) rfl dX6_findRings_26 ?_
                refine lv_iload_n hx hb dX6_findRings_29 rfl (lv_at hl 0 rfl) ?_
                refine va_iald hx hb hE.1 hP 2 0 rfl rfl (vp_in_nI (n := j10) (by omega) (by decide)) dX6_findRings_30 ?_
                refine lv_topi (fun v22 ev22 => ?_)
                refine lv_iload_n hx hb dX6_findRings_31 rfl (lv_at hl 1 rfl) ?_
                refine k_iS (va_runSN (As := [.int v22, .int (nI i2)]) (rest := []) ⟨hx, hb, hml, hown, hts⟩ (m_X7_has l D cI cJ H.size v22 (nI i2)) ⟨va_cnB 2 hts gX6_findRings_X7_has_n34 rfl rfl rfl (nwk6 hE.2) (hts _ (List.mem_cons_of_mem _ wd_2)) (by decide +kernel) ⟨Nat.le_of_ble_eq_true rfl, Nat.le_of_ble_eq_true rfl⟩, (hts _ (List.mem_cons_of_mem _ wd_311)), trivial⟩ (k_pre hE hP hD [] (by decide +kernel) rfl) rfl rfl hl.1 rfl (lv_room (Nat.le_of_ble_eq_true rfl)) dX6_findRings_32 ⟨Nat.le_of_ble_eq_true rfl, Nat.le_of_ble_eq_true rfl⟩) hP hD hS hA [] rfl (fun _ _ h9 => h9.2) (fun r23 H locs hw24 hP hD hS => ?_)
                obtain ⟨hw24, -⟩ := hw24
                refine lv_if_eq (tgt := 53) hx hb dX6_findRings_35 (by decide) (fun c25 => ?_) (fun c25 => ?_)
                · skip
                  have hc25 : ¬ (¬ (v22 >>> ((nI i2) &&& 31)) &&& 1 = 0) := bz_0 hw24 c25
                  refine lv_iinc (v := (nI (j10 + 1))) (lv' := [(2, .int (nI (j10 + 1))), (1, .int (nI i2)), (0, .ref s1)]) hx hb dX6_findRings_53 hl (k := 0) rfl (nI_1 _) (by decide) rfl (fun ls hl => ?_)
                  refine lv_goto (tgt := 10) hx hb dX6_findRings_56 (by decide) ?_
                  exact ih10 (j10 + 1) a_w2_10 a_w8_10 (by omega) (by omega) _ _ _ hP hD hS (lv_sub hl [0, 1, 2] rfl)
                · skip
                  have hc25 : ¬ (v22 >>> ((nI i2) &&& 31)) &&& 1 = 0 := bz_1 hw24 c25
                  refine lv_aload_n hx hb dX6_findRings_38 rfl (lv_at hl 2 rfl) ?_
                  refine va_get (D := D) (ci := 6) (v := .ref w8) (C := RX6) (T := TX6) (N := 9) hx hb hts hiX6 hown hE.1 hP 0 rfl rfl 8 (by decide) (hts _ (List.mem_cons_of_mem _ wd_84)) (fun _ h9 => h9) rfl dX6_findRings_39 ?_
                  refine lv_iload_n hx hb dX6_findRings_42 rfl (lv_at hl 0 rfl) ?_
                  refine lv_dup2_11 hx hb dX6_findRings_43 rfl rfl ?_
                  refine va_iald hx hb hE.1 hP 2 0 rfl rfl (vp_in_nI (n := j10) (by omega) (by decide)) dX6_findRings_44 ?_
                  refine lv_topi (fun v26 ev26 => ?_)
                  refine lv_aload_n hx hb dX6_findRings_45 rfl (lv_at hl 2 rfl) ?_
                  refine va_get (D := D) (ci := 6) (v := .ref w8) (C := RX6) (T := TX6) (N := 9) hx hb hts hiX6 hown hE.1 hP 0 rfl rfl 8 (by decide) (hts _ (List.mem_cons_of_mem _ wd_84)) (fun _ h9 => h9) rfl dX6_findRings_46 ?_
                  refine lv_iload_n hx hb dX6_findRings_49 rfl (lv_at hl 1 rfl) ?_
                  refine va_iald hx hb hE.1 hP 2 0 rfl rfl (vp_in_nI (n := i2) (by omega) (by decide)) dX6_findRings_50 ?_
                  refine lv_topi (fun v27 ev27 => ?_)
                  refine lv_ior hx hb dX6_findRings_51 ?_
                  refine lv_topi (fun v28 ev28 => ?_)
                  refine va_iast hx hb hE.1 hP hD hS 2 0 rfl rfl (vp_in_nI (n := j10) (by omega) (by decide)) dX6_findRings_52 (fun H locs hP hD hS => ?_)
                  refine k_re (w := [(oX6 s1 w0 w1 w2 w3 w4 (nI wn) wi6 (nI lv) w8), (aIc cI w2 8 a_w2_10), (aIc cI w8 8 (upd a_w8_10 (Int32.toNatClampNeg (nI j10)) v28))]) hP hD (fun hP hD => ?_)
                  refine lv_iinc (v := (nI (j10 + 1))) (lv' := [(2, .int (nI (j10 + 1))), (1, .int (nI i2)), (0, .ref s1)]) hx hb dX6_findRings_53 hl (k := 0) rfl (nI_1 _) (by decide) rfl (fun ls hl => ?_)
                  refine lv_goto (tgt := 10) hx hb dX6_findRings_56 (by decide) ?_
                  exact ih10 (j10 + 1) a_w2_10 (upd a_w8_10 (Int32.toNatClampNeg (nI j10)) v28) (by omega) (by omega) _ _ _ hP hD hS (lv_sub hl [0, 1, 2] rfl)
        exact J10 _ 0 a_w2_2 a_w8_2 (by omega) (Nat.lt_succ_self _) _ _ _ hP hD hS (lv_sub hl [0, 1, 2] rfl)
  exact J2 _ 0 W2 W8 (by omega) (Nat.lt_succ_self _) _ _ _ hP hD hS (lv_sub hl [0, 1] rfl)
theorem dX6_findLevels_0 : decode cX6_findLevels 0 = .ok (.aload_n 0, 1) := by decide +kernel
theorem dX6_findLevels_1 : decode cX6_findLevels 1 = .ok (.getfield 21, 3) := by decide +kernel
theorem dX6_findLevels_4 : decode cX6_findLevels 4 = .ok (.iconst (-1), 1) := by decide +kernel
theorem dX6_findLevels_5 : decode cX6_findLevels 5 = .ok (.invokestatic 44, 3) := by decide +kernel
theorem dX6_findLevels_8 : decode cX6_findLevels 8 = .ok (.aload_n 0, 1) := by decide +kernel
theorem dX6_findLevels_9 : decode cX6_findLevels 9 = .ok (.iconst 0, 1) := by decide +kernel
theorem dX6_findLevels_10 : decode cX6_findLevels 10 = .ok (.putfield 50, 3) := by decide +kernel
theorem dX6_findLevels_13 : decode cX6_findLevels 13 = .ok (.aload_n 0, 1) := by decide +kernel
theorem dX6_findLevels_14 : decode cX6_findLevels 14 = .ok (.iconst 0, 1) := by decide +kernel
theorem dX6_findLevels_15 : decode cX6_findLevels 15 = .ok (.putfield 53, 3) := by decide +kernel
theorem dX6_findLevels_18 : decode cX6_findLevels 18 = .ok (.iconst 0, 1) := by decide +kernel
theorem dX6_findLevels_19 : decode cX6_findLevels 19 = .ok (.istore_n 1, 1) := by decide +kernel
theorem dX6_findLevels_20 : decode cX6_findLevels 20 = .ok (.iload_n 1, 1) := by decide +kernel
theorem dX6_findLevels_21 : decode cX6_findLevels 21 = .ok (.aload_n 0, 1) := by decide +kernel
theorem dX6_findLevels_22 : decode cX6_findLevels 22 = .ok (.getfield 30, 3) := by decide +kernel
theorem dX6_findLevels_25 : decode cX6_findLevels 25 = .ok (.if_icmp .eq 135, 3) := by decide +kernel
theorem dX6_findLevels_28 : decode cX6_findLevels 28 = .ok (.aload_n 0, 1) := by decide +kernel
theorem dX6_findLevels_29 : decode cX6_findLevels 29 = .ok (.getfield 53, 3) := by decide +kernel
theorem dX6_findLevels_32 : decode cX6_findLevels 32 = .ok (.bipush 8, 2) := by decide +kernel
theorem dX6_findLevels_34 : decode cX6_findLevels 34 = .ok (.if_icmp .ge 126, 3) := by decide +kernel
theorem dX6_findLevels_37 : decode cX6_findLevels 37 = .ok (.iconst 0, 1) := by decide +kernel
theorem dX6_findLevels_38 : decode cX6_findLevels 38 = .ok (.istore_n 2, 1) := by decide +kernel
theorem dX6_findLevels_39 : decode cX6_findLevels 39 = .ok (.iconst 0, 1) := by decide +kernel
theorem dX6_findLevels_40 : decode cX6_findLevels 40 = .ok (.istore_n 3, 1) := by decide +kernel
theorem dX6_findLevels_41 : decode cX6_findLevels 41 = .ok (.iload_n 3, 1) := by decide +kernel
theorem dX6_findLevels_42 : decode cX6_findLevels 42 = .ok (.bipush 8, 2) := by decide +kernel
theorem dX6_findLevels_44 : decode cX6_findLevels 44 = .ok (.if_icmp .ge 89, 3) := by decide +kernel
theorem dX6_findLevels_47 : decode cX6_findLevels 47 = .ok (.aload_n 0, 1) := by decide +kernel
theorem dX6_findLevels_48 : decode cX6_findLevels 48 = .ok (.getfield 30, 3) := by decide +kernel
theorem dX6_findLevels_51 : decode cX6_findLevels 51 = .ok (.iload_n 1, 1) := by decide +kernel
theorem dX6_findLevels_52 : decode cX6_findLevels 52 = .ok (.iconst (-1), 1) := by decide +kernel
theorem dX6_findLevels_53 : decode cX6_findLevels 53 = .ok (.ixor, 1) := by decide +kernel
theorem dX6_findLevels_54 : decode cX6_findLevels 54 = .ok (.iand, 1) := by decide +kernel
theorem dX6_findLevels_55 : decode cX6_findLevels 55 = .ok (.iload_n 3, 1) := by decide +kernel
theorem dX6_findLevels_56 : decode cX6_findLevels 56 = .ok (.invokestatic 34, 3) := by decide +kernel
theorem dX6_findLevels_59 : decode cX6_findLevels 59 = .ok (.ifCond .eq 68, 3) := by decide +kernel
theorem dX6_findLevels_62 : decode cX6_findLevels 62 = .ok (.aload_n 0, 1) := by decide +kernel
theorem dX6_findLevels_63 : decode cX6_findLevels 63 = .ok (.iload_n 3, 1) := by decide +kernel
theorem dX6_findLevels_64 : decode cX6_findLevels 64 = .ok (.invokevirtual 56, 3) := by decide +kernel
theorem dX6_findLevels_67 : decode cX6_findLevels 67 = .ok (.iload_n 1, 1) := by decide +kernel
theorem dX6_findLevels_68 : decode cX6_findLevels 68 = .ok (.iconst (-1), 1) := by decide +kernel
theorem dX6_findLevels_69 : decode cX6_findLevels 69 = .ok (.ixor, 1) := by decide +kernel
theorem dX6_findLevels_70 : decode cX6_findLevels 70 = .ok (.iand, 1) := by decide +kernel
theorem dX6_findLevels_71 : decode cX6_findLevels 71 = .ok (.ifCond .ne 56, 3) := by decide +kernel
theorem dX6_findLevels_74 : decode cX6_findLevels 74 = .ok (.iload_n 2, 1) := by decide +kernel
theorem dX6_findLevels_75 : decode cX6_findLevels 75 = .ok (.iconst 1, 1) := by decide +kernel
theorem dX6_findLevels_76 : decode cX6_findLevels 76 = .ok (.iload_n 3, 1) := by decide +kernel
theorem dX6_findLevels_77 : decode cX6_findLevels 77 = .ok (.ishl, 1) := by decide +kernel
theorem dX6_findLevels_78 : decode cX6_findLevels 78 = .ok (.ior, 1) := by decide +kernel
theorem dX6_findLevels_79 : decode cX6_findLevels 79 = .ok (.istore_n 2, 1) := by decide +kernel
theorem dX6_findLevels_80 : decode cX6_findLevels 80 = .ok (.aload_n 0, 1) := by decide +kernel
theorem dX6_findLevels_81 : decode cX6_findLevels 81 = .ok (.getfield 21, 3) := by decide +kernel
theorem dX6_findLevels_84 : decode cX6_findLevels 84 = .ok (.iload_n 3, 1) := by decide +kernel
theorem dX6_findLevels_85 : decode cX6_findLevels 85 = .ok (.aload_n 0, 1) := by decide +kernel
theorem dX6_findLevels_86 : decode cX6_findLevels 86 = .ok (.getfield 53, 3) := by decide +kernel
theorem dX6_findLevels_89 : decode cX6_findLevels 89 = .ok (.iastore, 1) := by decide +kernel
theorem dX6_findLevels_90 : decode cX6_findLevels 90 = .ok (.aload_n 0, 1) := by decide +kernel
theorem dX6_findLevels_91 : decode cX6_findLevels 91 = .ok (.getfield 9, 3) := by decide +kernel
theorem dX6_findLevels_94 : decode cX6_findLevels 94 = .ok (.iload_n 3, 1) := by decide +kernel
theorem dX6_findLevels_95 : decode cX6_findLevels 95 = .ok (.iaload, 1) := by decide +kernel
theorem dX6_findLevels_96 : decode cX6_findLevels 96 = .ok (.iconst 3, 1) := by decide +kernel
theorem dX6_findLevels_97 : decode cX6_findLevels 97 = .ok (.if_icmp .ne 30, 3) := by decide +kernel
theorem dX6_findLevels_100 : decode cX6_findLevels 100 = .ok (.aload_n 0, 1) := by decide +kernel
theorem dX6_findLevels_101 : decode cX6_findLevels 101 = .ok (.iload_n 3, 1) := by decide +kernel
theorem dX6_findLevels_102 : decode cX6_findLevels 102 = .ok (.invokevirtual 56, 3) := by decide +kernel
theorem dX6_findLevels_105 : decode cX6_findLevels 105 = .ok (.aload_n 0, 1) := by decide +kernel
theorem dX6_findLevels_106 : decode cX6_findLevels 106 = .ok (.getfield 50, 3) := by decide +kernel
theorem dX6_findLevels_109 : decode cX6_findLevels 109 = .ok (.iconst (-1), 1) := by decide +kernel
theorem dX6_findLevels_110 : decode cX6_findLevels 110 = .ok (.ixor, 1) := by decide +kernel
theorem dX6_findLevels_111 : decode cX6_findLevels 111 = .ok (.iand, 1) := by decide +kernel
theorem dX6_findLevels_112 : decode cX6_findLevels 112 = .ok (.ifCond .eq 15, 3) := by decide +kernel
theorem dX6_findLevels_115 : decode cX6_findLevels 115 = .ok (.aload_n 0, 1) := by decide +kernel
theorem dX6_findLevels_116 : decode cX6_findLevels 116 = .ok (.dup, 1) := by decide +kernel
theorem dX6_findLevels_117 : decode cX6_findLevels 117 = .ok (.getfield 50, 3) := by decide +kernel
theorem dX6_findLevels_120 : decode cX6_findLevels 120 = .ok (.iconst 1, 1) := by decide +kernel
theorem dX6_findLevels_121 : decode cX6_findLevels 121 = .ok (.iload_n 3, 1) := by decide +kernel
theorem dX6_findLevels_122 : decode cX6_findLevels 122 = .ok (.ishl, 1) := by decide +kernel
theorem dX6_findLevels_123 : decode cX6_findLevels 123 = .ok (.ior, 1) := by decide +kernel
theorem dX6_findLevels_124 : decode cX6_findLevels 124 = .ok (.putfield 50, 3) := by decide +kernel
theorem dX6_findLevels_127 : decode cX6_findLevels 127 = .ok (.iinc 3 1, 3) := by decide +kernel
theorem dX6_findLevels_130 : decode cX6_findLevels 130 = .ok (.goto (-89), 3) := by decide +kernel
theorem dX6_findLevels_133 : decode cX6_findLevels 133 = .ok (.aload_n 0, 1) := by decide +kernel
theorem dX6_findLevels_134 : decode cX6_findLevels 134 = .ok (.getfield 24, 3) := by decide +kernel
theorem dX6_findLevels_137 : decode cX6_findLevels 137 = .ok (.aload_n 0, 1) := by decide +kernel
theorem dX6_findLevels_138 : decode cX6_findLevels 138 = .ok (.getfield 53, 3) := by decide +kernel
theorem dX6_findLevels_141 : decode cX6_findLevels 141 = .ok (.iload_n 2, 1) := by decide +kernel
theorem dX6_findLevels_142 : decode cX6_findLevels 142 = .ok (.iastore, 1) := by decide +kernel
theorem dX6_findLevels_143 : decode cX6_findLevels 143 = .ok (.aload_n 0, 1) := by decide +kernel
theorem dX6_findLevels_144 : decode cX6_findLevels 144 = .ok (.dup, 1) := by decide +kernel
theorem dX6_findLevels_145 : decode cX6_findLevels 145 = .ok (.getfield 53, 3) := by decide +kernel
theorem dX6_findLevels_148 : decode cX6_findLevels 148 = .ok (.iconst 1, 1) := by decide +kernel
theorem dX6_findLevels_149 : decode cX6_findLevels 149 = .ok (.iadd, 1) := by decide +kernel
theorem dX6_findLevels_150 : decode cX6_findLevels 150 = .ok (.putfield 53, 3) := by decide +kernel
theorem dX6_findLevels_153 : decode cX6_findLevels 153 = .ok (.iload_n 1, 1) := by decide +kernel
theorem dX6_findLevels_154 : decode cX6_findLevels 154 = .ok (.iload_n 2, 1) := by decide +kernel
theorem dX6_findLevels_155 : decode cX6_findLevels 155 = .ok (.ior, 1) := by decide +kernel
theorem dX6_findLevels_156 : decode cX6_findLevels 156 = .ok (.istore_n 1, 1) := by decide +kernel
theorem dX6_findLevels_157 : decode cX6_findLevels 157 = .ok (.goto (-137), 3) := by decide +kernel
theorem dX6_findLevels_160 : decode cX6_findLevels 160 = .ok (.return_, 1) := by decide +kernel
theorem gX6_findLevels_J7_fill_53178 : GoodIn wtX6_findLevels (va_wsS RX6 44 yJ7_fill_53178 wtJ7_fill_53178) := tb_good (tb_s0 wd_344 wd_73 wd_74 wd_75)
theorem gX6_findLevels_X6_trueYields : GoodIn wtX6_findLevels (wsV RX6 56 RX6 yX6_trueYields wtX6_trueYields) := tb_good (tb_v0 wd_345 wd_346 wd_347 wd_43 wd_348)
theorem gX6_findLevels_X7_has_n34 : GoodIn wtX6_findLevels (wtX7_has) := tb_good (tb_c0 wd_312)
set_option maxHeartbeats 4000000 in
set_option maxRecDepth 100000 in
theorem m_X6_findLevels (l : Launch) (D : va_G) (cI cJ : ClassId) (sz : Nat) (s1 w0 w1 w2 w3 w4 w8 wn lv : Nat) (wi6 : Int32) (W0 W1 W2 W3 W4 : Nat → Int32) (hwn : wn < 256) (hlv : lv ≤ 8) : Met l yX6_findLevels wtX6_findLevels { frames := 1, cells := 0, slots := 0, locals := 23 } (cPc D cI cJ [.ref s1] sz [(oX6 s1 w0 w1 w2 w3 w4 (nI wn) wi6 (nI lv) w8), (aIc cI w0 8 W0), (aIc cI w1 8 W1), (aIc cI w2 8 W2), (aIc cI w3 8 W3), (aIc cI w4 8 W4)]) (cQv D (fun u => ∃ (W3p W4p : Nat → Int32) (wi6p : Int32) (lvp : Nat), (lvp ≤ 8) ∧ u = [(oX6 s1 w0 w1 w2 w3 w4 (nI wn) wi6p (nI lvp) w8), (aIc cI w0 8 W0), (aIc cI w1 8 W1), (aIc cI w2 8 W2), (aIc cI w3 8 W3p), (aIc cI w4 8 W4p)]) (va_A [(oX6 s1 w0 w1 w2 w3 w4 (nI wn) wi6 (nI lv) w8), (aIc cI w0 8 W0), (aIc cI w1 8 W1), (aIc cI w2 8 W2), (aIc cI w3 8 W3), (aIc cI w4 8 W4)] sz)) 0 0 (va_A [(oX6 s1 w0 w1 w2 w3 w4 (nI wn) wi6 (nI lv) w8), (aIc cI w0 8 W0), (aIc cI w1 8 W1), (aIc cI w2 8 W2), (aIc cI w3 8 W3), (aIc cI w4 8 W4)] sz) := by
  refine k_ofW (Qc := cQv D (fun u => ∃ (W3p W4p : Nat → Int32) (wi6p : Int32) (lvp : Nat), (lvp ≤ 8) ∧ u = [(oX6 s1 w0 w1 w2 w3 w4 (nI wn) wi6p (nI lvp) w8), (aIc cI w0 8 W0), (aIc cI w1 8 W1), (aIc cI w2 8 W2), (aIc cI w3 8 W3p), (aIc cI w4 8 W4p)])) (by decide) rfl (Nat.le_of_ble_eq_true rfl) ?_
  intro p e s m below meth c A ls hx hb hr hml hts hown hlk hnm hsz hE hP hD hS hA hl
  have hown : s.vm.findClass RX6 = some m.cls := hown
  have hiX6 : ∀ w ∈ u_ws RX6 TX6 9, w ∈ wtX6_findLevels := fun w h => List.mem_cons_of_mem _ (iuX6 w h)
  have hl : lv_has ls 4 [(0, .ref s1)] := hl
  refine lv_aload_n hx hb dX6_findLevels_0 rfl (lv_at hl 0 rfl) ?_
  refine va_get (D := D) (ci := 6) (v := .ref w3) (C := RX6) (T := TX6) (N := 9) hx hb hts hiX6 hown hE.1 hP 0 rfl rfl 3 (by decide) (hts _ (List.mem_cons_of_mem _ wd_82)) (fun _ h9 => h9) rfl dX6_findLevels_1 ?_
  refine lv_iconst (v := (-1)) hx hb dX6_findLevels_4 (by decide) ?_
  refine k_v (va_runS (As := [.ref w3, .int (-1)]) (rest := []) ⟨hx, hb, hml, hown, hts⟩ (m_J7_fill l D cI cJ (s.heap).size w3 (-1) 8 W3 (by decide)) (va_cwS 2 hts gX6_findLevels_J7_fill_53178 rfl rfl rfl (by decide +kernel) ⟨Nat.le_of_ble_eq_true rfl, Nat.le_of_ble_eq_true rfl⟩) (k_pre hE hP hD [4] (by decide +kernel) rfl) rfl rfl hl.1 rfl (lv_room (Nat.le_of_ble_eq_true rfl)) dX6_findLevels_5 ⟨Nat.le_of_ble_eq_true rfl, Nat.le_of_ble_eq_true rfl⟩) hP hD hS hA [4] [0, 1, 2, 3, 5] rfl (wr := [(oX6 s1 w0 w1 w2 w3 w4 (nI wn) wi6 (nI lv) w8), (aIc cI w0 8 W0), (aIc cI w1 8 W1), (aIc cI w2 8 W2), (aIc cI w4 8 W4)]) rfl (by decide +kernel) (by decide +kernel) (fun u H locs hw1 hP hD hS => ?_)
  subst hw1
  refine k_re (w := [(oX6 s1 w0 w1 w2 w3 w4 (nI wn) wi6 (nI lv) w8), (aIc cI w0 8 W0), (aIc cI w1 8 W1), (aIc cI w2 8 W2), (aIc cI w4 8 W4), (aIc cI w3 8 (fl 8 (-1) W3))]) hP hD (fun hP hD => ?_)
  refine lv_aload_n hx hb dX6_findLevels_8 rfl (lv_at hl 0 rfl) ?_
  refine lv_iconst (v := 0) hx hb dX6_findLevels_9 (by decide) ?_
  refine va_put (D := D) (ci := 6) (v := .int 0) (ty := .int) (C := RX6) (T := TX6) (N := 9) hx hb hts hiX6 tyX6 tyX6_ok nmX6 hown hE.1 hP hD hS 0 rfl rfl 6 (by decide) (hts _ (List.mem_cons_of_mem _ wd_342)) (fun _ h9 => h9) rfl (by decide +kernel) rfl rfl (Nat.le_of_ble_eq_true rfl) dX6_findLevels_10 (fun H locs hP hD hS => ?_)
  refine k_re (w := [(oX6 s1 w0 w1 w2 w3 w4 (nI wn) 0 (nI lv) w8), (aIc cI w0 8 W0), (aIc cI w1 8 W1), (aIc cI w2 8 W2), (aIc cI w4 8 W4), (aIc cI w3 8 (fl 8 (-1) W3))]) hP hD (fun hP hD => ?_)
  refine lv_aload_n hx hb dX6_findLevels_13 rfl (lv_at hl 0 rfl) ?_
  refine lv_iconst (v := 0) hx hb dX6_findLevels_14 (by decide) ?_
  refine va_put (D := D) (ci := 6) (v := .int 0) (ty := .int) (C := RX6) (T := TX6) (N := 9) hx hb hts hiX6 tyX6 tyX6_ok nmX6 hown hE.1 hP hD hS 0 rfl rfl 7 (by decide) (hts _ (List.mem_cons_of_mem _ wd_343)) (fun _ h9 => h9) rfl (by decide +kernel) rfl rfl (Nat.le_of_ble_eq_true rfl) dX6_findLevels_15 (fun H locs hP hD hS => ?_)
  refine k_re (w := [(oX6 s1 w0 w1 w2 w3 w4 (nI wn) 0 0 w8), (aIc cI w0 8 W0), (aIc cI w1 8 W1), (aIc cI w2 8 W2), (aIc cI w4 8 W4), (aIc cI w3 8 (fl 8 (-1) W3))]) hP hD (fun hP hD => ?_)
  refine lv_iconst (v := 0) hx hb dX6_findLevels_18 (by decide) ?_
  refine lv_istore_n (lv' := [(1, .int 0), (0, .ref s1)]) hx hb dX6_findLevels_19 rfl hl (by decide) rfl (fun ls hl => ?_)
  have J20 : ∀ (zz : Nat) (h1_20 : Int32) (a_w3_20 a_w4_20 : Nat → Int32) (f6_6_20 : Int32) (f6_7_20 : Nat), (f6_7_20 ≤ 8) → 8 - f6_7_20 < zz → ∀ (H : Heap) (locs : List Loc) (ls : Array Slot), va_P D vwCl [(oX6 s1 w0 w1 w2 w3 w4 (nI wn) f6_6_20 (nI f6_7_20) w8), (aIc cI w0 8 W0), (aIc cI w1 8 W1), (aIc cI w2 8 W2), (aIc cI w4 8 a_w4_20), (aIc cI w3 8 a_w3_20)] H → va_D A [(oX6 s1 w0 w1 w2 w3 w4 (nI wn) f6_6_20 (nI f6_7_20) w8), (aIc cI w0 8 W0), (aIc cI w1 8 W1), (aIc cI w2 8 W2), (aIc cI w4 8 a_w4_20), (aIc cI w3 8 a_w3_20)] → va_S A s.heap H locs → lv_has ls 4 [(1, .int h1_20), (0, .ref s1)] → W p l e { frames := 1, cells := 0, slots := 0, locals := 23 } s m [.ref s1].toArray below meth c H locs 0 0 (MQ below (cQv D (fun u => ∃ (W3p W4p : Nat → Int32) (wi6p : Int32) (lvp : Nat), (lvp ≤ 8) ∧ u = [(oX6 s1 w0 w1 w2 w3 w4 (nI wn) wi6p (nI lvp) w8), (aIc cI w0 8 W0), (aIc cI w1 8 W1), (aIc cI w2 8 W2), (aIc cI w3 8 W3p), (aIc cI w4 8 W4p)]) A) [.ref s1].toArray s 0 0 A) (F0 m 20 ls []) := by
    intro zz
    induction zz with
    | zero => intro h1_20 a_w3_20 a_w4_20 f6_6_20 f6_7_20 _; exact fun h => absurd h (Nat.not_lt_zero _)
    | succ zz ih20 =>
      intro h1_20 a_w3_20 a_w4_20 f6_6_20 f6_7_20 hl8_20 hmu20 H locs ls hP hD hS hl
      refine lv_iload_n hx hb dX6_findLevels_20 rfl (lv_at hl 0 rfl) ?_
      refine lv_aload_n hx hb dX6_findLevels_21 rfl (lv_at hl 1 rfl) ?_
      refine va_get (D := D) (ci := 6) (v := .int (nI wn)) (C := RX6) (T := TX6) (N := 9) hx hb hts hiX6 hown hE.1 hP 0 rfl rfl 5 (by decide) (hts _ (List.mem_cons_of_mem _ wd_333)) (fun _ h9 => h9) rfl dX6_findLevels_22 ?_
      refine lv_icmp_eq (tgt := 160) hx hb dX6_findLevels_25 (by decide) (fun c2 => ?_) (fun c2 => ?_)
      · skip
        refine k_vret (u := [(oX6 s1 w0 w1 w2 w3 w4 (nI wn) f6_6_20 (nI f6_7_20) w8), (aIc cI w0 8 W0), (aIc cI w1 8 W1), (aIc cI w2 8 W2), (aIc cI w3 8 a_w3_20), (aIc cI w4 8 a_w4_20)]) hx hb hr hlk (k_sub hP [0, 1, 2, 3, 5, 4] rfl) (hD.sub [0, 1, 2, 3, 5, 4] (by decide +kernel) rfl) hS dX6_findLevels_160 ?_
        exact ⟨a_w3_20, a_w4_20, f6_6_20, f6_7_20, (by omega), rfl⟩
      · skip
        refine lv_aload_n hx hb dX6_findLevels_28 rfl (lv_at hl 1 rfl) ?_
        refine va_get (D := D) (ci := 6) (v := .int (nI f6_7_20)) (C := RX6) (T := TX6) (N := 9) hx hb hts hiX6 hown hE.1 hP 0 rfl rfl 7 (by decide) (hts _ (List.mem_cons_of_mem _ wd_343)) (fun _ h9 => h9) rfl dX6_findLevels_29 ?_
        refine lv_bipush (v := 8) hx hb dX6_findLevels_32 (by decide) ?_
        refine lv_icmp_ge (tgt := 160) hx hb dX6_findLevels_34 (by decide) (fun c3 => ?_) (fun c3 => ?_)
        · skip
          have nc3 : 8 ≤ f6_7_20 := (nI_leI (a := 8) (b := f6_7_20) (by omega) (by omega)).mp c3
          refine k_vret (u := [(oX6 s1 w0 w1 w2 w3 w4 (nI wn) f6_6_20 (nI f6_7_20) w8), (aIc cI w0 8 W0), (aIc cI w1 8 W1), (aIc cI w2 8 W2), (aIc cI w3 8 a_w3_20), (aIc cI w4 8 a_w4_20)]) hx hb hr hlk (k_sub hP [0, 1, 2, 3, 5, 4] rfl) (hD.sub [0, 1, 2, 3, 5, 4] (by decide +kernel) rfl) hS dX6_findLevels_160 ?_
          exact ⟨a_w3_20, a_w4_20, f6_6_20, f6_7_20, (by omega), rfl⟩
        · skip
          have nc3 : ¬ 8 ≤ f6_7_20 := fun q9 => c3 ((nI_leI (a := 8) (b := f6_7_20) (by omega) (by omega)).mpr q9)
          refine lv_iconst (v := 0) hx hb dX6_findLevels_37 (by decide) ?_
          refine lv_istore_n (lv' := [(2, .int 0), (1, .int h1_20), (0, .ref s1)]) hx hb dX6_findLevels_38 rfl hl (by decide) rfl (fun ls hl => ?_)
          refine lv_iconst (v := 0) hx hb dX6_findLevels_39 (by decide) ?_
          refine lv_istore_n (lv' := [(3, .int 0), (2, .int 0), (1, .int h1_20), (0, .ref s1)]) hx hb dX6_findLevels_40 rfl hl (by decide) rfl (fun ls hl => ?_)
          have J41 : ∀ (zz : Nat) (j41 : Nat) (h2_41 : Int32) (a_w3_41 : Nat → Int32) (f6_6_41 : Int32), (j41 ≤ 8) → (8 - j41) < zz → ∀ (H : Heap) (locs : List Loc) (ls : Array Slot), va_P D vwCl [(oX6 s1 w0 w1 w2 w3 w4 (nI wn) f6_6_41 (nI f6_7_20) w8), (aIc cI w0 8 W0), (aIc cI w1 8 W1), (aIc cI w2 8 W2), (aIc cI w4 8 a_w4_20), (aIc cI w3 8 a_w3_41)] H → va_D A [(oX6 s1 w0 w1 w2 w3 w4 (nI wn) f6_6_41 (nI f6_7_20) w8), (aIc cI w0 8 W0), (aIc cI w1 8 W1), (aIc cI w2 8 W2), (aIc cI w4 8 a_w4_20), (aIc cI w3 8 a_w3_41)] → va_S A s.heap H locs → lv_has ls 4 [(3, .int (nI j41)), (2, .int h2_41), (1, .int h1_20), (0, .ref s1)] → W p l e { frames := 1, cells := 0, slots := 0, locals := 23 } s m [.ref s1].toArray below meth c H locs 0 0 (MQ below (cQv D (fun u => ∃ (W3p W4p : Nat → Int32) (wi6p : Int32) (lvp : Nat), (lvp ≤ 8) ∧ u = [(oX6 s1 w0 w1 w2 w3 w4 (nI wn) wi6p (nI lvp) w8), (aIc cI w0 8 W0), (aIc cI w1 8 W1), (aIc cI w2 8 W2), (aIc cI w3 8 W3p), (aIc cI w4 8 W4p)]) A) [.ref s1].toArray s 0 0 A) (F0 m 41 ls []) := by
            intro zz
            induction zz with
            | zero => intro j41 h2_41 a_w3_41 f6_6_41 _; exact fun h => absurd h (Nat.not_lt_zero _)
            | succ zz ih41 =>
              intro j41 h2_41 a_w3_41 f6_6_41 hc3_41 hmu41 H locs ls hP hD hS hl
              refine lv_iload_n hx hb dX6_findLevels_41 rfl (lv_at hl 0 rfl) ?_
              refine lv_bipush (v := 8) hx hb dX6_findLevels_42 (by decide) ?_
              refine lv_icmp_ge (tgt := 133) hx hb dX6_findLevels_44 (by decide) (fun c4 => ?_) (fun c4 => ?_)
              · skip
                have nc4 : 8 ≤ j41 := (nI_leI (a := 8) (b := j41) (by omega) (by omega)).mp c4
                refine lv_aload_n hx hb dX6_findLevels_133 rfl (lv_at hl 3 rfl) ?_
                refine va_get (D := D) (ci := 6) (v := .ref w4) (C := RX6) (T := TX6) (N := 9) hx hb hts hiX6 hown hE.1 hP 0 rfl rfl 4 (by decide) (hts _ (List.mem_cons_of_mem _ wd_83)) (fun _ h9 => h9) rfl dX6_findLevels_134 ?_
                refine lv_aload_n hx hb dX6_findLevels_137 rfl (lv_at hl 3 rfl) ?_
                refine va_get (D := D) (ci := 6) (v := .int (nI f6_7_20)) (C := RX6) (T := TX6) (N := 9) hx hb hts hiX6 hown hE.1 hP 0 rfl rfl 7 (by decide) (hts _ (List.mem_cons_of_mem _ wd_343)) (fun _ h9 => h9) rfl dX6_findLevels_138 ?_
                refine lv_iload_n hx hb dX6_findLevels_141 rfl (lv_at hl 1 rfl) ?_
                refine va_iast hx hb hE.1 hP hD hS 4 0 rfl rfl (vp_in_nI (n := f6_7_20) (by omega) (by decide)) dX6_findLevels_142 (fun H locs hP hD hS => ?_)
                refine k_re (w := [(oX6 s1 w0 w1 w2 w3 w4 (nI wn) f6_6_41 (nI f6_7_20) w8), (aIc cI w0 8 W0), (aIc cI w1 8 W1), (aIc cI w2 8 W2), (aIc cI w4 8 (upd a_w4_20 (Int32.toNatClampNeg (nI f6_7_20)) h2_41)), (aIc cI w3 8 a_w3_41)]) hP hD (fun hP hD => ?_)
                refine lv_aload_n hx hb dX6_findLevels_143 rfl (lv_at hl 3 rfl) ?_
                refine lv_dup hx hb dX6_findLevels_144 rfl ?_
                refine va_get (D := D) (ci := 6) (v := .int (nI f6_7_20)) (C := RX6) (T := TX6) (N := 9) hx hb hts hiX6 hown hE.1 hP 0 rfl rfl 7 (by decide) (hts _ (List.mem_cons_of_mem _ wd_343)) (fun _ h9 => h9) rfl dX6_findLevels_145 ?_
                refine lv_iconst (v := 1) hx hb dX6_findLevels_148 (by decide) ?_
                refine lv_iadd hx hb dX6_findLevels_149 ?_
                refine lv_topi (fun v5 ev5 => ?_)
                obtain rfl : v5 = (nI (f6_7_20 + 1)) := by rw [ev5]; exact nI_add f6_7_20 1
                refine va_put (D := D) (ci := 6) (v := .int (nI (f6_7_20 + 1))) (ty := .int) (C := RX6) (T := TX6) (N := 9) hx hb hts hiX6 tyX6 tyX6_ok nmX6 hown hE.1 hP hD hS 0 rfl rfl 7 (by decide) (hts _ (List.mem_cons_of_mem _ wd_343)) (fun _ h9 => h9) rfl (by decide +kernel) rfl rfl (Nat.le_of_ble_eq_true rfl) dX6_findLevels_150 (fun H locs hP hD hS => ?_)
                refine k_re (w := [(oX6 s1 w0 w1 w2 w3 w4 (nI wn) f6_6_41 (nI (f6_7_20 + 1)) w8), (aIc cI w0 8 W0), (aIc cI w1 8 W1), (aIc cI w2 8 W2), (aIc cI w4 8 (upd a_w4_20 (Int32.toNatClampNeg (nI f6_7_20)) h2_41)), (aIc cI w3 8 a_w3_41)]) hP hD (fun hP hD => ?_)
                refine lv_iload_n hx hb dX6_findLevels_153 rfl (lv_at hl 2 rfl) ?_
                refine lv_iload_n hx hb dX6_findLevels_154 rfl (lv_at hl 1 rfl) ?_
                refine lv_ior hx hb dX6_findLevels_155 ?_
                refine lv_topi (fun v6 ev6 => ?_)
                refine lv_istore_n (lv' := [(1, .int v6), (3, .int (nI j41)), (2, .int h2_41), (0, .ref s1)]) hx hb dX6_findLevels_156 rfl hl (by decide) rfl (fun ls hl => ?_)
                refine lv_goto (tgt := 20) hx hb dX6_findLevels_157 (by decide) ?_
                exact ih20 v6 a_w3_41 (upd a_w4_20 (Int32.toNatClampNeg (nI f6_7_20)) h2_41) f6_6_41 (f6_7_20 + 1) (by omega) (by omega) _ _ _ hP hD hS (lv_sub hl [0, 3] rfl)
              · skip
                have nc4 : ¬ 8 ≤ j41 := fun q9 => c4 ((nI_leI (a := 8) (b := j41) (by omega) (by omega)).mpr q9)
                refine lv_aload_n hx hb dX6_findLevels_47 rfl (lv_at hl 3 rfl) ?_
                refine va_get (D := D) (ci := 6) (v := .int (nI wn)) (C := RX6) (T := TX6) (N := 9) hx hb hts hiX6 hown hE.1 hP 0 rfl rfl 5 (by decide) (hts _ (List.mem_cons_of_mem _ wd_333)) (fun _ h9 => h9) rfl dX6_findLevels_48 ?_
                refine lv_iload_n hx hb dX6_findLevels_51 rfl (lv_at hl 2 rfl) ?_
                refine lv_iconst (v := (-1)) hx hb dX6_findLevels_52 (by decide) ?_
                refine lv_ixor hx hb dX6_findLevels_53 ?_
                refine lv_topi (fun v7 ev7 => ?_)
                refine lv_iand hx hb dX6_findLevels_54 ?_
                refine lv_topi (fun v8 ev8 => ?_)
                refine lv_iload_n hx hb dX6_findLevels_55 rfl (lv_at hl 0 rfl) ?_
                refine k_iS (va_runSN (As := [.int v8, .int (nI j41)]) (rest := []) ⟨hx, hb, hml, hown, hts⟩ (m_X7_has l D cI cJ H.size v8 (nI j41)) ⟨va_cnB 2 hts gX6_findLevels_X7_has_n34 rfl rfl rfl (nwk6 hE.2) (hts _ (List.mem_cons_of_mem _ wd_2)) (by decide +kernel) ⟨Nat.le_of_ble_eq_true rfl, Nat.le_of_ble_eq_true rfl⟩, (hts _ (List.mem_cons_of_mem _ wd_311)), trivial⟩ (k_pre hE hP hD [] (by decide +kernel) rfl) rfl rfl hl.1 rfl (lv_room (Nat.le_of_ble_eq_true rfl)) dX6_findLevels_56 ⟨Nat.le_of_ble_eq_true rfl, Nat.le_of_ble_eq_true rfl⟩) hP hD hS hA [] rfl (fun _ _ h9 => h9.2) (fun r9 H locs hw10 hP hD hS => ?_)
                obtain ⟨hw10, -⟩ := hw10
                refine lv_if_eq (tgt := 127) hx hb dX6_findLevels_59 (by decide) (fun c11 => ?_) (fun c11 => ?_)
                · skip
                  have hc11 : ¬ (¬ (v8 >>> ((nI j41) &&& 31)) &&& 1 = 0) := bz_0 hw10 c11
                  refine lv_iinc (v := (nI (j41 + 1))) (lv' := [(3, .int (nI (j41 + 1))), (2, .int h2_41), (1, .int h1_20), (0, .ref s1)]) hx hb dX6_findLevels_127 hl (k := 0) rfl (nI_1 _) (by decide) rfl (fun ls hl => ?_)
                  refine lv_goto (tgt := 41) hx hb dX6_findLevels_130 (by decide) ?_
                  exact ih41 (j41 + 1) h2_41 a_w3_41 f6_6_41 (by omega) (by omega) _ _ _ hP hD hS (lv_sub hl [0, 1, 2, 3] rfl)
                · skip
                  have hc11 : ¬ (v8 >>> ((nI j41) &&& 31)) &&& 1 = 0 := bz_1 hw10 c11
                  refine lv_aload_n hx hb dX6_findLevels_62 rfl (lv_at hl 3 rfl) ?_
                  refine lv_iload_n hx hb dX6_findLevels_63 rfl (lv_at hl 0 rfl) ?_
                  refine k_iS (va_runV (As := [.int (nI j41)]) (rest := []) ⟨hx, hb, hml, hown, hts⟩ (m_X6_trueYields l D cI cJ H.size s1 w0 w1 w2 w3 w4 w8 j41 wn f6_7_20 f6_6_41 W1 W2 (by omega)) (cwV 1 hts gX6_findLevels_X6_trueYields rfl rfl rfl (by decide +kernel) ⟨Nat.le_of_ble_eq_true rfl, Nat.le_of_ble_eq_true rfl⟩) (k_preV hE hP hD [0, 2, 3] (by decide +kernel) rfl 0 rfl rfl) rfl rfl hl.1 rfl (lv_room (Nat.le_of_ble_eq_true rfl)) dX6_findLevels_64 ⟨Nat.le_of_ble_eq_true rfl, Nat.le_of_ble_eq_true rfl⟩) hP hD hS hA [0, 2, 3] rfl (fun _ _ h9 => h9) (fun r12 H locs hw13 hP hD hS => ?_)
                  refine lv_iload_n hx hb dX6_findLevels_67 rfl (lv_at hl 2 rfl) ?_
                  refine lv_iconst (v := (-1)) hx hb dX6_findLevels_68 (by decide) ?_
                  refine lv_ixor hx hb dX6_findLevels_69 ?_
                  refine lv_topi (fun v14 ev14 => ?_)
                  refine lv_iand hx hb dX6_findLevels_70 ?_
                  refine lv_topi (fun v15 ev15 => ?_)
                  refine lv_if_ne (tgt := 127) hx hb dX6_findLevels_71 (by decide) (fun c16 => ?_) (fun c16 => ?_)
                  · skip
                    refine lv_iinc (v := (nI (j41 + 1))) (lv' := [(3, .int (nI (j41 + 1))), (2, .int h2_41), (1, .int h1_20), (0, .ref s1)]) hx hb dX6_findLevels_127 hl (k := 0) rfl (nI_1 _) (by decide) rfl (fun ls hl => ?_)
                    refine lv_goto (tgt := 41) hx hb dX6_findLevels_130 (by decide) ?_
                    exact ih41 (j41 + 1) h2_41 a_w3_41 f6_6_41 (by omega) (by omega) _ _ _ hP hD hS (lv_sub hl [0, 1, 2, 3] rfl)
                  · skip
                    refine lv_iload_n hx hb dX6_findLevels_74 rfl (lv_at hl 1 rfl) ?_
                    refine lv_iconst (v := 1) hx hb dX6_findLevels_75 (by decide) ?_
                    refine lv_iload_n hx hb dX6_findLevels_76 rfl (lv_at hl 0 rfl) ?_
                    refine lv_ishl hx hb dX6_findLevels_77 ?_
                    refine lv_topi (fun v17 ev17 => ?_)
                    refine lv_ior hx hb dX6_findLevels_78 ?_
                    refine lv_topi (fun v18 ev18 => ?_)
                    refine lv_istore_n (lv' := [(2, .int v18), (3, .int (nI j41)), (1, .int h1_20), (0, .ref s1)]) hx hb dX6_findLevels_79 rfl hl (by decide) rfl (fun ls hl => ?_)
                    refine lv_aload_n hx hb dX6_findLevels_80 rfl (lv_at hl 3 rfl) ?_
                    refine va_get (D := D) (ci := 6) (v := .ref w3) (C := RX6) (T := TX6) (N := 9) hx hb hts hiX6 hown hE.1 hP 0 rfl rfl 3 (by decide) (hts _ (List.mem_cons_of_mem _ wd_82)) (fun _ h9 => h9) rfl dX6_findLevels_81 ?_
                    refine lv_iload_n hx hb dX6_findLevels_84 rfl (lv_at hl 1 rfl) ?_
                    refine lv_aload_n hx hb dX6_findLevels_85 rfl (lv_at hl 3 rfl) ?_
                    refine va_get (D := D) (ci := 6) (v := .int (nI f6_7_20)) (C := RX6) (T := TX6) (N := 9) hx hb hts hiX6 hown hE.1 hP 0 rfl rfl 7 (by decide) (hts _ (List.mem_cons_of_mem _ wd_343)) (fun _ h9 => h9) rfl dX6_findLevels_86 ?_
                    refine va_iast hx hb hE.1 hP hD hS 5 0 rfl rfl (vp_in_nI (n := j41) (by omega) (by decide)) dX6_findLevels_89 (fun H locs hP hD hS => ?_)
                    refine k_re (w := [(oX6 s1 w0 w1 w2 w3 w4 (nI wn) f6_6_41 (nI f6_7_20) w8), (aIc cI w0 8 W0), (aIc cI w1 8 W1), (aIc cI w2 8 W2), (aIc cI w4 8 a_w4_20), (aIc cI w3 8 (upd a_w3_41 (Int32.toNatClampNeg (nI j41)) (nI f6_7_20)))]) hP hD (fun hP hD => ?_)
                    refine lv_aload_n hx hb dX6_findLevels_90 rfl (lv_at hl 3 rfl) ?_
                    refine va_get (D := D) (ci := 6) (v := .ref w0) (C := RX6) (T := TX6) (N := 9) hx hb hts hiX6 hown hE.1 hP 0 rfl rfl 0 (by decide) (hts _ (List.mem_cons_of_mem _ wd_79)) (fun _ h9 => h9) rfl dX6_findLevels_91 ?_
                    refine lv_iload_n hx hb dX6_findLevels_94 rfl (lv_at hl 1 rfl) ?_
                    refine va_iald hx hb hE.1 hP 1 0 rfl rfl (vp_in_nI (n := j41) (by omega) (by decide)) dX6_findLevels_95 ?_
                    refine lv_topi (fun v19 ev19 => ?_)
                    refine lv_iconst (v := 3) hx hb dX6_findLevels_96 (by decide) ?_
                    refine lv_icmp_ne (tgt := 127) hx hb dX6_findLevels_97 (by decide) (fun c20 => ?_) (fun c20 => ?_)
                    · skip
                      refine lv_iinc (v := (nI (j41 + 1))) (lv' := [(3, .int (nI (j41 + 1))), (2, .int v18), (1, .int h1_20), (0, .ref s1)]) hx hb dX6_findLevels_127 hl (k := 1) rfl (nI_1 _) (by decide) rfl (fun ls hl => ?_)
                      refine lv_goto (tgt := 41) hx hb dX6_findLevels_130 (by decide) ?_
                      exact ih41 (j41 + 1) v18 (upd a_w3_41 (Int32.toNatClampNeg (nI j41)) (nI f6_7_20)) f6_6_41 (by omega) (by omega) _ _ _ hP hD hS (lv_sub hl [0, 1, 2, 3] rfl)
                    · skip
                      refine lv_aload_n hx hb dX6_findLevels_100 rfl (lv_at hl 3 rfl) ?_
                      refine lv_iload_n hx hb dX6_findLevels_101 rfl (lv_at hl 1 rfl) ?_
                      refine k_iS (va_runV (As := [.int (nI j41)]) (rest := []) ⟨hx, hb, hml, hown, hts⟩ (m_X6_trueYields l D cI cJ H.size s1 w0 w1 w2 w3 w4 w8 j41 wn f6_7_20 f6_6_41 W1 W2 (by omega)) (cwV 1 hts gX6_findLevels_X6_trueYields rfl rfl rfl (by decide +kernel) ⟨Nat.le_of_ble_eq_true rfl, Nat.le_of_ble_eq_true rfl⟩) (k_preV hE hP hD [0, 2, 3] (by decide +kernel) rfl 0 rfl rfl) rfl rfl hl.1 rfl (lv_room (Nat.le_of_ble_eq_true rfl)) dX6_findLevels_102 ⟨Nat.le_of_ble_eq_true rfl, Nat.le_of_ble_eq_true rfl⟩) hP hD hS hA [0, 2, 3] rfl (fun _ _ h9 => h9) (fun r21 H locs hw22 hP hD hS => ?_)
                      refine lv_aload_n hx hb dX6_findLevels_105 rfl (lv_at hl 3 rfl) ?_
                      refine va_get (D := D) (ci := 6) (v := .int f6_6_41) (C := RX6) (T := TX6) (N := 9) hx hb hts hiX6 hown hE.1 hP 0 rfl rfl 6 (by decide) (hts _ (List.mem_cons_of_mem _ wd_342)) (fun _ h9 => h9) rfl dX6_findLevels_106 ?_
                      refine lv_iconst (v := (-1)) hx hb dX6_findLevels_109 (by decide) ?_
                      refine lv_ixor hx hb dX6_findLevels_110 ?_
                      refine lv_topi (fun v23 ev23 => ?_)
                      refine lv_iand hx hb dX6_findLevels_111 ?_
                      refine lv_topi (fun v24 ev24 => ?_)
                      refine lv_if_eq (tgt := 127) hx hb dX6_findLevels_112 (by decide) (fun c25 => ?_) (fun c25 => ?_)
                      · skip
                        refine lv_iinc (v := (nI (j41 + 1))) (lv' := [(3, .int (nI (j41 + 1))), (2, .int v18), (1, .int h1_20), (0, .ref s1)]) hx hb dX6_findLevels_127 hl (k := 1) rfl (nI_1 _) (by decide) rfl (fun ls hl => ?_)
                        refine lv_goto (tgt := 41) hx hb dX6_findLevels_130 (by decide) ?_
                        exact ih41 (j41 + 1) v18 (upd a_w3_41 (Int32.toNatClampNeg (nI j41)) (nI f6_7_20)) f6_6_41 (by omega) (by omega) _ _ _ hP hD hS (lv_sub hl [0, 1, 2, 3] rfl)
                      · skip
                        refine lv_aload_n hx hb dX6_findLevels_115 rfl (lv_at hl 3 rfl) ?_
                        refine lv_dup hx hb dX6_findLevels_116 rfl ?_
                        refine va_get (D := D) (ci := 6) (v := .int f6_6_41) (C := RX6) (T := TX6) (N := 9) hx hb hts hiX6 hown hE.1 hP 0 rfl rfl 6 (by decide) (hts _ (List.mem_cons_of_mem _ wd_342)) (fun _ h9 => h9) rfl dX6_findLevels_117 ?_
                        refine lv_iconst (v := 1) hx hb dX6_findLevels_120 (by decide) ?_
                        refine lv_iload_n hx hb dX6_findLevels_121 rfl (lv_at hl 1 rfl) ?_
                        refine lv_ishl hx hb dX6_findLevels_122 ?_
                        refine lv_topi (fun v26 ev26 => ?_)
                        refine lv_ior hx hb dX6_findLevels_123 ?_
                        refine lv_topi (fun v27 ev27 => ?_)
                        refine va_put (D := D) (ci := 6) (v := .int v27) (ty := .int) (C := RX6) (T := TX6) (N := 9) hx hb hts hiX6 tyX6 tyX6_ok nmX6 hown hE.1 hP hD hS 0 rfl rfl 6 (by decide) (hts _ (List.mem_cons_of_mem _ wd_342)) (fun _ h9 => h9) rfl (by decide +kernel) rfl rfl (Nat.le_of_ble_eq_true rfl) dX6_findLevels_124 (fun H locs hP hD hS => ?_)
                        refine k_re (w := [(oX6 s1 w0 w1 w2 w3 w4 (nI wn) v27 (nI f6_7_20) w8), (aIc cI w0 8 W0), (aIc cI w1 8 W1), (aIc cI w2 8 W2), (aIc cI w4 8 a_w4_20), (aIc cI w3 8 (upd a_w3_41 (Int32.toNatClampNeg (nI j41)) (nI f6_7_20)))]) hP hD (fun hP hD => ?_)
                        refine lv_iinc (v := (nI (j41 + 1))) (lv' := [(3, .int (nI (j41 + 1))), (2, .int v18), (1, .int h1_20), (0, .ref s1)]) hx hb dX6_findLevels_127 hl (k := 1) rfl (nI_1 _) (by decide) rfl (fun ls hl => ?_)
                        refine lv_goto (tgt := 41) hx hb dX6_findLevels_130 (by decide) ?_
                        exact ih41 (j41 + 1) v18 (upd a_w3_41 (Int32.toNatClampNeg (nI j41)) (nI f6_7_20)) v27 (by omega) (by omega) _ _ _ hP hD hS (lv_sub hl [0, 1, 2, 3] rfl)
          exact J41 _ 0 0 a_w3_20 f6_6_20 (by omega) (Nat.lt_succ_self _) _ _ _ hP hD hS (lv_sub hl [0, 1, 2, 3] rfl)
  exact J20 _ 0 (fl 8 (-1) W3) W4 0 0 (by omega) (Nat.lt_succ_self _) _ _ _ hP hD hS (lv_sub hl [0, 1] rfl)
theorem dX6_weave_0 : decode cX6_weave 0 = .ok (.aload_n 0, 1) := by decide +kernel
theorem dX6_weave_1 : decode cX6_weave 1 = .ok (.iload_n 1, 1) := by decide +kernel
theorem dX6_weave_2 : decode cX6_weave 2 = .ok (.putfield 30, 3) := by decide +kernel
theorem dX6_weave_5 : decode cX6_weave 5 = .ok (.iconst 0, 1) := by decide +kernel
theorem dX6_weave_6 : decode cX6_weave 6 = .ok (.istore_n 3, 1) := by decide +kernel
theorem dX6_weave_7 : decode cX6_weave 7 = .ok (.iload_n 3, 1) := by decide +kernel
theorem dX6_weave_8 : decode cX6_weave 8 = .ok (.bipush 8, 2) := by decide +kernel
theorem dX6_weave_10 : decode cX6_weave 10 = .ok (.if_icmp .ge 78, 3) := by decide +kernel
theorem dX6_weave_13 : decode cX6_weave 13 = .ok (.aload_n 0, 1) := by decide +kernel
theorem dX6_weave_14 : decode cX6_weave 14 = .ok (.getfield 30, 3) := by decide +kernel
theorem dX6_weave_17 : decode cX6_weave 17 = .ok (.iload_n 3, 1) := by decide +kernel
theorem dX6_weave_18 : decode cX6_weave 18 = .ok (.invokestatic 34, 3) := by decide +kernel
theorem dX6_weave_21 : decode cX6_weave 21 = .ok (.ifCond .eq 17, 3) := by decide +kernel
theorem dX6_weave_24 : decode cX6_weave 24 = .ok (.aload_n 0, 1) := by decide +kernel
theorem dX6_weave_25 : decode cX6_weave 25 = .ok (.getfield 9, 3) := by decide +kernel
theorem dX6_weave_28 : decode cX6_weave 28 = .ok (.iload_n 3, 1) := by decide +kernel
theorem dX6_weave_29 : decode cX6_weave 29 = .ok (.iaload, 1) := by decide +kernel
theorem dX6_weave_30 : decode cX6_weave 30 = .ok (.iconst 2, 1) := by decide +kernel
theorem dX6_weave_31 : decode cX6_weave 31 = .ok (.if_icmp .lt 7, 3) := by decide +kernel
theorem dX6_weave_34 : decode cX6_weave 34 = .ok (.iconst 1, 1) := by decide +kernel
theorem dX6_weave_35 : decode cX6_weave 35 = .ok (.goto 4, 3) := by decide +kernel
theorem dX6_weave_38 : decode cX6_weave 38 = .ok (.iconst 0, 1) := by decide +kernel
theorem dX6_weave_39 : decode cX6_weave 39 = .ok (.istore 4, 2) := by decide +kernel
theorem dX6_weave_41 : decode cX6_weave 41 = .ok (.aload_n 0, 1) := by decide +kernel
theorem dX6_weave_42 : decode cX6_weave 42 = .ok (.getfield 15, 3) := by decide +kernel
theorem dX6_weave_45 : decode cX6_weave 45 = .ok (.iload_n 3, 1) := by decide +kernel
theorem dX6_weave_46 : decode cX6_weave 46 = .ok (.iload 4, 2) := by decide +kernel
theorem dX6_weave_48 : decode cX6_weave 48 = .ok (.ifCond .eq 20, 3) := by decide +kernel
theorem dX6_weave_51 : decode cX6_weave 51 = .ok (.aload_n 2, 1) := by decide +kernel
theorem dX6_weave_52 : decode cX6_weave 52 = .ok (.iload_n 3, 1) := by decide +kernel
theorem dX6_weave_53 : decode cX6_weave 53 = .ok (.iaload, 1) := by decide +kernel
theorem dX6_weave_54 : decode cX6_weave 54 = .ok (.aload_n 0, 1) := by decide +kernel
theorem dX6_weave_55 : decode cX6_weave 55 = .ok (.getfield 30, 3) := by decide +kernel
theorem dX6_weave_58 : decode cX6_weave 58 = .ok (.iand, 1) := by decide +kernel
theorem dX6_weave_59 : decode cX6_weave 59 = .ok (.iconst 1, 1) := by decide +kernel
theorem dX6_weave_60 : decode cX6_weave 60 = .ok (.iload_n 3, 1) := by decide +kernel
theorem dX6_weave_61 : decode cX6_weave 61 = .ok (.ishl, 1) := by decide +kernel
theorem dX6_weave_62 : decode cX6_weave 62 = .ok (.iconst (-1), 1) := by decide +kernel
theorem dX6_weave_63 : decode cX6_weave 63 = .ok (.ixor, 1) := by decide +kernel
theorem dX6_weave_64 : decode cX6_weave 64 = .ok (.iand, 1) := by decide +kernel
theorem dX6_weave_65 : decode cX6_weave 65 = .ok (.goto 4, 3) := by decide +kernel
theorem dX6_weave_68 : decode cX6_weave 68 = .ok (.iconst 0, 1) := by decide +kernel
theorem dX6_weave_69 : decode cX6_weave 69 = .ok (.iastore, 1) := by decide +kernel
theorem dX6_weave_70 : decode cX6_weave 70 = .ok (.aload_n 0, 1) := by decide +kernel
theorem dX6_weave_71 : decode cX6_weave 71 = .ok (.getfield 27, 3) := by decide +kernel
theorem dX6_weave_74 : decode cX6_weave 74 = .ok (.iload_n 3, 1) := by decide +kernel
theorem dX6_weave_75 : decode cX6_weave 75 = .ok (.aload_n 0, 1) := by decide +kernel
theorem dX6_weave_76 : decode cX6_weave 76 = .ok (.getfield 15, 3) := by decide +kernel
theorem dX6_weave_79 : decode cX6_weave 79 = .ok (.iload_n 3, 1) := by decide +kernel
theorem dX6_weave_80 : decode cX6_weave 80 = .ok (.iaload, 1) := by decide +kernel
theorem dX6_weave_81 : decode cX6_weave 81 = .ok (.iastore, 1) := by decide +kernel
theorem dX6_weave_82 : decode cX6_weave 82 = .ok (.iinc 3 1, 3) := by decide +kernel
theorem dX6_weave_85 : decode cX6_weave 85 = .ok (.goto (-78), 3) := by decide +kernel
theorem dX6_weave_88 : decode cX6_weave 88 = .ok (.aload_n 0, 1) := by decide +kernel
theorem dX6_weave_89 : decode cX6_weave 89 = .ok (.invokevirtual 38, 3) := by decide +kernel
theorem dX6_weave_92 : decode cX6_weave 92 = .ok (.aload_n 0, 1) := by decide +kernel
theorem dX6_weave_93 : decode cX6_weave 93 = .ok (.invokevirtual 41, 3) := by decide +kernel
theorem dX6_weave_96 : decode cX6_weave 96 = .ok (.return_, 1) := by decide +kernel
theorem gX6_weave_X6_findLevels : GoodIn wtX6_weave (wsV RX6 41 RX6 yX6_findLevels wtX6_findLevels) := tb_good (tb_v0 wd_338 wd_339 wd_340 wd_43 wd_341)
theorem gX6_weave_X6_findRings : GoodIn wtX6_weave (wsV RX6 38 RX6 yX6_findRings wtX6_findRings) := tb_good (tb_v0 wd_334 wd_335 wd_336 wd_43 wd_337)
theorem gX6_weave_X7_has_n34 : GoodIn wtX6_weave (wtX7_has) := tb_good (tb_c0 wd_312)
set_option maxHeartbeats 4000000 in
set_option maxRecDepth 100000 in
theorem m_X6_weave (l : Launch) (D : va_G) (cI cJ : ClassId) (sz : Nat) (s1 w0 w1 w2 w3 w4 w8 b6 th wn lv : Nat) (wi6 : Int32) (W0 W1 W2 W3 W4 W8 B6 : Nat → Int32) (hwn : wn < 256) (hlv : lv ≤ 8) (hth : th < 256) : Met l yX6_weave wtX6_weave { frames := 2, cells := 0, slots := 0, locals := 46 } (cPc D cI cJ [.ref s1, .int (nI th), .ref b6] sz [(oX6 s1 w0 w1 w2 w3 w4 (nI wn) wi6 (nI lv) w8), (aIc cI w0 8 W0), (aIc cI w1 8 W1), (aIc cI w2 8 W2), (aIc cI w3 8 W3), (aIc cI w4 8 W4), (aIc cI w8 8 W8), (aIc cI b6 8 B6)]) (cQv D (fun u => ∃ (W1p W2p W3p W4p W8p : Nat → Int32) (wi6p : Int32) (lvp : Nat), (lvp ≤ 8) ∧ u = [(oX6 s1 w0 w1 w2 w3 w4 (nI th) wi6p (nI lvp) w8), (aIc cI w0 8 W0), (aIc cI w1 8 W1p), (aIc cI w2 8 W2p), (aIc cI w3 8 W3p), (aIc cI w4 8 W4p), (aIc cI w8 8 W8p), (aIc cI b6 8 B6)]) (va_A [(oX6 s1 w0 w1 w2 w3 w4 (nI wn) wi6 (nI lv) w8), (aIc cI w0 8 W0), (aIc cI w1 8 W1), (aIc cI w2 8 W2), (aIc cI w3 8 W3), (aIc cI w4 8 W4), (aIc cI w8 8 W8), (aIc cI b6 8 B6)] sz)) 0 0 (va_A [(oX6 s1 w0 w1 w2 w3 w4 (nI wn) wi6 (nI lv) w8), (aIc cI w0 8 W0), (aIc cI w1 8 W1), (aIc cI w2 8 W2), (aIc cI w3 8 W3), (aIc cI w4 8 W4), (aIc cI w8 8 W8), (aIc cI b6 8 B6)] sz) := by
  refine k_ofW (Qc := cQv D (fun u => ∃ (W1p W2p W3p W4p W8p : Nat → Int32) (wi6p : Int32) (lvp : Nat), (lvp ≤ 8) ∧ u = [(oX6 s1 w0 w1 w2 w3 w4 (nI th) wi6p (nI lvp) w8), (aIc cI w0 8 W0), (aIc cI w1 8 W1p), (aIc cI w2 8 W2p), (aIc cI w3 8 W3p), (aIc cI w4 8 W4p), (aIc cI w8 8 W8p), (aIc cI b6 8 B6)])) (by decide) rfl (Nat.le_of_ble_eq_true rfl) ?_
  intro p e s m below meth c A ls hx hb hr hml hts hown hlk hnm hsz hE hP hD hS hA hl
  have hown : s.vm.findClass RX6 = some m.cls := hown
  have hiX6 : ∀ w ∈ u_ws RX6 TX6 9, w ∈ wtX6_weave := fun w h => List.mem_cons_of_mem _ (iuX6 w h)
  have hl : lv_has ls 5 [(0, .ref s1), (1, .int (nI th)), (2, .ref b6)] := hl
  refine lv_aload_n hx hb dX6_weave_0 rfl (lv_at hl 0 rfl) ?_
  refine lv_iload_n hx hb dX6_weave_1 rfl (lv_at hl 1 rfl) ?_
  refine va_put (D := D) (ci := 6) (v := .int (nI th)) (ty := .int) (C := RX6) (T := TX6) (N := 9) hx hb hts hiX6 tyX6 tyX6_ok nmX6 hown hE.1 hP hD hS 0 rfl rfl 5 (by decide) (hts _ (List.mem_cons_of_mem _ wd_333)) (fun _ h9 => h9) rfl (by decide +kernel) rfl rfl (Nat.le_of_ble_eq_true rfl) dX6_weave_2 (fun H locs hP hD hS => ?_)
  refine k_re (w := [(oX6 s1 w0 w1 w2 w3 w4 (nI th) wi6 (nI lv) w8), (aIc cI w0 8 W0), (aIc cI w1 8 W1), (aIc cI w2 8 W2), (aIc cI w3 8 W3), (aIc cI w4 8 W4), (aIc cI w8 8 W8), (aIc cI b6 8 B6)]) hP hD (fun hP hD => ?_)
  refine lv_iconst (v := 0) hx hb dX6_weave_5 (by decide) ?_
  refine lv_istore_n (lv' := [(3, .int 0), (0, .ref s1), (1, .int (nI th)), (2, .ref b6)]) hx hb dX6_weave_6 rfl hl (by decide) rfl (fun ls hl => ?_)
  have J7 : ∀ (zz : Nat) (i7 : Nat) (a_w1_7 a_w8_7 : Nat → Int32), (i7 ≤ 8) → (8 - i7) < zz → ∀ (H : Heap) (locs : List Loc) (ls : Array Slot), va_P D vwCl [(oX6 s1 w0 w1 w2 w3 w4 (nI th) wi6 (nI lv) w8), (aIc cI w0 8 W0), (aIc cI w1 8 a_w1_7), (aIc cI w2 8 W2), (aIc cI w3 8 W3), (aIc cI w4 8 W4), (aIc cI w8 8 a_w8_7), (aIc cI b6 8 B6)] H → va_D A [(oX6 s1 w0 w1 w2 w3 w4 (nI th) wi6 (nI lv) w8), (aIc cI w0 8 W0), (aIc cI w1 8 a_w1_7), (aIc cI w2 8 W2), (aIc cI w3 8 W3), (aIc cI w4 8 W4), (aIc cI w8 8 a_w8_7), (aIc cI b6 8 B6)] → va_S A s.heap H locs → lv_has ls 5 [(3, .int (nI i7)), (0, .ref s1), (1, .int (nI th)), (2, .ref b6)] → W p l e { frames := 2, cells := 0, slots := 0, locals := 46 } s m [.ref s1, .int (nI th), .ref b6].toArray below meth c H locs 0 0 (MQ below (cQv D (fun u => ∃ (W1p W2p W3p W4p W8p : Nat → Int32) (wi6p : Int32) (lvp : Nat), (lvp ≤ 8) ∧ u = [(oX6 s1 w0 w1 w2 w3 w4 (nI th) wi6p (nI lvp) w8), (aIc cI w0 8 W0), (aIc cI w1 8 W1p), (aIc cI w2 8 W2p), (aIc cI w3 8 W3p), (aIc cI w4 8 W4p), (aIc cI w8 8 W8p), (aIc cI b6 8 B6)]) A) [.ref s1, .int (nI th), .ref b6].toArray s 0 0 A) (F0 m 7 ls []) := by
    intro zz
    induction zz with
    | zero => intro i7 a_w1_7 a_w8_7 _; exact fun h => absurd h (Nat.not_lt_zero _)
    | succ zz ih7 =>
      intro i7 a_w1_7 a_w8_7 hc3_7 hmu7 H locs ls hP hD hS hl
      refine lv_iload_n hx hb dX6_weave_7 rfl (lv_at hl 0 rfl) ?_
      refine lv_bipush (v := 8) hx hb dX6_weave_8 (by decide) ?_
      refine lv_icmp_ge (tgt := 88) hx hb dX6_weave_10 (by decide) (fun c1 => ?_) (fun c1 => ?_)
      · skip
        have nc1 : 8 ≤ i7 := (nI_leI (a := 8) (b := i7) (by omega) (by omega)).mp c1
        refine lv_aload_n hx hb dX6_weave_88 rfl (lv_at hl 1 rfl) ?_
        refine k_v (va_runV (As := []) (rest := []) ⟨hx, hb, hml, hown, hts⟩ (m_X6_findRings l D cI cJ H.size s1 w0 w1 w2 w3 w4 w8 th lv wi6 W2 a_w8_7) (cwV 0 hts gX6_weave_X6_findRings rfl rfl rfl (by decide +kernel) ⟨Nat.le_of_ble_eq_true rfl, Nat.le_of_ble_eq_true rfl⟩) (k_preV hE hP hD [0, 3, 6] (by decide +kernel) rfl 0 rfl rfl) rfl rfl hl.1 rfl (lv_room (Nat.le_of_ble_eq_true rfl)) dX6_weave_89 ⟨Nat.le_of_ble_eq_true rfl, Nat.le_of_ble_eq_true rfl⟩) hP hD hS hA [0, 3, 6] [1, 2, 4, 5, 7] rfl (wr := [(aIc cI w0 8 W0), (aIc cI w1 8 a_w1_7), (aIc cI w3 8 W3), (aIc cI w4 8 W4), (aIc cI b6 8 B6)]) rfl (by decide +kernel) (by decide +kernel) (fun u H locs hw2 hP hD hS => ?_)
        obtain ⟨z3, z4, rfl⟩ := hw2
        refine k_re (w := [(aIc cI w0 8 W0), (aIc cI w1 8 a_w1_7), (aIc cI w3 8 W3), (aIc cI w4 8 W4), (aIc cI b6 8 B6), (oX6 s1 w0 w1 w2 w3 w4 (nI th) wi6 (nI lv) w8), (aIc cI w2 8 z3), (aIc cI w8 8 z4)]) hP hD (fun hP hD => ?_)
        refine lv_aload_n hx hb dX6_weave_92 rfl (lv_at hl 1 rfl) ?_
        refine k_v (va_runV (As := []) (rest := []) ⟨hx, hb, hml, hown, hts⟩ (m_X6_findLevels l D cI cJ H.size s1 w0 w1 w2 w3 w4 w8 th lv wi6 W0 a_w1_7 z3 W3 W4 (by omega) (by omega)) (cwV 0 hts gX6_weave_X6_findLevels rfl rfl rfl (by decide +kernel) ⟨Nat.le_of_ble_eq_true rfl, Nat.le_of_ble_eq_true rfl⟩) (k_preV hE hP hD [5, 0, 1, 6, 2, 3] (by decide +kernel) rfl 5 rfl rfl) rfl rfl hl.1 rfl (lv_room (Nat.le_of_ble_eq_true rfl)) dX6_weave_93 ⟨Nat.le_of_ble_eq_true rfl, Nat.le_of_ble_eq_true rfl⟩) hP hD hS hA [5, 0, 1, 6, 2, 3] [4, 7] rfl (wr := [(aIc cI b6 8 B6), (aIc cI w8 8 z4)]) rfl (by decide +kernel) (by decide +kernel) (fun u H locs hw5 hP hD hS => ?_)
        obtain ⟨z6, z7, z8, z9, hz10, rfl⟩ := hw5
        refine k_re (w := [(aIc cI b6 8 B6), (aIc cI w8 8 z4), (oX6 s1 w0 w1 w2 w3 w4 (nI th) z8 (nI z9) w8), (aIc cI w0 8 W0), (aIc cI w1 8 a_w1_7), (aIc cI w2 8 z3), (aIc cI w3 8 z6), (aIc cI w4 8 z7)]) hP hD (fun hP hD => ?_)
        refine k_vret (u := [(oX6 s1 w0 w1 w2 w3 w4 (nI th) z8 (nI z9) w8), (aIc cI w0 8 W0), (aIc cI w1 8 a_w1_7), (aIc cI w2 8 z3), (aIc cI w3 8 z6), (aIc cI w4 8 z7), (aIc cI w8 8 z4), (aIc cI b6 8 B6)]) hx hb hr hlk (k_sub hP [2, 3, 4, 5, 6, 7, 1, 0] rfl) (hD.sub [2, 3, 4, 5, 6, 7, 1, 0] (by decide +kernel) rfl) hS dX6_weave_96 ?_
        exact ⟨a_w1_7, z3, z6, z7, z4, z8, z9, (by omega), rfl⟩
      · skip
        have nc1 : ¬ 8 ≤ i7 := fun q9 => c1 ((nI_leI (a := 8) (b := i7) (by omega) (by omega)).mpr q9)
        refine lv_aload_n hx hb dX6_weave_13 rfl (lv_at hl 1 rfl) ?_
        refine va_get (D := D) (ci := 6) (v := .int (nI th)) (C := RX6) (T := TX6) (N := 9) hx hb hts hiX6 hown hE.1 hP 0 rfl rfl 5 (by decide) (hts _ (List.mem_cons_of_mem _ wd_333)) (fun _ h9 => h9) rfl dX6_weave_14 ?_
        refine lv_iload_n hx hb dX6_weave_17 rfl (lv_at hl 0 rfl) ?_
        refine k_iS (va_runSN (As := [.int (nI th), .int (nI i7)]) (rest := []) ⟨hx, hb, hml, hown, hts⟩ (m_X7_has l D cI cJ H.size (nI th) (nI i7)) ⟨va_cnB 2 hts gX6_weave_X7_has_n34 rfl rfl rfl (nwk6 hE.2) (hts _ (List.mem_cons_of_mem _ wd_2)) (by decide +kernel) ⟨Nat.le_of_ble_eq_true rfl, Nat.le_of_ble_eq_true rfl⟩, (hts _ (List.mem_cons_of_mem _ wd_311)), trivial⟩ (k_pre hE hP hD [] (by decide +kernel) rfl) rfl rfl hl.1 rfl (lv_room (Nat.le_of_ble_eq_true rfl)) dX6_weave_18 ⟨Nat.le_of_ble_eq_true rfl, Nat.le_of_ble_eq_true rfl⟩) hP hD hS hA [] rfl (fun _ _ h9 => h9.2) (fun r11 H locs hw12 hP hD hS => ?_)
        obtain ⟨hw12, -⟩ := hw12
        refine lv_if_eq (tgt := 38) hx hb dX6_weave_21 (by decide) (fun c13 => ?_) (fun c13 => ?_)
        · skip
          have hc13 : ¬ (¬ ((nI th) >>> ((nI i7) &&& 31)) &&& 1 = 0) := bz_0 hw12 c13
          refine lv_iconst (v := 0) hx hb dX6_weave_38 (by decide) ?_
          refine lv_istore (lv' := [(4, .int 0), (3, .int (nI i7)), (0, .ref s1), (1, .int (nI th)), (2, .ref b6)]) hx hb dX6_weave_39 hl (by decide) rfl (fun ls hl => ?_)
          refine lv_aload_n hx hb dX6_weave_41 rfl (lv_at hl 2 rfl) ?_
          refine va_get (D := D) (ci := 6) (v := .ref w1) (C := RX6) (T := TX6) (N := 9) hx hb hts hiX6 hown hE.1 hP 0 rfl rfl 1 (by decide) (hts _ (List.mem_cons_of_mem _ wd_80)) (fun _ h9 => h9) rfl dX6_weave_42 ?_
          refine lv_iload_n hx hb dX6_weave_45 rfl (lv_at hl 1 rfl) ?_
          refine lv_iload hx hb dX6_weave_46 (lv_at hl 0 rfl) ?_
          refine lv_if_eq (tgt := 68) hx hb dX6_weave_48 (by decide) (fun _ => ?_) (fun c14 => absurd (by decide) c14)
          refine lv_iconst (v := 0) hx hb dX6_weave_68 (by decide) ?_
          refine va_iast hx hb hE.1 hP hD hS 2 0 rfl rfl (vp_in_nI (n := i7) (by omega) (by decide)) dX6_weave_69 (fun H locs hP hD hS => ?_)
          refine k_re (w := [(oX6 s1 w0 w1 w2 w3 w4 (nI th) wi6 (nI lv) w8), (aIc cI w0 8 W0), (aIc cI w1 8 (upd a_w1_7 (Int32.toNatClampNeg (nI i7)) 0)), (aIc cI w2 8 W2), (aIc cI w3 8 W3), (aIc cI w4 8 W4), (aIc cI w8 8 a_w8_7), (aIc cI b6 8 B6)]) hP hD (fun hP hD => ?_)
          refine lv_aload_n hx hb dX6_weave_70 rfl (lv_at hl 2 rfl) ?_
          refine va_get (D := D) (ci := 6) (v := .ref w8) (C := RX6) (T := TX6) (N := 9) hx hb hts hiX6 hown hE.1 hP 0 rfl rfl 8 (by decide) (hts _ (List.mem_cons_of_mem _ wd_84)) (fun _ h9 => h9) rfl dX6_weave_71 ?_
          refine lv_iload_n hx hb dX6_weave_74 rfl (lv_at hl 1 rfl) ?_
          refine lv_aload_n hx hb dX6_weave_75 rfl (lv_at hl 2 rfl) ?_
          refine va_get (D := D) (ci := 6) (v := .ref w1) (C := RX6) (T := TX6) (N := 9) hx hb hts hiX6 hown hE.1 hP 0 rfl rfl 1 (by decide) (hts _ (List.mem_cons_of_mem _ wd_80)) (fun _ h9 => h9) rfl dX6_weave_76 ?_
          refine lv_iload_n hx hb dX6_weave_79 rfl (lv_at hl 1 rfl) ?_
          refine va_iald hx hb hE.1 hP 2 0 rfl rfl (vp_in_nI (n := i7) (by omega) (by decide)) dX6_weave_80 ?_
          refine lv_topi (fun v15 ev15 => ?_)
          refine va_iast hx hb hE.1 hP hD hS 6 0 rfl rfl (vp_in_nI (n := i7) (by omega) (by decide)) dX6_weave_81 (fun H locs hP hD hS => ?_)
          refine k_re (w := [(oX6 s1 w0 w1 w2 w3 w4 (nI th) wi6 (nI lv) w8), (aIc cI w0 8 W0), (aIc cI w1 8 (upd a_w1_7 (Int32.toNatClampNeg (nI i7)) 0)), (aIc cI w2 8 W2), (aIc cI w3 8 W3), (aIc cI w4 8 W4), (aIc cI w8 8 (upd a_w8_7 (Int32.toNatClampNeg (nI i7)) v15)), (aIc cI b6 8 B6)]) hP hD (fun hP hD => ?_)
          refine lv_iinc (v := (nI (i7 + 1))) (lv' := [(3, .int (nI (i7 + 1))), (4, .int 0), (0, .ref s1), (1, .int (nI th)), (2, .ref b6)]) hx hb dX6_weave_82 hl (k := 1) rfl (nI_1 _) (by decide) rfl (fun ls hl => ?_)
          refine lv_goto (tgt := 7) hx hb dX6_weave_85 (by decide) ?_
          exact ih7 (i7 + 1) (upd a_w1_7 (Int32.toNatClampNeg (nI i7)) 0) (upd a_w8_7 (Int32.toNatClampNeg (nI i7)) v15) (by omega) (by omega) _ _ _ hP hD hS (lv_sub hl [0, 2, 3, 4] rfl)
        · skip
          have hc13 : ¬ ((nI th) >>> ((nI i7) &&& 31)) &&& 1 = 0 := bz_1 hw12 c13
          refine lv_aload_n hx hb dX6_weave_24 rfl (lv_at hl 1 rfl) ?_
          refine va_get (D := D) (ci := 6) (v := .ref w0) (C := RX6) (T := TX6) (N := 9) hx hb hts hiX6 hown hE.1 hP 0 rfl rfl 0 (by decide) (hts _ (List.mem_cons_of_mem _ wd_79)) (fun _ h9 => h9) rfl dX6_weave_25 ?_
          refine lv_iload_n hx hb dX6_weave_28 rfl (lv_at hl 0 rfl) ?_
          refine va_iald hx hb hE.1 hP 1 0 rfl rfl (vp_in_nI (n := i7) (by omega) (by decide)) dX6_weave_29 ?_
          refine lv_topi (fun v16 ev16 => ?_)
          refine lv_iconst (v := 2) hx hb dX6_weave_30 (by decide) ?_
          refine lv_icmp_lt (tgt := 38) hx hb dX6_weave_31 (by decide) (fun c17 => ?_) (fun c17 => ?_)
          · skip
            refine lv_iconst (v := 0) hx hb dX6_weave_38 (by decide) ?_
            refine lv_istore (lv' := [(4, .int 0), (3, .int (nI i7)), (0, .ref s1), (1, .int (nI th)), (2, .ref b6)]) hx hb dX6_weave_39 hl (by decide) rfl (fun ls hl => ?_)
            refine lv_aload_n hx hb dX6_weave_41 rfl (lv_at hl 2 rfl) ?_
            refine va_get (D := D) (ci := 6) (v := .ref w1) (C := RX6) (T := TX6) (N := 9) hx hb hts hiX6 hown hE.1 hP 0 rfl rfl 1 (by decide) (hts _ (List.mem_cons_of_mem _ wd_80)) (fun _ h9 => h9) rfl dX6_weave_42 ?_
            refine lv_iload_n hx hb dX6_weave_45 rfl (lv_at hl 1 rfl) ?_
            refine lv_iload hx hb dX6_weave_46 (lv_at hl 0 rfl) ?_
            refine lv_if_eq (tgt := 68) hx hb dX6_weave_48 (by decide) (fun _ => ?_) (fun c18 => absurd (by decide) c18)
            refine lv_iconst (v := 0) hx hb dX6_weave_68 (by decide) ?_
            refine va_iast hx hb hE.1 hP hD hS 2 0 rfl rfl (vp_in_nI (n := i7) (by omega) (by decide)) dX6_weave_69 (fun H locs hP hD hS => ?_)
            refine k_re (w := [(oX6 s1 w0 w1 w2 w3 w4 (nI th) wi6 (nI lv) w8), (aIc cI w0 8 W0), (aIc cI w1 8 (upd a_w1_7 (Int32.toNatClampNeg (nI i7)) 0)), (aIc cI w2 8 W2), (aIc cI w3 8 W3), (aIc cI w4 8 W4), (aIc cI w8 8 a_w8_7), (aIc cI b6 8 B6)]) hP hD (fun hP hD => ?_)
            refine lv_aload_n hx hb dX6_weave_70 rfl (lv_at hl 2 rfl) ?_
            refine va_get (D := D) (ci := 6) (v := .ref w8) (C := RX6) (T := TX6) (N := 9) hx hb hts hiX6 hown hE.1 hP 0 rfl rfl 8 (by decide) (hts _ (List.mem_cons_of_mem _ wd_84)) (fun _ h9 => h9) rfl dX6_weave_71 ?_
            refine lv_iload_n hx hb dX6_weave_74 rfl (lv_at hl 1 rfl) ?_
            refine lv_aload_n hx hb dX6_weave_75 rfl (lv_at hl 2 rfl) ?_
            refine va_get (D := D) (ci := 6) (v := .ref w1) (C := RX6) (T := TX6) (N := 9) hx hb hts hiX6 hown hE.1 hP 0 rfl rfl 1 (by decide) (hts _ (List.mem_cons_of_mem _ wd_80)) (fun _ h9 => h9) rfl dX6_weave_76 ?_
            refine lv_iload_n hx hb dX6_weave_79 rfl (lv_at hl 1 rfl) ?_
            refine va_iald hx hb hE.1 hP 2 0 rfl rfl (vp_in_nI (n := i7) (by omega) (by decide)) dX6_weave_80 ?_
            refine lv_topi (fun v19 ev19 => ?_)
            refine va_iast hx hb hE.1 hP hD hS 6 0 rfl rfl (vp_in_nI (n := i7) (by omega) (by decide)) dX6_weave_81 (fun H locs hP hD hS => ?_)
            refine k_re (w := [(oX6 s1 w0 w1 w2 w3 w4 (nI th) wi6 (nI lv) w8), (aIc cI w0 8 W0), (aIc cI w1 8 (upd a_w1_7 (Int32.toNatClampNeg (nI i7)) 0)), (aIc cI w2 8 W2), (aIc cI w3 8 W3), (aIc cI w4 8 W4), (aIc cI w8 8 (upd a_w8_7 (Int32.toNatClampNeg (nI i7)) v19)), (aIc cI b6 8 B6)]) hP hD (fun hP hD => ?_)
            refine lv_iinc (v := (nI (i7 + 1))) (lv' := [(3, .int (nI (i7 + 1))), (4, .int 0), (0, .ref s1), (1, .int (nI th)), (2, .ref b6)]) hx hb dX6_weave_82 hl (k := 1) rfl (nI_1 _) (by decide) rfl (fun ls hl => ?_)
            refine lv_goto (tgt := 7) hx hb dX6_weave_85 (by decide) ?_
            exact ih7 (i7 + 1) (upd a_w1_7 (Int32.toNatClampNeg (nI i7)) 0) (upd a_w8_7 (Int32.toNatClampNeg (nI i7)) v19) (by omega) (by omega) _ _ _ hP hD hS (lv_sub hl [0, 2, 3, 4] rfl)
          · skip
            refine lv_iconst (v := 1) hx hb dX6_weave_34 (by decide) ?_
            refine lv_goto (tgt := 39) hx hb dX6_weave_35 (by decide) ?_
            refine lv_istore (lv' := [(4, .int 1), (3, .int (nI i7)), (0, .ref s1), (1, .int (nI th)), (2, .ref b6)]) hx hb dX6_weave_39 hl (by decide) rfl (fun ls hl => ?_)
            refine lv_aload_n hx hb dX6_weave_41 rfl (lv_at hl 2 rfl) ?_
            refine va_get (D := D) (ci := 6) (v := .ref w1) (C := RX6) (T := TX6) (N := 9) hx hb hts hiX6 hown hE.1 hP 0 rfl rfl 1 (by decide) (hts _ (List.mem_cons_of_mem _ wd_80)) (fun _ h9 => h9) rfl dX6_weave_42 ?_
            refine lv_iload_n hx hb dX6_weave_45 rfl (lv_at hl 1 rfl) ?_
            refine lv_iload hx hb dX6_weave_46 (lv_at hl 0 rfl) ?_
            refine lv_if_eq (tgt := 68) hx hb dX6_weave_48 (by decide) (fun c20 => absurd c20 (by decide)) (fun _ => ?_)
            refine lv_aload_n hx hb dX6_weave_51 rfl (lv_at hl 4 rfl) ?_
            refine lv_iload_n hx hb dX6_weave_52 rfl (lv_at hl 1 rfl) ?_
            refine va_iald hx hb hE.1 hP 7 0 rfl rfl (vp_in_nI (n := i7) (by omega) (by decide)) dX6_weave_53 ?_
            refine lv_topi (fun v21 ev21 => ?_)
            refine lv_aload_n hx hb dX6_weave_54 rfl (lv_at hl 2 rfl) ?_
            refine va_get (D := D) (ci := 6) (v := .int (nI th)) (C := RX6) (T := TX6) (N := 9) hx hb hts hiX6 hown hE.1 hP 0 rfl rfl 5 (by decide) (hts _ (List.mem_cons_of_mem _ wd_333)) (fun _ h9 => h9) rfl dX6_weave_55 ?_
            refine lv_iand hx hb dX6_weave_58 ?_
            refine lv_topi (fun v22 ev22 => ?_)
            refine lv_iconst (v := 1) hx hb dX6_weave_59 (by decide) ?_
            refine lv_iload_n hx hb dX6_weave_60 rfl (lv_at hl 1 rfl) ?_
            refine lv_ishl hx hb dX6_weave_61 ?_
            refine lv_topi (fun v23 ev23 => ?_)
            refine lv_iconst (v := (-1)) hx hb dX6_weave_62 (by decide) ?_
            refine lv_ixor hx hb dX6_weave_63 ?_
            refine lv_topi (fun v24 ev24 => ?_)
            refine lv_iand hx hb dX6_weave_64 ?_
            refine lv_topi (fun v25 ev25 => ?_)
            refine lv_goto (tgt := 69) hx hb dX6_weave_65 (by decide) ?_
            refine va_iast hx hb hE.1 hP hD hS 2 0 rfl rfl (vp_in_nI (n := i7) (by omega) (by decide)) dX6_weave_69 (fun H locs hP hD hS => ?_)
            refine k_re (w := [(oX6 s1 w0 w1 w2 w3 w4 (nI th) wi6 (nI lv) w8), (aIc cI w0 8 W0), (aIc cI w1 8 (upd a_w1_7 (Int32.toNatClampNeg (nI i7)) v25)), (aIc cI w2 8 W2), (aIc cI w3 8 W3), (aIc cI w4 8 W4), (aIc cI w8 8 a_w8_7), (aIc cI b6 8 B6)]) hP hD (fun hP hD => ?_)
            refine lv_aload_n hx hb dX6_weave_70 rfl (lv_at hl 2 rfl) ?_
            refine va_get (D := D) (ci := 6) (v := .ref w8) (C := RX6) (T := TX6) (N := 9) hx hb hts hiX6 hown hE.1 hP 0 rfl rfl 8 (by decide) (hts _ (List.mem_cons_of_mem _ wd_84)) (fun _ h9 => h9) rfl dX6_weave_71 ?_
            refine lv_iload_n hx hb dX6_weave_74 rfl (lv_at hl 1 rfl) ?_
            refine lv_aload_n hx hb dX6_weave_75 rfl (lv_at hl 2 rfl) ?_
            refine va_get (D := D) (ci := 6) (v := .ref w1) (C := RX6) (T := TX6) (N := 9) hx hb hts hiX6 hown hE.1 hP 0 rfl rfl 1 (by decide) (hts _ (List.mem_cons_of_mem _ wd_80)) (fun _ h9 => h9) rfl dX6_weave_76 ?_
            refine lv_iload_n hx hb dX6_weave_79 rfl (lv_at hl 1 rfl) ?_
            refine va_iald hx hb hE.1 hP 2 0 rfl rfl (vp_in_nI (n := i7) (by omega) (by decide)) dX6_weave_80 ?_
            refine lv_topi (fun v26 ev26 => ?_)
            refine va_iast hx hb hE.1 hP hD hS 6 0 rfl rfl (vp_in_nI (n := i7) (by omega) (by decide)) dX6_weave_81 (fun H locs hP hD hS => ?_)
            refine k_re (w := [(oX6 s1 w0 w1 w2 w3 w4 (nI th) wi6 (nI lv) w8), (aIc cI w0 8 W0), (aIc cI w1 8 (upd a_w1_7 (Int32.toNatClampNeg (nI i7)) v25)), (aIc cI w2 8 W2), (aIc cI w3 8 W3), (aIc cI w4 8 W4), (aIc cI w8 8 (upd a_w8_7 (Int32.toNatClampNeg (nI i7)) v26)), (aIc cI b6 8 B6)]) hP hD (fun hP hD => ?_)
            refine lv_iinc (v := (nI (i7 + 1))) (lv' := [(3, .int (nI (i7 + 1))), (4, .int 1), (0, .ref s1), (1, .int (nI th)), (2, .ref b6)]) hx hb dX6_weave_82 hl (k := 1) rfl (nI_1 _) (by decide) rfl (fun ls hl => ?_)
            refine lv_goto (tgt := 7) hx hb dX6_weave_85 (by decide) ?_
            exact ih7 (i7 + 1) (upd a_w1_7 (Int32.toNatClampNeg (nI i7)) v25) (upd a_w8_7 (Int32.toNatClampNeg (nI i7)) v26) (by omega) (by omega) _ _ _ hP hD hS (lv_sub hl [0, 2, 3, 4] rfl)
  exact J7 _ 0 W1 W8 (by omega) (Nat.lt_succ_self _) _ _ _ hP hD hS (lv_sub hl [0, 1, 2, 3] rfl)
theorem dX6_countYields_0 : decode cX6_countYields 0 = .ok (.iconst 0, 1) := by decide +kernel
theorem dX6_countYields_1 : decode cX6_countYields 1 = .ok (.istore_n 1, 1) := by decide +kernel
theorem dX6_countYields_2 : decode cX6_countYields 2 = .ok (.iconst 0, 1) := by decide +kernel
theorem dX6_countYields_3 : decode cX6_countYields 3 = .ok (.istore_n 2, 1) := by decide +kernel
theorem dX6_countYields_4 : decode cX6_countYields 4 = .ok (.iload_n 2, 1) := by decide +kernel
theorem dX6_countYields_5 : decode cX6_countYields 5 = .ok (.bipush 8, 2) := by decide +kernel
theorem dX6_countYields_7 : decode cX6_countYields 7 = .ok (.if_icmp .ge 21, 3) := by decide +kernel
theorem dX6_countYields_10 : decode cX6_countYields 10 = .ok (.iload_n 1, 1) := by decide +kernel
theorem dX6_countYields_11 : decode cX6_countYields 11 = .ok (.aload_n 0, 1) := by decide +kernel
theorem dX6_countYields_12 : decode cX6_countYields 12 = .ok (.getfield 15, 3) := by decide +kernel
theorem dX6_countYields_15 : decode cX6_countYields 15 = .ok (.iload_n 2, 1) := by decide +kernel
theorem dX6_countYields_16 : decode cX6_countYields 16 = .ok (.iaload, 1) := by decide +kernel
theorem dX6_countYields_17 : decode cX6_countYields 17 = .ok (.invokestatic 60, 3) := by decide +kernel
theorem dX6_countYields_20 : decode cX6_countYields 20 = .ok (.iadd, 1) := by decide +kernel
theorem dX6_countYields_21 : decode cX6_countYields 21 = .ok (.istore_n 1, 1) := by decide +kernel
theorem dX6_countYields_22 : decode cX6_countYields 22 = .ok (.iinc 2 1, 3) := by decide +kernel
theorem dX6_countYields_25 : decode cX6_countYields 25 = .ok (.goto (-21), 3) := by decide +kernel
theorem dX6_countYields_28 : decode cX6_countYields 28 = .ok (.iload_n 1, 1) := by decide +kernel
theorem dX6_countYields_29 : decode cX6_countYields 29 = .ok (.ireturn, 1) := by decide +kernel
theorem gX6_countYields_J6_bitCount_0f7a4 : GoodIn wtX6_countYields (va_wsS RX6 60 yJ6_bitCount_0f7a4 wtJ6_bitCount_0f7a4) := tb_good (tb_s0 wd_539 wd_540 wd_541 wd_542)
set_option maxHeartbeats 4000000 in
set_option maxRecDepth 100000 in
theorem m_X6_countYields (l : Launch) (D : va_G) (cI cJ : ClassId) (sz : Nat) (s1 w0 w1 w2 w3 w4 w8 wn lv : Nat) (wi6 : Int32) (W1 : Nat → Int32) : Met l yX6_countYields wtX6_countYields { frames := 1, cells := 0, slots := 0, locals := 20 } (cPc D cI cJ [.ref s1] sz [(oX6 s1 w0 w1 w2 w3 w4 (nI wn) wi6 (nI lv) w8), (aIc cI w1 8 W1)]) (cQi D (fun r u => u = [(oX6 s1 w0 w1 w2 w3 w4 (nI wn) wi6 (nI lv) w8), (aIc cI w1 8 W1)]) (va_A [(oX6 s1 w0 w1 w2 w3 w4 (nI wn) wi6 (nI lv) w8), (aIc cI w1 8 W1)] sz)) 0 0 (va_A [(oX6 s1 w0 w1 w2 w3 w4 (nI wn) wi6 (nI lv) w8), (aIc cI w1 8 W1)] sz) := by
  refine k_ofW (Qc := cQi D (fun r u => u = [(oX6 s1 w0 w1 w2 w3 w4 (nI wn) wi6 (nI lv) w8), (aIc cI w1 8 W1)])) (by decide) rfl (Nat.le_of_ble_eq_true rfl) ?_
  intro p e s m below meth c A ls hx hb hr hml hts hown hlk hnm hsz hE hP hD hS hA hl
  have hown : s.vm.findClass RX6 = some m.cls := hown
  have hiX6 : ∀ w ∈ u_ws RX6 TX6 9, w ∈ wtX6_countYields := fun w h => List.mem_cons_of_mem _ (iuX6 w h)
  have hl : lv_has ls 3 [(0, .ref s1)] := hl
  refine lv_iconst (v := 0) hx hb dX6_countYields_0 (by decide) ?_
  refine lv_istore_n (lv' := [(1, .int 0), (0, .ref s1)]) hx hb dX6_countYields_1 rfl hl (by decide) rfl (fun ls hl => ?_)
  refine lv_iconst (v := 0) hx hb dX6_countYields_2 (by decide) ?_
  refine lv_istore_n (lv' := [(2, .int 0), (1, .int 0), (0, .ref s1)]) hx hb dX6_countYields_3 rfl hl (by decide) rfl (fun ls hl => ?_)
  have J4 : ∀ (zz : Nat) (i4 : Nat) (h1_4 : Int32), (i4 ≤ 8) → (8 - i4) < zz → ∀ (H : Heap) (locs : List Loc) (ls : Array Slot), va_P D vwCl [(oX6 s1 w0 w1 w2 w3 w4 (nI wn) wi6 (nI lv) w8), (aIc cI w1 8 W1)] H → va_D A [(oX6 s1 w0 w1 w2 w3 w4 (nI wn) wi6 (nI lv) w8), (aIc cI w1 8 W1)] → va_S A s.heap H locs → lv_has ls 3 [(2, .int (nI i4)), (1, .int h1_4), (0, .ref s1)] → W p l e { frames := 1, cells := 0, slots := 0, locals := 20 } s m [.ref s1].toArray below meth c H locs 0 0 (MQ below (cQi D (fun r u => u = [(oX6 s1 w0 w1 w2 w3 w4 (nI wn) wi6 (nI lv) w8), (aIc cI w1 8 W1)]) A) [.ref s1].toArray s 0 0 A) (F0 m 4 ls []) := by
    intro zz
    induction zz with
    | zero => intro i4 h1_4 _; exact fun h => absurd h (Nat.not_lt_zero _)
    | succ zz ih4 =>
      intro i4 h1_4 hc2_4 hmu4 H locs ls hP hD hS hl
      refine lv_iload_n hx hb dX6_countYields_4 rfl (lv_at hl 0 rfl) ?_
      refine lv_bipush (v := 8) hx hb dX6_countYields_5 (by decide) ?_
      refine lv_icmp_ge (tgt := 28) hx hb dX6_countYields_7 (by decide) (fun c1 => ?_) (fun c1 => ?_)
      · skip
        have nc1 : 8 ≤ i4 := (nI_leI (a := 8) (b := i4) (by omega) (by omega)).mp c1
        refine lv_iload_n hx hb dX6_countYields_28 rfl (lv_at hl 1 rfl) ?_
        refine k_iret (u := [(oX6 s1 w0 w1 w2 w3 w4 (nI wn) wi6 (nI lv) w8), (aIc cI w1 8 W1)]) hx hb hr hlk hP hD hS dX6_countYields_29 ?_
        exact rfl
      · skip
        have nc1 : ¬ 8 ≤ i4 := fun q9 => c1 ((nI_leI (a := 8) (b := i4) (by omega) (by omega)).mpr q9)
        refine lv_iload_n hx hb dX6_countYields_10 rfl (lv_at hl 1 rfl) ?_
        refine lv_aload_n hx hb dX6_countYields_11 rfl (lv_at hl 2 rfl) ?_
        refine va_get (D := D) (ci := 6) (v := .ref w1) (C := RX6) (T := TX6) (N := 9) hx hb hts hiX6 hown hE.1 hP 0 rfl rfl 1 (by decide) (hts _ (List.mem_cons_of_mem _ wd_80)) (fun _ h9 => h9) rfl dX6_countYields_12 ?_
        refine lv_iload_n hx hb dX6_countYields_15 rfl (lv_at hl 0 rfl) ?_
        refine va_iald hx hb hE.1 hP 1 0 rfl rfl (vp_in_nI (n := i4) (by omega) (by decide)) dX6_countYields_16 ?_
        refine lv_topi (fun v2 ev2 => ?_)
        refine k_iS (va_runS (As := [.int v2]) (rest := [.int h1_4]) ⟨hx, hb, hml, hown, hts⟩ (m_bitCount l D cI cJ H.size v2) (va_cwS 1 hts gX6_countYields_J6_bitCount_0f7a4 rfl rfl rfl (by decide +kernel) ⟨Nat.le_of_ble_eq_true rfl, Nat.le_of_ble_eq_true rfl⟩) (k_pre hE hP hD [] (by decide +kernel) rfl) rfl rfl hl.1 rfl (lv_room (Nat.le_of_ble_eq_true rfl)) dX6_countYields_17 ⟨Nat.le_of_ble_eq_true rfl, Nat.le_of_ble_eq_true rfl⟩) hP hD hS hA [] rfl (fun _ _ ⟨_, h9⟩ => h9) (fun r3 H locs hw4 hP hD hS => ?_)
        obtain ⟨rfl, -⟩ := hw4
        refine lv_iadd hx hb dX6_countYields_20 ?_
        refine lv_topi (fun v5 ev5 => ?_)
        refine lv_istore_n (lv' := [(1, .int v5), (2, .int (nI i4)), (0, .ref s1)]) hx hb dX6_countYields_21 rfl hl (by decide) rfl (fun ls hl => ?_)
        refine lv_iinc (v := (nI (i4 + 1))) (lv' := [(2, .int (nI (i4 + 1))), (1, .int v5), (0, .ref s1)]) hx hb dX6_countYields_22 hl (k := 1) rfl (nI_1 _) (by decide) rfl (fun ls hl => ?_)
        refine lv_goto (tgt := 4) hx hb dX6_countYields_25 (by decide) ?_
        exact ih4 (i4 + 1) v5 (by omega) (by omega) _ _ _ hP hD hS (lv_sub hl [0, 1, 2] rfl)
  exact J4 _ 0 0 (by omega) (Nat.lt_succ_self _) _ _ _ hP hD hS (lv_sub hl [0, 1, 2] rfl)
theorem dX6_countTrueYields_0 : decode cX6_countTrueYields 0 = .ok (.iconst 0, 1) := by decide +kernel
theorem dX6_countTrueYields_1 : decode cX6_countTrueYields 1 = .ok (.istore_n 1, 1) := by decide +kernel
theorem dX6_countTrueYields_2 : decode cX6_countTrueYields 2 = .ok (.iconst 0, 1) := by decide +kernel
theorem dX6_countTrueYields_3 : decode cX6_countTrueYields 3 = .ok (.istore_n 2, 1) := by decide +kernel
theorem dX6_countTrueYields_4 : decode cX6_countTrueYields 4 = .ok (.iload_n 2, 1) := by decide +kernel
theorem dX6_countTrueYields_5 : decode cX6_countTrueYields 5 = .ok (.bipush 8, 2) := by decide +kernel
theorem dX6_countTrueYields_7 : decode cX6_countTrueYields 7 = .ok (.if_icmp .ge 20, 3) := by decide +kernel
theorem dX6_countTrueYields_10 : decode cX6_countTrueYields 10 = .ok (.iload_n 1, 1) := by decide +kernel
theorem dX6_countTrueYields_11 : decode cX6_countTrueYields 11 = .ok (.aload_n 0, 1) := by decide +kernel
theorem dX6_countTrueYields_12 : decode cX6_countTrueYields 12 = .ok (.iload_n 2, 1) := by decide +kernel
theorem dX6_countTrueYields_13 : decode cX6_countTrueYields 13 = .ok (.invokevirtual 56, 3) := by decide +kernel
theorem dX6_countTrueYields_16 : decode cX6_countTrueYields 16 = .ok (.invokestatic 60, 3) := by decide +kernel
theorem dX6_countTrueYields_19 : decode cX6_countTrueYields 19 = .ok (.iadd, 1) := by decide +kernel
theorem dX6_countTrueYields_20 : decode cX6_countTrueYields 20 = .ok (.istore_n 1, 1) := by decide +kernel
theorem dX6_countTrueYields_21 : decode cX6_countTrueYields 21 = .ok (.iinc 2 1, 3) := by decide +kernel
theorem dX6_countTrueYields_24 : decode cX6_countTrueYields 24 = .ok (.goto (-20), 3) := by decide +kernel
theorem dX6_countTrueYields_27 : decode cX6_countTrueYields 27 = .ok (.iload_n 1, 1) := by decide +kernel
theorem dX6_countTrueYields_28 : decode cX6_countTrueYields 28 = .ok (.ireturn, 1) := by decide +kernel
theorem gX6_countTrueYields_J6_bitCount_0f7a4 : GoodIn wtX6_countTrueYields (va_wsS RX6 60 yJ6_bitCount_0f7a4 wtJ6_bitCount_0f7a4) := tb_good (tb_s0 wd_539 wd_540 wd_541 wd_542)
theorem gX6_countTrueYields_X6_trueYields : GoodIn wtX6_countTrueYields (wsV RX6 56 RX6 yX6_trueYields wtX6_trueYields) := tb_good (tb_v0 wd_345 wd_346 wd_347 wd_43 wd_348)
set_option maxHeartbeats 4000000 in
set_option maxRecDepth 100000 in
theorem m_X6_countTrueYields (l : Launch) (D : va_G) (cI cJ : ClassId) (sz : Nat) (s1 w0 w1 w2 w3 w4 w8 wn lv : Nat) (wi6 : Int32) (W1 W2 : Nat → Int32) : Met l yX6_countTrueYields wtX6_countTrueYields { frames := 1, cells := 0, slots := 0, locals := 21 } (cPc D cI cJ [.ref s1] sz [(oX6 s1 w0 w1 w2 w3 w4 (nI wn) wi6 (nI lv) w8), (aIc cI w1 8 W1), (aIc cI w2 8 W2)]) (cQi D (fun r u => u = [(oX6 s1 w0 w1 w2 w3 w4 (nI wn) wi6 (nI lv) w8), (aIc cI w1 8 W1), (aIc cI w2 8 W2)]) (va_A [(oX6 s1 w0 w1 w2 w3 w4 (nI wn) wi6 (nI lv) w8), (aIc cI w1 8 W1), (aIc cI w2 8 W2)] sz)) 0 0 (va_A [(oX6 s1 w0 w1 w2 w3 w4 (nI wn) wi6 (nI lv) w8), (aIc cI w1 8 W1), (aIc cI w2 8 W2)] sz) := by
  refine k_ofW (Qc := cQi D (fun r u => u = [(oX6 s1 w0 w1 w2 w3 w4 (nI wn) wi6 (nI lv) w8), (aIc cI w1 8 W1), (aIc cI w2 8 W2)])) (by decide) rfl (Nat.le_of_ble_eq_true rfl) ?_
  intro p e s m below meth c A ls hx hb hr hml hts hown hlk hnm hsz hE hP hD hS hA hl
  have hown : s.vm.findClass RX6 = some m.cls := hown
  have hl : lv_has ls 3 [(0, .ref s1)] := hl
  refine lv_iconst (v := 0) hx hb dX6_countTrueYields_0 (by decide) ?_
  refine lv_istore_n (lv' := [(1, .int 0), (0, .ref s1)]) hx hb dX6_countTrueYields_1 rfl hl (by decide) rfl (fun ls hl => ?_)
  refine lv_iconst (v := 0) hx hb dX6_countTrueYields_2 (by decide) ?_
  refine lv_istore_n (lv' := [(2, .int 0), (1, .int 0), (0, .ref s1)]) hx hb dX6_countTrueYields_3 rfl hl (by decide) rfl (fun ls hl => ?_)
  have J4 : ∀ (zz : Nat) (i4 : Nat) (h1_4 : Int32), (i4 ≤ 8) → (8 - i4) < zz → ∀ (H : Heap) (locs : List Loc) (ls : Array Slot), va_P D vwCl [(oX6 s1 w0 w1 w2 w3 w4 (nI wn) wi6 (nI lv) w8), (aIc cI w1 8 W1), (aIc cI w2 8 W2)] H → va_D A [(oX6 s1 w0 w1 w2 w3 w4 (nI wn) wi6 (nI lv) w8), (aIc cI w1 8 W1), (aIc cI w2 8 W2)] → va_S A s.heap H locs → lv_has ls 3 [(2, .int (nI i4)), (1, .int h1_4), (0, .ref s1)] → W p l e { frames := 1, cells := 0, slots := 0, locals := 21 } s m [.ref s1].toArray below meth c H locs 0 0 (MQ below (cQi D (fun r u => u = [(oX6 s1 w0 w1 w2 w3 w4 (nI wn) wi6 (nI lv) w8), (aIc cI w1 8 W1), (aIc cI w2 8 W2)]) A) [.ref s1].toArray s 0 0 A) (F0 m 4 ls []) := by
    intro zz
    induction zz with
    | zero => intro i4 h1_4 _; exact fun h => absurd h (Nat.not_lt_zero _)
    | succ zz ih4 =>
      intro i4 h1_4 hc2_4 hmu4 H locs ls hP hD hS hl
      refine lv_iload_n hx hb dX6_countTrueYields_4 rfl (lv_at hl 0 rfl) ?_
      refine lv_bipush (v := 8) hx hb dX6_countTrueYields_5 (by decide) ?_
      refine lv_icmp_ge (tgt := 27) hx hb dX6_countTrueYields_7 (by decide) (fun c1 => ?_) (fun c1 => ?_)
      · skip
        have nc1 : 8 ≤ i4 := (nI_leI (a := 8) (b := i4) (by omega) (by omega)).mp c1
        refine lv_iload_n hx hb dX6_countTrueYields_27 rfl (lv_at hl 1 rfl) ?_
        refine k_iret (u := [(oX6 s1 w0 w1 w2 w3 w4 (nI wn) wi6 (nI lv) w8), (aIc cI w1 8 W1), (aIc cI w2 8 W2)]) hx hb hr hlk hP hD hS dX6_countTrueYields_28 ?_
        exact rfl
      · skip
        have nc1 : ¬ 8 ≤ i4 := fun q9 => c1 ((nI_leI (a := 8) (b := i4) (by omega) (by omega)).mpr q9)
        refine lv_iload_n hx hb dX6_countTrueYields_10 rfl (lv_at hl 1 rfl) ?_
        refine lv_aload_n hx hb dX6_countTrueYields_11 rfl (lv_at hl 2 rfl) ?_
        refine lv_iload_n hx hb dX6_countTrueYields_12 rfl (lv_at hl 0 rfl) ?_
        refine k_iS (va_runV (As := [.int (nI i4)]) (rest := [.int h1_4]) ⟨hx, hb, hml, hown, hts⟩ (m_X6_trueYields l D cI cJ H.size s1 w0 w1 w2 w3 w4 w8 i4 wn lv wi6 W1 W2 (by omega)) (cwV 1 hts gX6_countTrueYields_X6_trueYields rfl rfl rfl (by decide +kernel) ⟨Nat.le_of_ble_eq_true rfl, Nat.le_of_ble_eq_true rfl⟩) (k_preV hE hP hD [0, 1, 2] (by decide +kernel) rfl 0 rfl rfl) rfl rfl hl.1 rfl (lv_room (Nat.le_of_ble_eq_true rfl)) dX6_countTrueYields_13 ⟨Nat.le_of_ble_eq_true rfl, Nat.le_of_ble_eq_true rfl⟩) hP hD hS hA [0, 1, 2] rfl (fun _ _ h9 => h9) (fun r2 H locs hw3 hP hD hS => ?_)
        refine k_iS (va_runS (As := [.int r2]) (rest := [.int h1_4]) ⟨hx, hb, hml, hown, hts⟩ (m_bitCount l D cI cJ H.size r2) (va_cwS 1 hts gX6_countTrueYields_J6_bitCount_0f7a4 rfl rfl rfl (by decide +kernel) ⟨Nat.le_of_ble_eq_true rfl, Nat.le_of_ble_eq_true rfl⟩) (k_pre hE hP hD [] (by decide +kernel) rfl) rfl rfl hl.1 rfl (lv_room (Nat.le_of_ble_eq_true rfl)) dX6_countTrueYields_16 ⟨Nat.le_of_ble_eq_true rfl, Nat.le_of_ble_eq_true rfl⟩) hP hD hS hA [] rfl (fun _ _ ⟨_, h9⟩ => h9) (fun r4 H locs hw5 hP hD hS => ?_)
        obtain ⟨rfl, -⟩ := hw5
        refine lv_iadd hx hb dX6_countTrueYields_19 ?_
        refine lv_topi (fun v6 ev6 => ?_)
        refine lv_istore_n (lv' := [(1, .int v6), (2, .int (nI i4)), (0, .ref s1)]) hx hb dX6_countTrueYields_20 rfl hl (by decide) rfl (fun ls hl => ?_)
        refine lv_iinc (v := (nI (i4 + 1))) (lv' := [(2, .int (nI (i4 + 1))), (1, .int v6), (0, .ref s1)]) hx hb dX6_countTrueYields_21 hl (k := 1) rfl (nI_1 _) (by decide) rfl (fun ls hl => ?_)
        refine lv_goto (tgt := 4) hx hb dX6_countTrueYields_24 (by decide) ?_
        exact ih4 (i4 + 1) v6 (by omega) (by omega) _ _ _ hP hD hS (lv_sub hl [0, 1, 2] rfl)
  exact J4 _ 0 0 (by omega) (Nat.lt_succ_self _) _ _ _ hP hD hS (lv_sub hl [0, 1, 2] rfl)
theorem dX6_isLeastOfRing_0 : decode cX6_isLeastOfRing 0 = .ok (.aload_n 0, 1) := by decide +kernel
theorem dX6_isLeastOfRing_1 : decode cX6_isLeastOfRing 1 = .ok (.getfield 18, 3) := by decide +kernel
theorem dX6_isLeastOfRing_4 : decode cX6_isLeastOfRing 4 = .ok (.iload_n 1, 1) := by decide +kernel
theorem dX6_isLeastOfRing_5 : decode cX6_isLeastOfRing 5 = .ok (.iaload, 1) := by decide +kernel
theorem dX6_isLeastOfRing_6 : decode cX6_isLeastOfRing 6 = .ok (.ifCond .eq 22, 3) := by decide +kernel
theorem dX6_isLeastOfRing_9 : decode cX6_isLeastOfRing 9 = .ok (.aload_n 0, 1) := by decide +kernel
theorem dX6_isLeastOfRing_10 : decode cX6_isLeastOfRing 10 = .ok (.getfield 18, 3) := by decide +kernel
theorem dX6_isLeastOfRing_13 : decode cX6_isLeastOfRing 13 = .ok (.iload_n 1, 1) := by decide +kernel
theorem dX6_isLeastOfRing_14 : decode cX6_isLeastOfRing 14 = .ok (.iaload, 1) := by decide +kernel
theorem dX6_isLeastOfRing_15 : decode cX6_isLeastOfRing 15 = .ok (.iconst 1, 1) := by decide +kernel
theorem dX6_isLeastOfRing_16 : decode cX6_isLeastOfRing 16 = .ok (.iload_n 1, 1) := by decide +kernel
theorem dX6_isLeastOfRing_17 : decode cX6_isLeastOfRing 17 = .ok (.ishl, 1) := by decide +kernel
theorem dX6_isLeastOfRing_18 : decode cX6_isLeastOfRing 18 = .ok (.iconst 1, 1) := by decide +kernel
theorem dX6_isLeastOfRing_19 : decode cX6_isLeastOfRing 19 = .ok (.isub, 1) := by decide +kernel
theorem dX6_isLeastOfRing_20 : decode cX6_isLeastOfRing 20 = .ok (.iand, 1) := by decide +kernel
theorem dX6_isLeastOfRing_21 : decode cX6_isLeastOfRing 21 = .ok (.ifCond .ne 7, 3) := by decide +kernel
theorem dX6_isLeastOfRing_24 : decode cX6_isLeastOfRing 24 = .ok (.iconst 1, 1) := by decide +kernel
theorem dX6_isLeastOfRing_25 : decode cX6_isLeastOfRing 25 = .ok (.goto 4, 3) := by decide +kernel
theorem dX6_isLeastOfRing_28 : decode cX6_isLeastOfRing 28 = .ok (.iconst 0, 1) := by decide +kernel
theorem dX6_isLeastOfRing_29 : decode cX6_isLeastOfRing 29 = .ok (.ireturn, 1) := by decide +kernel
set_option maxHeartbeats 4000000 in
set_option maxRecDepth 100000 in
theorem m_X6_isLeastOfRing (l : Launch) (D : va_G) (cI cJ : ClassId) (sz : Nat) (s1 w0 w1 w2 w3 w4 w8 p0 wn lv : Nat) (wi6 : Int32) (W2 : Nat → Int32) (hp : p0 < 8) : Met l yX6_isLeastOfRing wtX6_isLeastOfRing { frames := 0, cells := 0, slots := 0, locals := 0 } (cPc D cI cJ [.ref s1, .int (nI p0)] sz [(oX6 s1 w0 w1 w2 w3 w4 (nI wn) wi6 (nI lv) w8), (aIc cI w2 8 W2)]) (cQi D (fun r u => (r = 0 ∨ r = 1) ∧ u = [(oX6 s1 w0 w1 w2 w3 w4 (nI wn) wi6 (nI lv) w8), (aIc cI w2 8 W2)]) (va_A [(oX6 s1 w0 w1 w2 w3 w4 (nI wn) wi6 (nI lv) w8), (aIc cI w2 8 W2)] sz)) 0 0 (va_A [(oX6 s1 w0 w1 w2 w3 w4 (nI wn) wi6 (nI lv) w8), (aIc cI w2 8 W2)] sz) := by
  refine k_ofW (Qc := cQi D (fun r u => (r = 0 ∨ r = 1) ∧ u = [(oX6 s1 w0 w1 w2 w3 w4 (nI wn) wi6 (nI lv) w8), (aIc cI w2 8 W2)])) (by decide) rfl (Nat.le_of_ble_eq_true rfl) ?_
  intro p e s m below meth c A ls hx hb hr hml hts hown hlk hnm hsz hE hP hD hS hA hl
  have hown : s.vm.findClass RX6 = some m.cls := hown
  have hiX6 : ∀ w ∈ u_ws RX6 TX6 9, w ∈ wtX6_isLeastOfRing := fun w h => List.mem_cons_of_mem _ (iuX6 w h)
  have hl : lv_has ls 2 [(0, .ref s1), (1, .int (nI p0))] := hl
  refine lv_aload_n hx hb dX6_isLeastOfRing_0 rfl (lv_at hl 0 rfl) ?_
  refine va_get (D := D) (ci := 6) (v := .ref w2) (C := RX6) (T := TX6) (N := 9) hx hb hts hiX6 hown hE.1 hP 0 rfl rfl 2 (by decide) (hts _ (List.mem_cons_of_mem _ wd_81)) (fun _ h9 => h9) rfl dX6_isLeastOfRing_1 ?_
  refine lv_iload_n hx hb dX6_isLeastOfRing_4 rfl (lv_at hl 1 rfl) ?_
  refine va_iald hx hb hE.1 hP 1 0 rfl rfl (vp_in_nI (n := p0) (by omega) (by decide)) dX6_isLeastOfRing_5 ?_
  refine lv_topi (fun v1 ev1 => ?_)
  refine lv_if_eq (tgt := 28) hx hb dX6_isLeastOfRing_6 (by decide) (fun c2 => ?_) (fun c2 => ?_)
  · skip
    refine lv_iconst (v := 0) hx hb dX6_isLeastOfRing_28 (by decide) ?_
    refine k_zret (u := [(oX6 s1 w0 w1 w2 w3 w4 (nI wn) wi6 (nI lv) w8), (aIc cI w2 8 W2)]) hx hb hr (by decide) hlk hP hD hS dX6_isLeastOfRing_29 ?_
    exact ⟨(by decide), rfl⟩
  · skip
    refine lv_aload_n hx hb dX6_isLeastOfRing_9 rfl (lv_at hl 0 rfl) ?_
    refine va_get (D := D) (ci := 6) (v := .ref w2) (C := RX6) (T := TX6) (N := 9) hx hb hts hiX6 hown hE.1 hP 0 rfl rfl 2 (by decide) (hts _ (List.mem_cons_of_mem _ wd_81)) (fun _ h9 => h9) rfl dX6_isLeastOfRing_10 ?_
    refine lv_iload_n hx hb dX6_isLeastOfRing_13 rfl (lv_at hl 1 rfl) ?_
    refine va_iald hx hb hE.1 hP 1 0 rfl rfl (vp_in_nI (n := p0) (by omega) (by decide)) dX6_isLeastOfRing_14 ?_
    refine lv_topi (fun v3 ev3 => ?_)
    refine lv_iconst (v := 1) hx hb dX6_isLeastOfRing_15 (by decide) ?_
    refine lv_iload_n hx hb dX6_isLeastOfRing_16 rfl (lv_at hl 1 rfl) ?_
    refine lv_ishl hx hb dX6_isLeastOfRing_17 ?_
    refine lv_topi (fun v4 ev4 => ?_)
    refine lv_iconst (v := 1) hx hb dX6_isLeastOfRing_18 (by decide) ?_
    refine lv_isub hx hb dX6_isLeastOfRing_19 ?_
    refine lv_topi (fun v5 ev5 => ?_)
    refine lv_iand hx hb dX6_isLeastOfRing_20 ?_
    refine lv_topi (fun v6 ev6 => ?_)
    refine lv_if_ne (tgt := 28) hx hb dX6_isLeastOfRing_21 (by decide) (fun c7 => ?_) (fun c7 => ?_)
    · skip
      refine lv_iconst (v := 0) hx hb dX6_isLeastOfRing_28 (by decide) ?_
      refine k_zret (u := [(oX6 s1 w0 w1 w2 w3 w4 (nI wn) wi6 (nI lv) w8), (aIc cI w2 8 W2)]) hx hb hr (by decide) hlk hP hD hS dX6_isLeastOfRing_29 ?_
      exact ⟨(by decide), rfl⟩
    · skip
      refine lv_iconst (v := 1) hx hb dX6_isLeastOfRing_24 (by decide) ?_
      refine lv_goto (tgt := 29) hx hb dX6_isLeastOfRing_25 (by decide) ?_
      refine k_zret (u := [(oX6 s1 w0 w1 w2 w3 w4 (nI wn) wi6 (nI lv) w8), (aIc cI w2 8 W2)]) hx hb hr (by decide) hlk hP hD hS dX6_isLeastOfRing_29 ?_
      exact ⟨(by decide), rfl⟩
theorem dX6_countRings_0 : decode cX6_countRings 0 = .ok (.iconst 0, 1) := by decide +kernel
theorem dX6_countRings_1 : decode cX6_countRings 1 = .ok (.istore_n 1, 1) := by decide +kernel
theorem dX6_countRings_2 : decode cX6_countRings 2 = .ok (.iconst 0, 1) := by decide +kernel
theorem dX6_countRings_3 : decode cX6_countRings 3 = .ok (.istore_n 2, 1) := by decide +kernel
theorem dX6_countRings_4 : decode cX6_countRings 4 = .ok (.iload_n 2, 1) := by decide +kernel
theorem dX6_countRings_5 : decode cX6_countRings 5 = .ok (.bipush 8, 2) := by decide +kernel
theorem dX6_countRings_7 : decode cX6_countRings 7 = .ok (.if_icmp .ge 20, 3) := by decide +kernel
theorem dX6_countRings_10 : decode cX6_countRings 10 = .ok (.aload_n 0, 1) := by decide +kernel
theorem dX6_countRings_11 : decode cX6_countRings 11 = .ok (.iload_n 2, 1) := by decide +kernel
theorem dX6_countRings_12 : decode cX6_countRings 12 = .ok (.invokevirtual 65, 3) := by decide +kernel
theorem dX6_countRings_15 : decode cX6_countRings 15 = .ok (.ifCond .eq 6, 3) := by decide +kernel
theorem dX6_countRings_18 : decode cX6_countRings 18 = .ok (.iinc 1 1, 3) := by decide +kernel
theorem dX6_countRings_21 : decode cX6_countRings 21 = .ok (.iinc 2 1, 3) := by decide +kernel
theorem dX6_countRings_24 : decode cX6_countRings 24 = .ok (.goto (-20), 3) := by decide +kernel
theorem dX6_countRings_27 : decode cX6_countRings 27 = .ok (.iload_n 1, 1) := by decide +kernel
theorem dX6_countRings_28 : decode cX6_countRings 28 = .ok (.ireturn, 1) := by decide +kernel
theorem gX6_countRings_X6_isLeastOfRing : GoodIn wtX6_countRings (wsV RX6 65 RX6 yX6_isLeastOfRing wtX6_isLeastOfRing) := tb_good (tb_v0 wd_531 wd_532 wd_533 wd_43 wd_534)
set_option maxHeartbeats 4000000 in
set_option maxRecDepth 100000 in
theorem m_X6_countRings (l : Launch) (D : va_G) (cI cJ : ClassId) (sz : Nat) (s1 w0 w1 w2 w3 w4 w8 wn lv : Nat) (wi6 : Int32) (W2 : Nat → Int32) : Met l yX6_countRings wtX6_countRings { frames := 1, cells := 0, slots := 0, locals := 21 } (cPc D cI cJ [.ref s1] sz [(oX6 s1 w0 w1 w2 w3 w4 (nI wn) wi6 (nI lv) w8), (aIc cI w2 8 W2)]) (cQi D (fun r u => u = [(oX6 s1 w0 w1 w2 w3 w4 (nI wn) wi6 (nI lv) w8), (aIc cI w2 8 W2)]) (va_A [(oX6 s1 w0 w1 w2 w3 w4 (nI wn) wi6 (nI lv) w8), (aIc cI w2 8 W2)] sz)) 0 0 (va_A [(oX6 s1 w0 w1 w2 w3 w4 (nI wn) wi6 (nI lv) w8), (aIc cI w2 8 W2)] sz) := by
  refine k_ofW (Qc := cQi D (fun r u => u = [(oX6 s1 w0 w1 w2 w3 w4 (nI wn) wi6 (nI lv) w8), (aIc cI w2 8 W2)])) (by decide) rfl (Nat.le_of_ble_eq_true rfl) ?_
  intro p e s m below meth c A ls hx hb hr hml hts hown hlk hnm hsz hE hP hD hS hA hl
  have hown : s.vm.findClass RX6 = some m.cls := hown
  have hl : lv_has ls 3 [(0, .ref s1)] := hl
  refine lv_iconst (v := 0) hx hb dX6_countRings_0 (by decide) ?_
  refine lv_istore_n (lv' := [(1, .int 0), (0, .ref s1)]) hx hb dX6_countRings_1 rfl hl (by decide) rfl (fun ls hl => ?_)
  refine lv_iconst (v := 0) hx hb dX6_countRings_2 (by decide) ?_
  refine lv_istore_n (lv' := [(2, .int 0), (1, .int 0), (0, .ref s1)]) hx hb dX6_countRings_3 rfl hl (by decide) rfl (fun ls hl => ?_)
  have J4 : ∀ (zz : Nat) (i4 : Nat) (h1_4 : Int32), (i4 ≤ 8) → (8 - i4) < zz → ∀ (H : Heap) (locs : List Loc) (ls : Array Slot), va_P D vwCl [(oX6 s1 w0 w1 w2 w3 w4 (nI wn) wi6 (nI lv) w8), (aIc cI w2 8 W2)] H → va_D A [(oX6 s1 w0 w1 w2 w3 w4 (nI wn) wi6 (nI lv) w8), (aIc cI w2 8 W2)] → va_S A s.heap H locs → lv_has ls 3 [(2, .int (nI i4)), (1, .int h1_4), (0, .ref s1)] → W p l e { frames := 1, cells := 0, slots := 0, locals := 21 } s m [.ref s1].toArray below meth c H locs 0 0 (MQ below (cQi D (fun r u => u = [(oX6 s1 w0 w1 w2 w3 w4 (nI wn) wi6 (nI lv) w8), (aIc cI w2 8 W2)]) A) [.ref s1].toArray s 0 0 A) (F0 m 4 ls []) := by
    intro zz
    induction zz with
    | zero => intro i4 h1_4 _; exact fun h => absurd h (Nat.not_lt_zero _)
    | succ zz ih4 =>
      intro i4 h1_4 hc2_4 hmu4 H locs ls hP hD hS hl
      refine lv_iload_n hx hb dX6_countRings_4 rfl (lv_at hl 0 rfl) ?_
      refine lv_bipush (v := 8) hx hb dX6_countRings_5 (by decide) ?_
      refine lv_icmp_ge (tgt := 27) hx hb dX6_countRings_7 (by decide) (fun c1 => ?_) (fun c1 => ?_)
      · skip
        have nc1 : 8 ≤ i4 := (nI_leI (a := 8) (b := i4) (by omega) (by omega)).mp c1
        refine lv_iload_n hx hb dX6_countRings_27 rfl (lv_at hl 1 rfl) ?_
        refine k_iret (u := [(oX6 s1 w0 w1 w2 w3 w4 (nI wn) wi6 (nI lv) w8), (aIc cI w2 8 W2)]) hx hb hr hlk hP hD hS dX6_countRings_28 ?_
        exact rfl
      · skip
        have nc1 : ¬ 8 ≤ i4 := fun q9 => c1 ((nI_leI (a := 8) (b := i4) (by omega) (by omega)).mpr q9)
        refine lv_aload_n hx hb dX6_countRings_10 rfl (lv_at hl 2 rfl) ?_
        refine lv_iload_n hx hb dX6_countRings_11 rfl (lv_at hl 0 rfl) ?_
        refine k_iS (va_runV (As := [.int (nI i4)]) (rest := []) ⟨hx, hb, hml, hown, hts⟩ (m_X6_isLeastOfRing l D cI cJ H.size s1 w0 w1 w2 w3 w4 w8 i4 wn lv wi6 W2 (by omega)) (cwV 1 hts gX6_countRings_X6_isLeastOfRing rfl rfl rfl (by decide +kernel) ⟨Nat.le_of_ble_eq_true rfl, Nat.le_of_ble_eq_true rfl⟩) (k_preV hE hP hD [0, 1] (by decide +kernel) rfl 0 rfl rfl) rfl rfl hl.1 rfl (lv_room (Nat.le_of_ble_eq_true rfl)) dX6_countRings_12 ⟨Nat.le_of_ble_eq_true rfl, Nat.le_of_ble_eq_true rfl⟩) hP hD hS hA [0, 1] rfl (fun _ _ ⟨_, h9⟩ => h9) (fun r2 H locs hw3 hP hD hS => ?_)
        obtain ⟨hz4, -⟩ := hw3
        refine lv_if_eq (tgt := 21) hx hb dX6_countRings_15 (by decide) (fun c5 => ?_) (fun c5 => ?_)
        · skip
          refine lv_iinc (v := (nI (i4 + 1))) (lv' := [(2, .int (nI (i4 + 1))), (1, .int h1_4), (0, .ref s1)]) hx hb dX6_countRings_21 hl (k := 0) rfl (nI_1 _) (by decide) rfl (fun ls hl => ?_)
          refine lv_goto (tgt := 4) hx hb dX6_countRings_24 (by decide) ?_
          exact ih4 (i4 + 1) h1_4 (by omega) (by omega) _ _ _ hP hD hS (lv_sub hl [0, 1, 2] rfl)
        · skip
          obtain ⟨v6, ev6⟩ : ∃ y : Int32, y = h1_4 + 1 := ⟨_, rfl⟩
          refine lv_iinc (v := v6) (lv' := [(1, .int v6), (2, .int (nI i4)), (0, .ref s1)]) hx hb dX6_countRings_18 hl (k := 1) rfl (by rw [ev6]; rfl) (by decide) rfl (fun ls hl => ?_)
          refine lv_iinc (v := (nI (i4 + 1))) (lv' := [(2, .int (nI (i4 + 1))), (1, .int v6), (0, .ref s1)]) hx hb dX6_countRings_21 hl (k := 1) rfl (nI_1 _) (by decide) rfl (fun ls hl => ?_)
          refine lv_goto (tgt := 4) hx hb dX6_countRings_24 (by decide) ?_
          exact ih4 (i4 + 1) v6 (by omega) (by omega) _ _ _ hP hD hS (lv_sub hl [0, 1, 2] rfl)
  exact J4 _ 0 0 (by omega) (Nat.lt_succ_self _) _ _ _ hP hD hS (lv_sub hl [0, 1, 2] rfl)
theorem dX6_ringAt_0 : decode cX6_ringAt 0 = .ok (.iconst 0, 1) := by decide +kernel
theorem dX6_ringAt_1 : decode cX6_ringAt 1 = .ok (.istore_n 2, 1) := by decide +kernel
theorem dX6_ringAt_2 : decode cX6_ringAt 2 = .ok (.iconst 0, 1) := by decide +kernel
theorem dX6_ringAt_3 : decode cX6_ringAt 3 = .ok (.istore_n 3, 1) := by decide +kernel
theorem dX6_ringAt_4 : decode cX6_ringAt 4 = .ok (.iload_n 3, 1) := by decide +kernel
theorem dX6_ringAt_5 : decode cX6_ringAt 5 = .ok (.bipush 8, 2) := by decide +kernel
theorem dX6_ringAt_7 : decode cX6_ringAt 7 = .ok (.if_icmp .ge 32, 3) := by decide +kernel
theorem dX6_ringAt_10 : decode cX6_ringAt 10 = .ok (.aload_n 0, 1) := by decide +kernel
theorem dX6_ringAt_11 : decode cX6_ringAt 11 = .ok (.iload_n 3, 1) := by decide +kernel
theorem dX6_ringAt_12 : decode cX6_ringAt 12 = .ok (.invokevirtual 65, 3) := by decide +kernel
theorem dX6_ringAt_15 : decode cX6_ringAt 15 = .ok (.ifCond .eq 18, 3) := by decide +kernel
theorem dX6_ringAt_18 : decode cX6_ringAt 18 = .ok (.iload_n 2, 1) := by decide +kernel
theorem dX6_ringAt_19 : decode cX6_ringAt 19 = .ok (.iload_n 1, 1) := by decide +kernel
theorem dX6_ringAt_20 : decode cX6_ringAt 20 = .ok (.if_icmp .ne 10, 3) := by decide +kernel
theorem dX6_ringAt_23 : decode cX6_ringAt 23 = .ok (.aload_n 0, 1) := by decide +kernel
theorem dX6_ringAt_24 : decode cX6_ringAt 24 = .ok (.getfield 18, 3) := by decide +kernel
theorem dX6_ringAt_27 : decode cX6_ringAt 27 = .ok (.iload_n 3, 1) := by decide +kernel
theorem dX6_ringAt_28 : decode cX6_ringAt 28 = .ok (.iaload, 1) := by decide +kernel
theorem dX6_ringAt_29 : decode cX6_ringAt 29 = .ok (.ireturn, 1) := by decide +kernel
theorem dX6_ringAt_30 : decode cX6_ringAt 30 = .ok (.iinc 2 1, 3) := by decide +kernel
theorem dX6_ringAt_33 : decode cX6_ringAt 33 = .ok (.iinc 3 1, 3) := by decide +kernel
theorem dX6_ringAt_36 : decode cX6_ringAt 36 = .ok (.goto (-32), 3) := by decide +kernel
theorem dX6_ringAt_39 : decode cX6_ringAt 39 = .ok (.iconst (-1), 1) := by decide +kernel
theorem dX6_ringAt_40 : decode cX6_ringAt 40 = .ok (.ireturn, 1) := by decide +kernel
theorem gX6_ringAt_X6_isLeastOfRing : GoodIn wtX6_ringAt (wsV RX6 65 RX6 yX6_isLeastOfRing wtX6_isLeastOfRing) := tb_good (tb_v0 wd_531 wd_532 wd_533 wd_43 wd_534)
set_option maxHeartbeats 4000000 in
set_option maxRecDepth 100000 in
theorem m_X6_ringAt (l : Launch) (D : va_G) (cI cJ : ClassId) (sz : Nat) (s1 w0 w1 w2 w3 w4 w8 wn lv : Nat) (wi6 k0 : Int32) (W2 : Nat → Int32) : Met l yX6_ringAt wtX6_ringAt { frames := 1, cells := 0, slots := 0, locals := 21 } (cPc D cI cJ [.ref s1, .int k0] sz [(oX6 s1 w0 w1 w2 w3 w4 (nI wn) wi6 (nI lv) w8), (aIc cI w2 8 W2)]) (cQi D (fun r u => u = [(oX6 s1 w0 w1 w2 w3 w4 (nI wn) wi6 (nI lv) w8), (aIc cI w2 8 W2)]) (va_A [(oX6 s1 w0 w1 w2 w3 w4 (nI wn) wi6 (nI lv) w8), (aIc cI w2 8 W2)] sz)) 0 0 (va_A [(oX6 s1 w0 w1 w2 w3 w4 (nI wn) wi6 (nI lv) w8), (aIc cI w2 8 W2)] sz) := by
  refine k_ofW (Qc := cQi D (fun r u => u = [(oX6 s1 w0 w1 w2 w3 w4 (nI wn) wi6 (nI lv) w8), (aIc cI w2 8 W2)])) (by decide) rfl (Nat.le_of_ble_eq_true rfl) ?_
  intro p e s m below meth c A ls hx hb hr hml hts hown hlk hnm hsz hE hP hD hS hA hl
  have hown : s.vm.findClass RX6 = some m.cls := hown
  have hiX6 : ∀ w ∈ u_ws RX6 TX6 9, w ∈ wtX6_ringAt := fun w h => List.mem_cons_of_mem _ (iuX6 w h)
  have hl : lv_has ls 4 [(0, .ref s1), (1, .int k0)] := hl
  refine lv_iconst (v := 0) hx hb dX6_ringAt_0 (by decide) ?_
  refine lv_istore_n (lv' := [(2, .int 0), (0, .ref s1), (1, .int k0)]) hx hb dX6_ringAt_1 rfl hl (by decide) rfl (fun ls hl => ?_)
  refine lv_iconst (v := 0) hx hb dX6_ringAt_2 (by decide) ?_
  refine lv_istore_n (lv' := [(3, .int 0), (2, .int 0), (0, .ref s1), (1, .int k0)]) hx hb dX6_ringAt_3 rfl hl (by decide) rfl (fun ls hl => ?_)
  have J4 : ∀ (zz : Nat) (i4 : Nat) (h2_4 : Int32), (i4 ≤ 8) → (8 - i4) < zz → ∀ (H : Heap) (locs : List Loc) (ls : Array Slot), va_P D vwCl [(oX6 s1 w0 w1 w2 w3 w4 (nI wn) wi6 (nI lv) w8), (aIc cI w2 8 W2)] H → va_D A [(oX6 s1 w0 w1 w2 w3 w4 (nI wn) wi6 (nI lv) w8), (aIc cI w2 8 W2)] → va_S A s.heap H locs → lv_has ls 4 [(3, .int (nI i4)), (2, .int h2_4), (0, .ref s1), (1, .int k0)] → W p l e { frames := 1, cells := 0, slots := 0, locals := 21 } s m [.ref s1, .int k0].toArray below meth c H locs 0 0 (MQ below (cQi D (fun r u => u = [(oX6 s1 w0 w1 w2 w3 w4 (nI wn) wi6 (nI lv) w8), (aIc cI w2 8 W2)]) A) [.ref s1, .int k0].toArray s 0 0 A) (F0 m 4 ls []) := by
    intro zz
    induction zz with
    | zero => intro i4 h2_4 _; exact fun h => absurd h (Nat.not_lt_zero _)
    | succ zz ih4 =>
      intro i4 h2_4 hc3_4 hmu4 H locs ls hP hD hS hl
      refine lv_iload_n hx hb dX6_ringAt_4 rfl (lv_at hl 0 rfl) ?_
      refine lv_bipush (v := 8) hx hb dX6_ringAt_5 (by decide) ?_
      refine lv_icmp_ge (tgt := 39) hx hb dX6_ringAt_7 (by decide) (fun c1 => ?_) (fun c1 => ?_)
      · skip
        have nc1 : 8 ≤ i4 := (nI_leI (a := 8) (b := i4) (by omega) (by omega)).mp c1
        refine lv_iconst (v := (-1)) hx hb dX6_ringAt_39 (by decide) ?_
        refine k_iret (u := [(oX6 s1 w0 w1 w2 w3 w4 (nI wn) wi6 (nI lv) w8), (aIc cI w2 8 W2)]) hx hb hr hlk hP hD hS dX6_ringAt_40 ?_
        exact rfl
      · skip
        have nc1 : ¬ 8 ≤ i4 := fun q9 => c1 ((nI_leI (a := 8) (b := i4) (by omega) (by omega)).mpr q9)
        refine lv_aload_n hx hb dX6_ringAt_10 rfl (lv_at hl 2 rfl) ?_
        refine lv_iload_n hx hb dX6_ringAt_11 rfl (lv_at hl 0 rfl) ?_
        refine k_iS (va_runV (As := [.int (nI i4)]) (rest := []) ⟨hx, hb, hml, hown, hts⟩ (m_X6_isLeastOfRing l D cI cJ H.size s1 w0 w1 w2 w3 w4 w8 i4 wn lv wi6 W2 (by omega)) (cwV 1 hts gX6_ringAt_X6_isLeastOfRing rfl rfl rfl (by decide +kernel) ⟨Nat.le_of_ble_eq_true rfl, Nat.le_of_ble_eq_true rfl⟩) (k_preV hE hP hD [0, 1] (by decide +kernel) rfl 0 rfl rfl) rfl rfl hl.1 rfl (lv_room (Nat.le_of_ble_eq_true rfl)) dX6_ringAt_12 ⟨Nat.le_of_ble_eq_true rfl, Nat.le_of_ble_eq_true rfl⟩) hP hD hS hA [0, 1] rfl (fun _ _ ⟨_, h9⟩ => h9) (fun r2 H locs hw3 hP hD hS => ?_)
        obtain ⟨hz4, -⟩ := hw3
        refine lv_if_eq (tgt := 33) hx hb dX6_ringAt_15 (by decide) (fun c5 => ?_) (fun c5 => ?_)
        · skip
          refine lv_iinc (v := (nI (i4 + 1))) (lv' := [(3, .int (nI (i4 + 1))), (2, .int h2_4), (0, .ref s1), (1, .int k0)]) hx hb dX6_ringAt_33 hl (k := 0) rfl (nI_1 _) (by decide) rfl (fun ls hl => ?_)
          refine lv_goto (tgt := 4) hx hb dX6_ringAt_36 (by decide) ?_
          exact ih4 (i4 + 1) h2_4 (by omega) (by omega) _ _ _ hP hD hS (lv_sub hl [0, 1, 2, 3] rfl)
        · skip
          refine lv_iload_n hx hb dX6_ringAt_18 rfl (lv_at hl 1 rfl) ?_
          refine lv_iload_n hx hb dX6_ringAt_19 rfl (lv_at hl 3 rfl) ?_
          refine lv_icmp_ne (tgt := 30) hx hb dX6_ringAt_20 (by decide) (fun c6 => ?_) (fun c6 => ?_)
          · skip
            obtain ⟨v7, ev7⟩ : ∃ y : Int32, y = h2_4 + 1 := ⟨_, rfl⟩
            refine lv_iinc (v := v7) (lv' := [(2, .int v7), (3, .int (nI i4)), (0, .ref s1), (1, .int k0)]) hx hb dX6_ringAt_30 hl (k := 1) rfl (by rw [ev7]; rfl) (by decide) rfl (fun ls hl => ?_)
            refine lv_iinc (v := (nI (i4 + 1))) (lv' := [(3, .int (nI (i4 + 1))), (2, .int v7), (0, .ref s1), (1, .int k0)]) hx hb dX6_ringAt_33 hl (k := 1) rfl (nI_1 _) (by decide) rfl (fun ls hl => ?_)
            refine lv_goto (tgt := 4) hx hb dX6_ringAt_36 (by decide) ?_
            exact ih4 (i4 + 1) v7 (by omega) (by omega) _ _ _ hP hD hS (lv_sub hl [0, 1, 2, 3] rfl)
          · skip
            refine lv_aload_n hx hb dX6_ringAt_23 rfl (lv_at hl 2 rfl) ?_
            refine va_get (D := D) (ci := 6) (v := .ref w2) (C := RX6) (T := TX6) (N := 9) hx hb hts hiX6 hown hE.1 hP 0 rfl rfl 2 (by decide) (hts _ (List.mem_cons_of_mem _ wd_81)) (fun _ h9 => h9) rfl dX6_ringAt_24 ?_
            refine lv_iload_n hx hb dX6_ringAt_27 rfl (lv_at hl 0 rfl) ?_
            refine va_iald hx hb hE.1 hP 1 0 rfl rfl (vp_in_nI (n := i4) (by omega) (by decide)) dX6_ringAt_28 ?_
            refine lv_topi (fun v8 ev8 => ?_)
            refine k_iret (u := [(oX6 s1 w0 w1 w2 w3 w4 (nI wn) wi6 (nI lv) w8), (aIc cI w2 8 W2)]) hx hb hr hlk hP hD hS dX6_ringAt_29 ?_
            exact rfl
  exact J4 _ 0 0 (by omega) (Nat.lt_succ_self _) _ _ _ hP hD hS (lv_sub hl [0, 1, 2, 3] rfl)
theorem dX6_isRinglessWith_0 : decode cX6_isRinglessWith 0 = .ok (.aload_n 0, 1) := by decide +kernel
theorem dX6_isRinglessWith_1 : decode cX6_isRinglessWith 1 = .ok (.getfield 30, 3) := by decide +kernel
theorem dX6_isRinglessWith_4 : decode cX6_isRinglessWith 4 = .ok (.iload_n 1, 1) := by decide +kernel
theorem dX6_isRinglessWith_5 : decode cX6_isRinglessWith 5 = .ok (.iconst (-1), 1) := by decide +kernel
theorem dX6_isRinglessWith_6 : decode cX6_isRinglessWith 6 = .ok (.ixor, 1) := by decide +kernel
theorem dX6_isRinglessWith_7 : decode cX6_isRinglessWith 7 = .ok (.iand, 1) := by decide +kernel
theorem dX6_isRinglessWith_8 : decode cX6_isRinglessWith 8 = .ok (.istore_n 2, 1) := by decide +kernel
theorem dX6_isRinglessWith_9 : decode cX6_isRinglessWith 9 = .ok (.iconst 0, 1) := by decide +kernel
theorem dX6_isRinglessWith_10 : decode cX6_isRinglessWith 10 = .ok (.istore_n 3, 1) := by decide +kernel
theorem dX6_isRinglessWith_11 : decode cX6_isRinglessWith 11 = .ok (.iload_n 3, 1) := by decide +kernel
theorem dX6_isRinglessWith_12 : decode cX6_isRinglessWith 12 = .ok (.bipush 8, 2) := by decide +kernel
theorem dX6_isRinglessWith_14 : decode cX6_isRinglessWith 14 = .ok (.if_icmp .ge 50, 3) := by decide +kernel
theorem dX6_isRinglessWith_17 : decode cX6_isRinglessWith 17 = .ok (.iload_n 2, 1) := by decide +kernel
theorem dX6_isRinglessWith_18 : decode cX6_isRinglessWith 18 = .ok (.ifCond .eq 46, 3) := by decide +kernel
theorem dX6_isRinglessWith_21 : decode cX6_isRinglessWith 21 = .ok (.iconst 0, 1) := by decide +kernel
theorem dX6_isRinglessWith_22 : decode cX6_isRinglessWith 22 = .ok (.istore 4, 2) := by decide +kernel
theorem dX6_isRinglessWith_24 : decode cX6_isRinglessWith 24 = .ok (.iload 4, 2) := by decide +kernel
theorem dX6_isRinglessWith_26 : decode cX6_isRinglessWith 26 = .ok (.bipush 8, 2) := by decide +kernel
theorem dX6_isRinglessWith_28 : decode cX6_isRinglessWith 28 = .ok (.if_icmp .ge 30, 3) := by decide +kernel
theorem dX6_isRinglessWith_31 : decode cX6_isRinglessWith 31 = .ok (.aload_n 0, 1) := by decide +kernel
theorem dX6_isRinglessWith_32 : decode cX6_isRinglessWith 32 = .ok (.getfield 15, 3) := by decide +kernel
theorem dX6_isRinglessWith_35 : decode cX6_isRinglessWith 35 = .ok (.iload 4, 2) := by decide +kernel
theorem dX6_isRinglessWith_37 : decode cX6_isRinglessWith 37 = .ok (.iaload, 1) := by decide +kernel
theorem dX6_isRinglessWith_38 : decode cX6_isRinglessWith 38 = .ok (.iload_n 2, 1) := by decide +kernel
theorem dX6_isRinglessWith_39 : decode cX6_isRinglessWith 39 = .ok (.iand, 1) := by decide +kernel
theorem dX6_isRinglessWith_40 : decode cX6_isRinglessWith 40 = .ok (.ifCond .ne 12, 3) := by decide +kernel
theorem dX6_isRinglessWith_43 : decode cX6_isRinglessWith 43 = .ok (.iload_n 2, 1) := by decide +kernel
theorem dX6_isRinglessWith_44 : decode cX6_isRinglessWith 44 = .ok (.iconst 1, 1) := by decide +kernel
theorem dX6_isRinglessWith_45 : decode cX6_isRinglessWith 45 = .ok (.iload 4, 2) := by decide +kernel
theorem dX6_isRinglessWith_47 : decode cX6_isRinglessWith 47 = .ok (.ishl, 1) := by decide +kernel
theorem dX6_isRinglessWith_48 : decode cX6_isRinglessWith 48 = .ok (.iconst (-1), 1) := by decide +kernel
theorem dX6_isRinglessWith_49 : decode cX6_isRinglessWith 49 = .ok (.ixor, 1) := by decide +kernel
theorem dX6_isRinglessWith_50 : decode cX6_isRinglessWith 50 = .ok (.iand, 1) := by decide +kernel
theorem dX6_isRinglessWith_51 : decode cX6_isRinglessWith 51 = .ok (.istore_n 2, 1) := by decide +kernel
theorem dX6_isRinglessWith_52 : decode cX6_isRinglessWith 52 = .ok (.iinc 4 1, 3) := by decide +kernel
theorem dX6_isRinglessWith_55 : decode cX6_isRinglessWith 55 = .ok (.goto (-31), 3) := by decide +kernel
theorem dX6_isRinglessWith_58 : decode cX6_isRinglessWith 58 = .ok (.iinc 3 1, 3) := by decide +kernel
theorem dX6_isRinglessWith_61 : decode cX6_isRinglessWith 61 = .ok (.goto (-50), 3) := by decide +kernel
theorem dX6_isRinglessWith_64 : decode cX6_isRinglessWith 64 = .ok (.iload_n 2, 1) := by decide +kernel
theorem dX6_isRinglessWith_65 : decode cX6_isRinglessWith 65 = .ok (.ifCond .ne 7, 3) := by decide +kernel
theorem dX6_isRinglessWith_68 : decode cX6_isRinglessWith 68 = .ok (.iconst 1, 1) := by decide +kernel
theorem dX6_isRinglessWith_69 : decode cX6_isRinglessWith 69 = .ok (.goto 4, 3) := by decide +kernel
theorem dX6_isRinglessWith_72 : decode cX6_isRinglessWith 72 = .ok (.iconst 0, 1) := by decide +kernel
theorem dX6_isRinglessWith_73 : decode cX6_isRinglessWith 73 = .ok (.ireturn, 1) := by decide +kernel
set_option maxHeartbeats 4000000 in
set_option maxRecDepth 100000 in
theorem m_X6_isRinglessWith (l : Launch) (D : va_G) (cI cJ : ClassId) (sz : Nat) (s1 w0 w1 w2 w3 w4 w8 wn lv : Nat) (wi6 k0 : Int32) (W1 : Nat → Int32) : Met l yX6_isRinglessWith wtX6_isRinglessWith { frames := 0, cells := 0, slots := 0, locals := 0 } (cPc D cI cJ [.ref s1, .int k0] sz [(oX6 s1 w0 w1 w2 w3 w4 (nI wn) wi6 (nI lv) w8), (aIc cI w1 8 W1)]) (cQi D (fun r u => (r = 0 ∨ r = 1) ∧ u = [(oX6 s1 w0 w1 w2 w3 w4 (nI wn) wi6 (nI lv) w8), (aIc cI w1 8 W1)]) (va_A [(oX6 s1 w0 w1 w2 w3 w4 (nI wn) wi6 (nI lv) w8), (aIc cI w1 8 W1)] sz)) 0 0 (va_A [(oX6 s1 w0 w1 w2 w3 w4 (nI wn) wi6 (nI lv) w8), (aIc cI w1 8 W1)] sz) := by
  refine k_ofW (Qc := cQi D (fun r u => (r = 0 ∨ r = 1) ∧ u = [(oX6 s1 w0 w1 w2 w3 w4 (nI wn) wi6 (nI lv) w8), (aIc cI w1 8 W1)])) (by decide) rfl (Nat.le_of_ble_eq_true rfl) ?_
  intro p e s m below meth c A ls hx hb hr hml hts hown hlk hnm hsz hE hP hD hS hA hl
  have hown : s.vm.findClass RX6 = some m.cls := hown
  have hiX6 : ∀ w ∈ u_ws RX6 TX6 9, w ∈ wtX6_isRinglessWith := fun w h => List.mem_cons_of_mem _ (iuX6 w h)
  have hl : lv_has ls 5 [(0, .ref s1), (1, .int k0)] := hl
  refine lv_aload_n hx hb dX6_isRinglessWith_0 rfl (lv_at hl 0 rfl) ?_
  refine va_get (D := D) (ci := 6) (v := .int (nI wn)) (C := RX6) (T := TX6) (N := 9) hx hb hts hiX6 hown hE.1 hP 0 rfl rfl 5 (by decide) (hts _ (List.mem_cons_of_mem _ wd_333)) (fun _ h9 => h9) rfl dX6_isRinglessWith_1 ?_
  refine lv_iload_n hx hb dX6_isRinglessWith_4 rfl (lv_at hl 1 rfl) ?_
  refine lv_iconst (v := (-1)) hx hb dX6_isRinglessWith_5 (by decide) ?_
  refine lv_ixor hx hb dX6_isRinglessWith_6 ?_
  refine lv_topi (fun v1 ev1 => ?_)
  refine lv_iand hx hb dX6_isRinglessWith_7 ?_
  refine lv_topi (fun v2 ev2 => ?_)
  refine lv_istore_n (lv' := [(2, .int v2), (0, .ref s1), (1, .int k0)]) hx hb dX6_isRinglessWith_8 rfl hl (by decide) rfl (fun ls hl => ?_)
  refine lv_iconst (v := 0) hx hb dX6_isRinglessWith_9 (by decide) ?_
  refine lv_istore_n (lv' := [(3, .int 0), (2, .int v2), (0, .ref s1), (1, .int k0)]) hx hb dX6_isRinglessWith_10 rfl hl (by decide) rfl (fun ls hl => ?_)
  have J11 : ∀ (zz : Nat) (i11 : Nat) (h2_11 : Int32), (i11 ≤ 8) → (8 - i11) < zz → ∀ (H : Heap) (locs : List Loc) (ls : Array Slot), va_P D vwCl [(oX6 s1 w0 w1 w2 w3 w4 (nI wn) wi6 (nI lv) w8), (aIc cI w1 8 W1)] H → va_D A [(oX6 s1 w0 w1 w2 w3 w4 (nI wn) wi6 (nI lv) w8), (aIc cI w1 8 W1)] → va_S A s.heap H locs → lv_has ls 5 [(3, .int (nI i11)), (2, .int h2_11), (0, .ref s1), (1, .int k0)] → W p l e { frames := 0, cells := 0, slots := 0, locals := 0 } s m [.ref s1, .int k0].toArray below meth c H locs 0 0 (MQ below (cQi D (fun r u => (r = 0 ∨ r = 1) ∧ u = [(oX6 s1 w0 w1 w2 w3 w4 (nI wn) wi6 (nI lv) w8), (aIc cI w1 8 W1)]) A) [.ref s1, .int k0].toArray s 0 0 A) (F0 m 11 ls []) := by
    intro zz
    induction zz with
    | zero => intro i11 h2_11 _; exact fun h => absurd h (Nat.not_lt_zero _)
    | succ zz ih11 =>
      intro i11 h2_11 hc3_11 hmu11 H locs ls hP hD hS hl
      refine lv_iload_n hx hb dX6_isRinglessWith_11 rfl (lv_at hl 0 rfl) ?_
      refine lv_bipush (v := 8) hx hb dX6_isRinglessWith_12 (by decide) ?_
      refine lv_icmp_ge (tgt := 64) hx hb dX6_isRinglessWith_14 (by decide) (fun c3 => ?_) (fun c3 => ?_)
      · skip
        have nc3 : 8 ≤ i11 := (nI_leI (a := 8) (b := i11) (by omega) (by omega)).mp c3
        refine lv_iload_n hx hb dX6_isRinglessWith_64 rfl (lv_at hl 1 rfl) ?_
        refine lv_if_ne (tgt := 72) hx hb dX6_isRinglessWith_65 (by decide) (fun c4 => ?_) (fun c4 => ?_)
        · skip
          refine lv_iconst (v := 0) hx hb dX6_isRinglessWith_72 (by decide) ?_
          refine k_zret (u := [(oX6 s1 w0 w1 w2 w3 w4 (nI wn) wi6 (nI lv) w8), (aIc cI w1 8 W1)]) hx hb hr (by decide) hlk hP hD hS dX6_isRinglessWith_73 ?_
          exact ⟨(by decide), rfl⟩
        · skip
          refine lv_iconst (v := 1) hx hb dX6_isRinglessWith_68 (by decide) ?_
          refine lv_goto (tgt := 73) hx hb dX6_isRinglessWith_69 (by decide) ?_
          refine k_zret (u := [(oX6 s1 w0 w1 w2 w3 w4 (nI wn) wi6 (nI lv) w8), (aIc cI w1 8 W1)]) hx hb hr (by decide) hlk hP hD hS dX6_isRinglessWith_73 ?_
          exact ⟨(by decide), rfl⟩
      · skip
        have nc3 : ¬ 8 ≤ i11 := fun q9 => c3 ((nI_leI (a := 8) (b := i11) (by omega) (by omega)).mpr q9)
        refine lv_iload_n hx hb dX6_isRinglessWith_17 rfl (lv_at hl 1 rfl) ?_
        refine lv_if_eq (tgt := 64) hx hb dX6_isRinglessWith_18 (by decide) (fun c5 => ?_) (fun c5 => ?_)
        · skip
          refine lv_iload_n hx hb dX6_isRinglessWith_64 rfl (lv_at hl 1 rfl) ?_
          refine lv_if_ne (tgt := 72) hx hb dX6_isRinglessWith_65 (by decide) (fun c6 => ?_) (fun c6 => ?_)
          · skip
            refine lv_iconst (v := 0) hx hb dX6_isRinglessWith_72 (by decide) ?_
            refine k_zret (u := [(oX6 s1 w0 w1 w2 w3 w4 (nI wn) wi6 (nI lv) w8), (aIc cI w1 8 W1)]) hx hb hr (by decide) hlk hP hD hS dX6_isRinglessWith_73 ?_
            exact ⟨(by decide), rfl⟩
          · skip
            refine lv_iconst (v := 1) hx hb dX6_isRinglessWith_68 (by decide) ?_
            refine lv_goto (tgt := 73) hx hb dX6_isRinglessWith_69 (by decide) ?_
            refine k_zret (u := [(oX6 s1 w0 w1 w2 w3 w4 (nI wn) wi6 (nI lv) w8), (aIc cI w1 8 W1)]) hx hb hr (by decide) hlk hP hD hS dX6_isRinglessWith_73 ?_
            exact ⟨(by decide), rfl⟩
        · skip
          refine lv_iconst (v := 0) hx hb dX6_isRinglessWith_21 (by decide) ?_
          refine lv_istore (lv' := [(4, .int 0), (3, .int (nI i11)), (2, .int h2_11), (0, .ref s1), (1, .int k0)]) hx hb dX6_isRinglessWith_22 hl (by decide) rfl (fun ls hl => ?_)
          have J24 : ∀ (zz : Nat) (j24 : Nat) (h2_24 : Int32), (j24 ≤ 8) → (8 - j24) < zz → ∀ (H : Heap) (locs : List Loc) (ls : Array Slot), va_P D vwCl [(oX6 s1 w0 w1 w2 w3 w4 (nI wn) wi6 (nI lv) w8), (aIc cI w1 8 W1)] H → va_D A [(oX6 s1 w0 w1 w2 w3 w4 (nI wn) wi6 (nI lv) w8), (aIc cI w1 8 W1)] → va_S A s.heap H locs → lv_has ls 5 [(4, .int (nI j24)), (3, .int (nI i11)), (2, .int h2_24), (0, .ref s1), (1, .int k0)] → W p l e { frames := 0, cells := 0, slots := 0, locals := 0 } s m [.ref s1, .int k0].toArray below meth c H locs 0 0 (MQ below (cQi D (fun r u => (r = 0 ∨ r = 1) ∧ u = [(oX6 s1 w0 w1 w2 w3 w4 (nI wn) wi6 (nI lv) w8), (aIc cI w1 8 W1)]) A) [.ref s1, .int k0].toArray s 0 0 A) (F0 m 24 ls []) := by
            intro zz
            induction zz with
            | zero => intro j24 h2_24 _; exact fun h => absurd h (Nat.not_lt_zero _)
            | succ zz ih24 =>
              intro j24 h2_24 hc4_24 hmu24 H locs ls hP hD hS hl
              refine lv_iload hx hb dX6_isRinglessWith_24 (lv_at hl 0 rfl) ?_
              refine lv_bipush (v := 8) hx hb dX6_isRinglessWith_26 (by decide) ?_
              refine lv_icmp_ge (tgt := 58) hx hb dX6_isRinglessWith_28 (by decide) (fun c7 => ?_) (fun c7 => ?_)
              · skip
                have nc7 : 8 ≤ j24 := (nI_leI (a := 8) (b := j24) (by omega) (by omega)).mp c7
                refine lv_iinc (v := (nI (i11 + 1))) (lv' := [(3, .int (nI (i11 + 1))), (4, .int (nI j24)), (2, .int h2_24), (0, .ref s1), (1, .int k0)]) hx hb dX6_isRinglessWith_58 hl (k := 1) rfl (nI_1 _) (by decide) rfl (fun ls hl => ?_)
                refine lv_goto (tgt := 11) hx hb dX6_isRinglessWith_61 (by decide) ?_
                exact ih11 (i11 + 1) h2_24 (by omega) (by omega) _ _ _ hP hD hS (lv_sub hl [0, 2, 3, 4] rfl)
              · skip
                have nc7 : ¬ 8 ≤ j24 := fun q9 => c7 ((nI_leI (a := 8) (b := j24) (by omega) (by omega)).mpr q9)
                refine lv_aload_n hx hb dX6_isRinglessWith_31 rfl (lv_at hl 3 rfl) ?_
                refine va_get (D := D) (ci := 6) (v := .ref w1) (C := RX6) (T := TX6) (N := 9) hx hb hts hiX6 hown hE.1 hP 0 rfl rfl 1 (by decide) (hts _ (List.mem_cons_of_mem _ wd_80)) (fun _ h9 => h9) rfl dX6_isRinglessWith_32 ?_
                refine lv_iload hx hb dX6_isRinglessWith_35 (lv_at hl 0 rfl) ?_
                refine va_iald hx hb hE.1 hP 1 0 rfl rfl (vp_in_nI (n := j24) (by omega) (by decide)) dX6_isRinglessWith_37 ?_
                refine lv_topi (fun v8 ev8 => ?_)
                refine lv_iload_n hx hb dX6_isRinglessWith_38 rfl (lv_at hl 2 rfl) ?_
                refine lv_iand hx hb dX6_isRinglessWith_39 ?_
                refine lv_topi (fun v9 ev9 => ?_)
                refine lv_if_ne (tgt := 52) hx hb dX6_isRinglessWith_40 (by decide) (fun c10 => ?_) (fun c10 => ?_)
                · skip
                  refine lv_iinc (v := (nI (j24 + 1))) (lv' := [(4, .int (nI (j24 + 1))), (3, .int (nI i11)), (2, .int h2_24), (0, .ref s1), (1, .int k0)]) hx hb dX6_isRinglessWith_52 hl (k := 0) rfl (nI_1 _) (by decide) rfl (fun ls hl => ?_)
                  refine lv_goto (tgt := 24) hx hb dX6_isRinglessWith_55 (by decide) ?_
                  exact ih24 (j24 + 1) h2_24 (by omega) (by omega) _ _ _ hP hD hS (lv_sub hl [0, 1, 2, 3, 4] rfl)
                · skip
                  refine lv_iload_n hx hb dX6_isRinglessWith_43 rfl (lv_at hl 2 rfl) ?_
                  refine lv_iconst (v := 1) hx hb dX6_isRinglessWith_44 (by decide) ?_
                  refine lv_iload hx hb dX6_isRinglessWith_45 (lv_at hl 0 rfl) ?_
                  refine lv_ishl hx hb dX6_isRinglessWith_47 ?_
                  refine lv_topi (fun v11 ev11 => ?_)
                  refine lv_iconst (v := (-1)) hx hb dX6_isRinglessWith_48 (by decide) ?_
                  refine lv_ixor hx hb dX6_isRinglessWith_49 ?_
                  refine lv_topi (fun v12 ev12 => ?_)
                  refine lv_iand hx hb dX6_isRinglessWith_50 ?_
                  refine lv_topi (fun v13 ev13 => ?_)
                  refine lv_istore_n (lv' := [(2, .int v13), (4, .int (nI j24)), (3, .int (nI i11)), (0, .ref s1), (1, .int k0)]) hx hb dX6_isRinglessWith_51 rfl hl (by decide) rfl (fun ls hl => ?_)
                  refine lv_iinc (v := (nI (j24 + 1))) (lv' := [(4, .int (nI (j24 + 1))), (2, .int v13), (3, .int (nI i11)), (0, .ref s1), (1, .int k0)]) hx hb dX6_isRinglessWith_52 hl (k := 1) rfl (nI_1 _) (by decide) rfl (fun ls hl => ?_)
                  refine lv_goto (tgt := 24) hx hb dX6_isRinglessWith_55 (by decide) ?_
                  exact ih24 (j24 + 1) v13 (by omega) (by omega) _ _ _ hP hD hS (lv_sub hl [0, 2, 1, 3, 4] rfl)
          exact J24 _ 0 h2_11 (by omega) (Nat.lt_succ_self _) _ _ _ hP hD hS (lv_sub hl [0, 1, 2, 3, 4] rfl)
  exact J11 _ 0 v2 (by omega) (Nat.lt_succ_self _) _ _ _ hP hD hS (lv_sub hl [0, 1, 2, 3] rfl)
theorem dX6_fewestPlain_0 : decode cX6_fewestPlain 0 = .ok (.aload_n 0, 1) := by decide +kernel
theorem dX6_fewestPlain_1 : decode cX6_fewestPlain 1 = .ok (.getfield 30, 3) := by decide +kernel
theorem dX6_fewestPlain_4 : decode cX6_fewestPlain 4 = .ok (.istore_n 1, 1) := by decide +kernel
theorem dX6_fewestPlain_5 : decode cX6_fewestPlain 5 = .ok (.iconst 0, 1) := by decide +kernel
theorem dX6_fewestPlain_6 : decode cX6_fewestPlain 6 = .ok (.istore_n 2, 1) := by decide +kernel
theorem dX6_fewestPlain_7 : decode cX6_fewestPlain 7 = .ok (.iload_n 2, 1) := by decide +kernel
theorem dX6_fewestPlain_8 : decode cX6_fewestPlain 8 = .ok (.aload_n 0, 1) := by decide +kernel
theorem dX6_fewestPlain_9 : decode cX6_fewestPlain 9 = .ok (.getfield 30, 3) := by decide +kernel
theorem dX6_fewestPlain_12 : decode cX6_fewestPlain 12 = .ok (.if_icmp .gt 51, 3) := by decide +kernel
theorem dX6_fewestPlain_15 : decode cX6_fewestPlain 15 = .ok (.iload_n 2, 1) := by decide +kernel
theorem dX6_fewestPlain_16 : decode cX6_fewestPlain 16 = .ok (.invokestatic 60, 3) := by decide +kernel
theorem dX6_fewestPlain_19 : decode cX6_fewestPlain 19 = .ok (.iload_n 1, 1) := by decide +kernel
theorem dX6_fewestPlain_20 : decode cX6_fewestPlain 20 = .ok (.invokestatic 60, 3) := by decide +kernel
theorem dX6_fewestPlain_23 : decode cX6_fewestPlain 23 = .ok (.if_icmp .ge 7, 3) := by decide +kernel
theorem dX6_fewestPlain_26 : decode cX6_fewestPlain 26 = .ok (.iconst 1, 1) := by decide +kernel
theorem dX6_fewestPlain_27 : decode cX6_fewestPlain 27 = .ok (.goto 4, 3) := by decide +kernel
theorem dX6_fewestPlain_30 : decode cX6_fewestPlain 30 = .ok (.iconst 0, 1) := by decide +kernel
theorem dX6_fewestPlain_31 : decode cX6_fewestPlain 31 = .ok (.istore_n 3, 1) := by decide +kernel
theorem dX6_fewestPlain_32 : decode cX6_fewestPlain 32 = .ok (.iload_n 3, 1) := by decide +kernel
theorem dX6_fewestPlain_33 : decode cX6_fewestPlain 33 = .ok (.ifCond .eq 24, 3) := by decide +kernel
theorem dX6_fewestPlain_36 : decode cX6_fewestPlain 36 = .ok (.iload_n 2, 1) := by decide +kernel
theorem dX6_fewestPlain_37 : decode cX6_fewestPlain 37 = .ok (.aload_n 0, 1) := by decide +kernel
theorem dX6_fewestPlain_38 : decode cX6_fewestPlain 38 = .ok (.getfield 30, 3) := by decide +kernel
theorem dX6_fewestPlain_41 : decode cX6_fewestPlain 41 = .ok (.iconst (-1), 1) := by decide +kernel
theorem dX6_fewestPlain_42 : decode cX6_fewestPlain 42 = .ok (.ixor, 1) := by decide +kernel
theorem dX6_fewestPlain_43 : decode cX6_fewestPlain 43 = .ok (.iand, 1) := by decide +kernel
theorem dX6_fewestPlain_44 : decode cX6_fewestPlain 44 = .ok (.ifCond .ne 13, 3) := by decide +kernel
theorem dX6_fewestPlain_47 : decode cX6_fewestPlain 47 = .ok (.aload_n 0, 1) := by decide +kernel
theorem dX6_fewestPlain_48 : decode cX6_fewestPlain 48 = .ok (.iload_n 2, 1) := by decide +kernel
theorem dX6_fewestPlain_49 : decode cX6_fewestPlain 49 = .ok (.invokevirtual 69, 3) := by decide +kernel
theorem dX6_fewestPlain_52 : decode cX6_fewestPlain 52 = .ok (.ifCond .eq 5, 3) := by decide +kernel
theorem dX6_fewestPlain_55 : decode cX6_fewestPlain 55 = .ok (.iload_n 2, 1) := by decide +kernel
theorem dX6_fewestPlain_56 : decode cX6_fewestPlain 56 = .ok (.istore_n 1, 1) := by decide +kernel
theorem dX6_fewestPlain_57 : decode cX6_fewestPlain 57 = .ok (.iinc 2 1, 3) := by decide +kernel
theorem dX6_fewestPlain_60 : decode cX6_fewestPlain 60 = .ok (.goto (-53), 3) := by decide +kernel
theorem dX6_fewestPlain_63 : decode cX6_fewestPlain 63 = .ok (.iload_n 1, 1) := by decide +kernel
theorem dX6_fewestPlain_64 : decode cX6_fewestPlain 64 = .ok (.ireturn, 1) := by decide +kernel
theorem gX6_fewestPlain_J6_bitCount_0f7a4 : GoodIn wtX6_fewestPlain (va_wsS RX6 60 yJ6_bitCount_0f7a4 wtJ6_bitCount_0f7a4) := tb_good (tb_s0 wd_539 wd_540 wd_541 wd_542)
theorem gX6_fewestPlain_X6_isRinglessWith : GoodIn wtX6_fewestPlain (wsV RX6 69 RX6 yX6_isRinglessWith wtX6_isRinglessWith) := tb_good (tb_v0 wd_893 wd_894 wd_895 wd_43 wd_896)
set_option maxHeartbeats 4000000 in
set_option maxRecDepth 100000 in
theorem m_X6_fewestPlain (l : Launch) (D : va_G) (cI cJ : ClassId) (sz : Nat) (s1 w0 w1 w2 w3 w4 w8 wn lv : Nat) (wi6 : Int32) (W1 : Nat → Int32) (hwn : wn < 256) (hlv : lv ≤ 8) : Met l yX6_fewestPlain wtX6_fewestPlain { frames := 1, cells := 0, slots := 0, locals := 24 } (cPc D cI cJ [.ref s1] sz [(oX6 s1 w0 w1 w2 w3 w4 (nI wn) wi6 (nI lv) w8), (aIc cI w1 8 W1)]) (cQi D (fun r u => u = [(oX6 s1 w0 w1 w2 w3 w4 (nI wn) wi6 (nI lv) w8), (aIc cI w1 8 W1)]) (va_A [(oX6 s1 w0 w1 w2 w3 w4 (nI wn) wi6 (nI lv) w8), (aIc cI w1 8 W1)] sz)) 0 0 (va_A [(oX6 s1 w0 w1 w2 w3 w4 (nI wn) wi6 (nI lv) w8), (aIc cI w1 8 W1)] sz) := by
  refine k_ofW (Qc := cQi D (fun r u => u = [(oX6 s1 w0 w1 w2 w3 w4 (nI wn) wi6 (nI lv) w8), (aIc cI w1 8 W1)])) (by decide) rfl (Nat.le_of_ble_eq_true rfl) ?_
  intro p e s m below meth c A ls hx hb hr hml hts hown hlk hnm hsz hE hP hD hS hA hl
  have hown : s.vm.findClass RX6 = some m.cls := hown
  have hiX6 : ∀ w ∈ u_ws RX6 TX6 9, w ∈ wtX6_fewestPlain := fun w h => List.mem_cons_of_mem _ (iuX6 w h)
  have hl : lv_has ls 4 [(0, .ref s1)] := hl
  refine lv_aload_n hx hb dX6_fewestPlain_0 rfl (lv_at hl 0 rfl) ?_
  refine va_get (D := D) (ci := 6) (v := .int (nI wn)) (C := RX6) (T := TX6) (N := 9) hx hb hts hiX6 hown hE.1 hP 0 rfl rfl 5 (by decide) (hts _ (List.mem_cons_of_mem _ wd_333)) (fun _ h9 => h9) rfl dX6_fewestPlain_1 ?_
  refine lv_istore_n (lv' := [(1, .int (nI wn)), (0, .ref s1)]) hx hb dX6_fewestPlain_4 rfl hl (by decide) rfl (fun ls hl => ?_)
  refine lv_iconst (v := 0) hx hb dX6_fewestPlain_5 (by decide) ?_
  refine lv_istore_n (lv' := [(2, .int 0), (1, .int (nI wn)), (0, .ref s1)]) hx hb dX6_fewestPlain_6 rfl hl (by decide) rfl (fun ls hl => ?_)
  have J7 : ∀ (zz : Nat) (i7 : Nat) (h1_7 : Int32), (i7 ≤ wn + 1) → (wn + 1 - i7) < zz → ∀ (H : Heap) (locs : List Loc) (ls : Array Slot), va_P D vwCl [(oX6 s1 w0 w1 w2 w3 w4 (nI wn) wi6 (nI lv) w8), (aIc cI w1 8 W1)] H → va_D A [(oX6 s1 w0 w1 w2 w3 w4 (nI wn) wi6 (nI lv) w8), (aIc cI w1 8 W1)] → va_S A s.heap H locs → lv_has ls 4 [(2, .int (nI i7)), (1, .int h1_7), (0, .ref s1)] → W p l e { frames := 1, cells := 0, slots := 0, locals := 24 } s m [.ref s1].toArray below meth c H locs 0 0 (MQ below (cQi D (fun r u => u = [(oX6 s1 w0 w1 w2 w3 w4 (nI wn) wi6 (nI lv) w8), (aIc cI w1 8 W1)]) A) [.ref s1].toArray s 0 0 A) (F0 m 7 ls []) := by
    intro zz
    induction zz with
    | zero => intro i7 h1_7 _; exact fun h => absurd h (Nat.not_lt_zero _)
    | succ zz ih7 =>
      intro i7 h1_7 hc2_7 hmu7 H locs ls hP hD hS hl
      refine lv_iload_n hx hb dX6_fewestPlain_7 rfl (lv_at hl 0 rfl) ?_
      refine lv_aload_n hx hb dX6_fewestPlain_8 rfl (lv_at hl 2 rfl) ?_
      refine va_get (D := D) (ci := 6) (v := .int (nI wn)) (C := RX6) (T := TX6) (N := 9) hx hb hts hiX6 hown hE.1 hP 0 rfl rfl 5 (by decide) (hts _ (List.mem_cons_of_mem _ wd_333)) (fun _ h9 => h9) rfl dX6_fewestPlain_9 ?_
      refine lv_icmp_gt (tgt := 63) hx hb dX6_fewestPlain_12 (by decide) (fun c1 => ?_) (fun c1 => ?_)
      · skip
        have nc1 : wn < i7 := (nI_ltI (a := wn) (b := i7) (by omega) (by omega)).mp c1
        refine lv_iload_n hx hb dX6_fewestPlain_63 rfl (lv_at hl 1 rfl) ?_
        refine k_iret (u := [(oX6 s1 w0 w1 w2 w3 w4 (nI wn) wi6 (nI lv) w8), (aIc cI w1 8 W1)]) hx hb hr hlk hP hD hS dX6_fewestPlain_64 ?_
        exact rfl
      · skip
        have nc1 : ¬ wn < i7 := fun q9 => c1 ((nI_ltI (a := wn) (b := i7) (by omega) (by omega)).mpr q9)
        refine lv_iload_n hx hb dX6_fewestPlain_15 rfl (lv_at hl 0 rfl) ?_
        refine k_iS (va_runS (As := [.int (nI i7)]) (rest := []) ⟨hx, hb, hml, hown, hts⟩ (m_bitCount l D cI cJ H.size (nI i7)) (va_cwS 1 hts gX6_fewestPlain_J6_bitCount_0f7a4 rfl rfl rfl (by decide +kernel) ⟨Nat.le_of_ble_eq_true rfl, Nat.le_of_ble_eq_true rfl⟩) (k_pre hE hP hD [] (by decide +kernel) rfl) rfl rfl hl.1 rfl (lv_room (Nat.le_of_ble_eq_true rfl)) dX6_fewestPlain_16 ⟨Nat.le_of_ble_eq_true rfl, Nat.le_of_ble_eq_true rfl⟩) hP hD hS hA [] rfl (fun _ _ ⟨_, h9⟩ => h9) (fun r2 H locs hw3 hP hD hS => ?_)
        obtain ⟨rfl, -⟩ := hw3
        refine lv_iload_n hx hb dX6_fewestPlain_19 rfl (lv_at hl 1 rfl) ?_
        refine k_iS (va_runS (As := [.int h1_7]) (rest := [.int (bc (nI i7))]) ⟨hx, hb, hml, hown, hts⟩ (m_bitCount l D cI cJ H.size h1_7) (va_cwS 1 hts gX6_fewestPlain_J6_bitCount_0f7a4 rfl rfl rfl (by decide +kernel) ⟨Nat.le_of_ble_eq_true rfl, Nat.le_of_ble_eq_true rfl⟩) (k_pre hE hP hD [] (by decide +kernel) rfl) rfl rfl hl.1 rfl (lv_room (Nat.le_of_ble_eq_true rfl)) dX6_fewestPlain_20 ⟨Nat.le_of_ble_eq_true rfl, Nat.le_of_ble_eq_true rfl⟩) hP hD hS hA [] rfl (fun _ _ ⟨_, h9⟩ => h9) (fun r4 H locs hw5 hP hD hS => ?_)
        obtain ⟨rfl, -⟩ := hw5
        refine lv_icmp_ge (tgt := 30) hx hb dX6_fewestPlain_23 (by decide) (fun c6 => ?_) (fun c6 => ?_)
        · skip
          refine lv_iconst (v := 0) hx hb dX6_fewestPlain_30 (by decide) ?_
          refine lv_istore_n (lv' := [(3, .int 0), (2, .int (nI i7)), (1, .int h1_7), (0, .ref s1)]) hx hb dX6_fewestPlain_31 rfl hl (by decide) rfl (fun ls hl => ?_)
          refine lv_iload_n hx hb dX6_fewestPlain_32 rfl (lv_at hl 0 rfl) ?_
          refine lv_if_eq (tgt := 57) hx hb dX6_fewestPlain_33 (by decide) (fun _ => ?_) (fun c7 => absurd (by decide) c7)
          refine lv_iinc (v := (nI (i7 + 1))) (lv' := [(2, .int (nI (i7 + 1))), (3, .int 0), (1, .int h1_7), (0, .ref s1)]) hx hb dX6_fewestPlain_57 hl (k := 1) rfl (nI_1 _) (by decide) rfl (fun ls hl => ?_)
          refine lv_goto (tgt := 7) hx hb dX6_fewestPlain_60 (by decide) ?_
          exact ih7 (i7 + 1) h1_7 (by omega) (by omega) _ _ _ hP hD hS (lv_sub hl [0, 2, 3] rfl)
        · skip
          refine lv_iconst (v := 1) hx hb dX6_fewestPlain_26 (by decide) ?_
          refine lv_goto (tgt := 31) hx hb dX6_fewestPlain_27 (by decide) ?_
          refine lv_istore_n (lv' := [(3, .int 1), (2, .int (nI i7)), (1, .int h1_7), (0, .ref s1)]) hx hb dX6_fewestPlain_31 rfl hl (by decide) rfl (fun ls hl => ?_)
          refine lv_iload_n hx hb dX6_fewestPlain_32 rfl (lv_at hl 0 rfl) ?_
          refine lv_if_eq (tgt := 57) hx hb dX6_fewestPlain_33 (by decide) (fun c8 => absurd c8 (by decide)) (fun _ => ?_)
          refine lv_iload_n hx hb dX6_fewestPlain_36 rfl (lv_at hl 1 rfl) ?_
          refine lv_aload_n hx hb dX6_fewestPlain_37 rfl (lv_at hl 3 rfl) ?_
          refine va_get (D := D) (ci := 6) (v := .int (nI wn)) (C := RX6) (T := TX6) (N := 9) hx hb hts hiX6 hown hE.1 hP 0 rfl rfl 5 (by decide) (hts _ (List.mem_cons_of_mem _ wd_333)) (fun _ h9 => h9) rfl dX6_fewestPlain_38 ?_
          refine lv_iconst (v := (-1)) hx hb dX6_fewestPlain_41 (by decide) ?_
          refine lv_ixor hx hb dX6_fewestPlain_42 ?_
          refine lv_topi (fun v9 ev9 => ?_)
          refine lv_iand hx hb dX6_fewestPlain_43 ?_
          refine lv_topi (fun v10 ev10 => ?_)
          refine lv_if_ne (tgt := 57) hx hb dX6_fewestPlain_44 (by decide) (fun c11 => ?_) (fun c11 => ?_)
          · skip
            refine lv_iinc (v := (nI (i7 + 1))) (lv' := [(2, .int (nI (i7 + 1))), (3, .int 1), (1, .int h1_7), (0, .ref s1)]) hx hb dX6_fewestPlain_57 hl (k := 1) rfl (nI_1 _) (by decide) rfl (fun ls hl => ?_)
            refine lv_goto (tgt := 7) hx hb dX6_fewestPlain_60 (by decide) ?_
            exact ih7 (i7 + 1) h1_7 (by omega) (by omega) _ _ _ hP hD hS (lv_sub hl [0, 2, 3] rfl)
          · skip
            refine lv_aload_n hx hb dX6_fewestPlain_47 rfl (lv_at hl 3 rfl) ?_
            refine lv_iload_n hx hb dX6_fewestPlain_48 rfl (lv_at hl 1 rfl) ?_
            refine k_iS (va_runV (As := [.int (nI i7)]) (rest := []) ⟨hx, hb, hml, hown, hts⟩ (m_X6_isRinglessWith l D cI cJ H.size s1 w0 w1 w2 w3 w4 w8 wn lv wi6 (nI i7) W1) (cwV 1 hts gX6_fewestPlain_X6_isRinglessWith rfl rfl rfl (by decide +kernel) ⟨Nat.le_of_ble_eq_true rfl, Nat.le_of_ble_eq_true rfl⟩) (k_preV hE hP hD [0, 1] (by decide +kernel) rfl 0 rfl rfl) rfl rfl hl.1 rfl (lv_room (Nat.le_of_ble_eq_true rfl)) dX6_fewestPlain_49 ⟨Nat.le_of_ble_eq_true rfl, Nat.le_of_ble_eq_true rfl⟩) hP hD hS hA [0, 1] rfl (fun _ _ ⟨_, h9⟩ => h9) (fun r12 H locs hw13 hP hD hS => ?_)
            obtain ⟨hz14, -⟩ := hw13
            refine lv_if_eq (tgt := 57) hx hb dX6_fewestPlain_52 (by decide) (fun c15 => ?_) (fun c15 => ?_)
            · skip
              refine lv_iinc (v := (nI (i7 + 1))) (lv' := [(2, .int (nI (i7 + 1))), (3, .int 1), (1, .int h1_7), (0, .ref s1)]) hx hb dX6_fewestPlain_57 hl (k := 1) rfl (nI_1 _) (by decide) rfl (fun ls hl => ?_)
              refine lv_goto (tgt := 7) hx hb dX6_fewestPlain_60 (by decide) ?_
              exact ih7 (i7 + 1) h1_7 (by omega) (by omega) _ _ _ hP hD hS (lv_sub hl [0, 2, 3] rfl)
            · skip
              refine lv_iload_n hx hb dX6_fewestPlain_55 rfl (lv_at hl 1 rfl) ?_
              refine lv_istore_n (lv' := [(1, .int (nI i7)), (3, .int 1), (2, .int (nI i7)), (0, .ref s1)]) hx hb dX6_fewestPlain_56 rfl hl (by decide) rfl (fun ls hl => ?_)
              refine lv_iinc (v := (nI (i7 + 1))) (lv' := [(2, .int (nI (i7 + 1))), (1, .int (nI i7)), (3, .int 1), (0, .ref s1)]) hx hb dX6_fewestPlain_57 hl (k := 2) rfl (nI_1 _) (by decide) rfl (fun ls hl => ?_)
              refine lv_goto (tgt := 7) hx hb dX6_fewestPlain_60 (by decide) ?_
              exact ih7 (i7 + 1) (nI i7) (by omega) (by omega) _ _ _ hP hD hS (lv_sub hl [0, 1, 3] rfl)
  exact J7 _ 0 (nI wn) (by omega) (Nat.lt_succ_self _) _ _ _ hP hD hS (lv_sub hl [0, 1, 2] rfl)

