theorem lm_on {F : Nat → Nat} {i x : Nat} {a v : Int64} (ea : a = lN (sm F i)) (hF : F i = x) (ev : v = a + Int32.toInt64 (nI x)) (hx : x < 2 ^ 31) : v = lN (sm F (i + 1)) := by
  subst hF; exact sm_step ea ev hx
theorem lm_off {F : Nat → Nat} {i : Nat} {a v : Int64} (ea : a = lN (sm F i)) (hF : F i = 0) (ev : v = a + 0) : v = lN (sm F (i + 1)) := by
  rw [ev, ea, Int64.add_zero]
  show lN (sm F i) = lN (sm F i + F i)
  rw [hF]; rfl
/-- the limits of those that have an item -/
def LF (it li : Nat → Nat) (f : Nat → Int32) (j : Nat) : Nat → Nat := fun k => if bt (f k) j = true then li k else 0
theorem lf_le {it li : Nat → Nat} {f : Nat → Int32} {j k c : Nat} (h : li k ≤ c) : LF it li f j k ≤ c := by
  unfold LF
  by_cases e : bt (f k) j = true
  · rw [if_pos e]; exact h
  · rw [if_neg e]; exact Nat.zero_le _
theorem lf_on {it li : Nat → Nat} {f : Nat → Int32} {j k : Nat} (h : bt (f k) j = true) : LF it li f j k = li k := if_pos h
theorem lf_off {it li : Nat → Nat} {f : Nat → Int32} {j k : Nat} (h : ¬ bt (f k) j = true) : LF it li f j k = 0 := if_neg h
theorem dX8_limitsOf_0 : decode cX8_limitsOf 0 = .ok (.lconst 0, 1) := by decide +kernel
theorem dX8_limitsOf_1 : decode cX8_limitsOf 1 = .ok (.lstore_n 2, 1) := by decide +kernel
theorem dX8_limitsOf_2 : decode cX8_limitsOf 2 = .ok (.iconst 0, 1) := by decide +kernel
theorem dX8_limitsOf_3 : decode cX8_limitsOf 3 = .ok (.istore 4, 2) := by decide +kernel
theorem dX8_limitsOf_5 : decode cX8_limitsOf 5 = .ok (.iload 4, 2) := by decide +kernel
theorem dX8_limitsOf_7 : decode cX8_limitsOf 7 = .ok (.aload_n 0, 1) := by decide +kernel
theorem dX8_limitsOf_8 : decode cX8_limitsOf 8 = .ok (.getfield 120, 3) := by decide +kernel
theorem dX8_limitsOf_11 : decode cX8_limitsOf 11 = .ok (.if_icmp .ge 38, 3) := by decide +kernel
theorem dX8_limitsOf_14 : decode cX8_limitsOf 14 = .ok (.lload_n 2, 1) := by decide +kernel
theorem dX8_limitsOf_15 : decode cX8_limitsOf 15 = .ok (.aload_n 0, 1) := by decide +kernel
theorem dX8_limitsOf_16 : decode cX8_limitsOf 16 = .ok (.getfield 22, 3) := by decide +kernel
theorem dX8_limitsOf_19 : decode cX8_limitsOf 19 = .ok (.iload 4, 2) := by decide +kernel
theorem dX8_limitsOf_21 : decode cX8_limitsOf 21 = .ok (.iaload, 1) := by decide +kernel
theorem dX8_limitsOf_22 : decode cX8_limitsOf 22 = .ok (.iload_n 1, 1) := by decide +kernel
theorem dX8_limitsOf_23 : decode cX8_limitsOf 23 = .ok (.invokestatic 154, 3) := by decide +kernel
theorem dX8_limitsOf_26 : decode cX8_limitsOf 26 = .ok (.ifCond .eq 14, 3) := by decide +kernel
theorem dX8_limitsOf_29 : decode cX8_limitsOf 29 = .ok (.aload_n 0, 1) := by decide +kernel
theorem dX8_limitsOf_30 : decode cX8_limitsOf 30 = .ok (.getfield 7, 3) := by decide +kernel
theorem dX8_limitsOf_33 : decode cX8_limitsOf 33 = .ok (.iload 4, 2) := by decide +kernel
theorem dX8_limitsOf_35 : decode cX8_limitsOf 35 = .ok (.iaload, 1) := by decide +kernel
theorem dX8_limitsOf_36 : decode cX8_limitsOf 36 = .ok (.i2l, 1) := by decide +kernel
theorem dX8_limitsOf_37 : decode cX8_limitsOf 37 = .ok (.goto 4, 3) := by decide +kernel
theorem dX8_limitsOf_40 : decode cX8_limitsOf 40 = .ok (.lconst 0, 1) := by decide +kernel
theorem dX8_limitsOf_41 : decode cX8_limitsOf 41 = .ok (.ladd, 1) := by decide +kernel
theorem dX8_limitsOf_42 : decode cX8_limitsOf 42 = .ok (.lstore_n 2, 1) := by decide +kernel
theorem dX8_limitsOf_43 : decode cX8_limitsOf 43 = .ok (.iinc 4 1, 3) := by decide +kernel
theorem dX8_limitsOf_46 : decode cX8_limitsOf 46 = .ok (.goto (-41), 3) := by decide +kernel
theorem dX8_limitsOf_49 : decode cX8_limitsOf 49 = .ok (.lload_n 2, 1) := by decide +kernel
theorem dX8_limitsOf_50 : decode cX8_limitsOf 50 = .ok (.lreturn, 1) := by decide +kernel
theorem gX8_limitsOf_X8_isOn : GoodIn wtX8_limitsOf (va_wsS RX8 154 yX8_isOn wtX8_isOn) := tb_good (tb_s0 wd_423 wd_424 wd_5 wd_425)
set_option maxHeartbeats 4000000 in
set_option maxRecDepth 100000 in
theorem m_X8_limitsOf (l : Launch) (D : va_G) (cI cJ : ClassId) (sz : Nat) (g g2 g3 g4 g5 g6 g7 g8 g9 g10 g12 g13 g15 g16 g17 g19 g20 g21 g22 g23 g24 g25 g26 g27 g28 g33 g34 g35 g36 g37 g38 g39 g41 g42 g44 g45 it mn ml mv : Nat) (gi0 gi14 gi18 gi29 gi30 gi32 gi40 gi43 : Int32) (G2 G6 : Nat → Int32) (li0 : Nat → Nat) (hmn : mn ≤ 8) (hit8 : it < 8) (hliv : nv G2 li0) (hlib : ∀ k, k < 8 → li0 k ≤ 1000000) : Met l yX8_limitsOf wtX8_limitsOf { frames := 1, cells := 0, slots := 0, locals := 21 } (cPc D cI cJ [.ref g, .int (nI it)] sz [(oX8 g gi0 (nI mn) g2 g3 g4 g5 g6 g7 g8 g9 g10 (nI ml) g12 g13 gi14 g15 g16 g17 gi18 g19 g20 g21 g22 g23 g24 g25 g26 g27 g28 gi29 gi30 (nI mv) gi32 g33 g34 g35 g36 g37 g38 g39 gi40 g41 g42 gi43 g44 g45), (aIc cI g2 8 G2), (aIc cI g6 8 G6)]) (cQl D (fun r u => r = (lN (sm (LF li0 li0 G6 it) mn)) ∧ u = [(oX8 g gi0 (nI mn) g2 g3 g4 g5 g6 g7 g8 g9 g10 (nI ml) g12 g13 gi14 g15 g16 g17 gi18 g19 g20 g21 g22 g23 g24 g25 g26 g27 g28 gi29 gi30 (nI mv) gi32 g33 g34 g35 g36 g37 g38 g39 gi40 g41 g42 gi43 g44 g45), (aIc cI g2 8 G2), (aIc cI g6 8 G6)]) (va_A [(oX8 g gi0 (nI mn) g2 g3 g4 g5 g6 g7 g8 g9 g10 (nI ml) g12 g13 gi14 g15 g16 g17 gi18 g19 g20 g21 g22 g23 g24 g25 g26 g27 g28 gi29 gi30 (nI mv) gi32 g33 g34 g35 g36 g37 g38 g39 gi40 g41 g42 gi43 g44 g45), (aIc cI g2 8 G2), (aIc cI g6 8 G6)] sz)) 0 0 (va_A [(oX8 g gi0 (nI mn) g2 g3 g4 g5 g6 g7 g8 g9 g10 (nI ml) g12 g13 gi14 g15 g16 g17 gi18 g19 g20 g21 g22 g23 g24 g25 g26 g27 g28 gi29 gi30 (nI mv) gi32 g33 g34 g35 g36 g37 g38 g39 gi40 g41 g42 gi43 g44 g45), (aIc cI g2 8 G2), (aIc cI g6 8 G6)] sz) := by
  refine k_ofW (Qc := cQl D (fun r u => r = (lN (sm (LF li0 li0 G6 it) mn)) ∧ u = [(oX8 g gi0 (nI mn) g2 g3 g4 g5 g6 g7 g8 g9 g10 (nI ml) g12 g13 gi14 g15 g16 g17 gi18 g19 g20 g21 g22 g23 g24 g25 g26 g27 g28 gi29 gi30 (nI mv) gi32 g33 g34 g35 g36 g37 g38 g39 gi40 g41 g42 gi43 g44 g45), (aIc cI g2 8 G2), (aIc cI g6 8 G6)])) (by decide) rfl (Nat.le_of_ble_eq_true rfl) ?_
  intro p e s m below meth c A ls hx hb hr hml hts hown hlk hnm hsz hE hP hD hS hA hl
  have hown : s.vm.findClass RX8 = some m.cls := hown
  have hiX8 : ∀ w ∈ u_ws RX8 TX8 46, w ∈ wtX8_limitsOf := fun w h => List.mem_cons_of_mem _ (iuX8 w h)
  have hl : lv_has ls 5 [(0, .ref g), (1, .int (nI it))] := hl
  refine lv_lconst (v := 0) hx hb dX8_limitsOf_0 (by decide) ?_
  refine lv_lstore_n (lv' := [(2, .long 0), (0, .ref g), (1, .int (nI it))]) hx hb dX8_limitsOf_1 rfl hl (by decide) rfl (fun ls hl => ?_)
  refine lv_iconst (v := 0) hx hb dX8_limitsOf_2 (by decide) ?_
  refine lv_istore (lv' := [(4, .int 0), (2, .long 0), (0, .ref g), (1, .int (nI it))]) hx hb dX8_limitsOf_3 hl (by decide) rfl (fun ls hl => ?_)
  have J5 : ∀ (zz : Nat) (i5 : Nat) (h2_5 : Int64), (i5 ≤ mn) → (h2_5 = lN (sm (LF li0 li0 G6 it) i5)) → (mn - i5) < zz → ∀ (H : Heap) (locs : List Loc) (ls : Array Slot), va_P D vwCl [(oX8 g gi0 (nI mn) g2 g3 g4 g5 g6 g7 g8 g9 g10 (nI ml) g12 g13 gi14 g15 g16 g17 gi18 g19 g20 g21 g22 g23 g24 g25 g26 g27 g28 gi29 gi30 (nI mv) gi32 g33 g34 g35 g36 g37 g38 g39 gi40 g41 g42 gi43 g44 g45), (aIc cI g2 8 G2), (aIc cI g6 8 G6)] H → va_D A [(oX8 g gi0 (nI mn) g2 g3 g4 g5 g6 g7 g8 g9 g10 (nI ml) g12 g13 gi14 g15 g16 g17 gi18 g19 g20 g21 g22 g23 g24 g25 g26 g27 g28 gi29 gi30 (nI mv) gi32 g33 g34 g35 g36 g37 g38 g39 gi40 g41 g42 gi43 g44 g45), (aIc cI g2 8 G2), (aIc cI g6 8 G6)] → va_S A s.heap H locs → lv_has ls 5 [(4, .int (nI i5)), (2, .long h2_5), (0, .ref g), (1, .int (nI it))] → W p l e { frames := 1, cells := 0, slots := 0, locals := 21 } s m [.ref g, .int (nI it)].toArray below meth c H locs 0 0 (MQ below (cQl D (fun r u => r = (lN (sm (LF li0 li0 G6 it) mn)) ∧ u = [(oX8 g gi0 (nI mn) g2 g3 g4 g5 g6 g7 g8 g9 g10 (nI ml) g12 g13 gi14 g15 g16 g17 gi18 g19 g20 g21 g22 g23 g24 g25 g26 g27 g28 gi29 gi30 (nI mv) gi32 g33 g34 g35 g36 g37 g38 g39 gi40 g41 g42 gi43 g44 g45), (aIc cI g2 8 G2), (aIc cI g6 8 G6)]) A) [.ref g, .int (nI it)].toArray s 0 0 A) (F0 m 5 ls []) := by
    intro zz
    induction zz with
    | zero => intro i5 h2_5 _ _; exact fun h => absurd h (Nat.not_lt_zero _)
    | succ zz ih5 =>
      intro i5 h2_5 hc4_5 hs_5 hmu5 H locs ls hP hD hS hl
      refine lv_iload hx hb dX8_limitsOf_5 (lv_at hl 0 rfl) ?_
      refine lv_aload_n hx hb dX8_limitsOf_7 rfl (lv_at hl 2 rfl) ?_
      refine va_get (D := D) (ci := 8) (v := .int (nI mn)) (C := RX8) (T := TX8) (N := 46) hx hb hts hiX8 hown hE.1 hP 0 rfl rfl 1 (by decide) (hts _ (List.mem_cons_of_mem _ wd_176)) (fun _ h9 => h9) rfl dX8_limitsOf_8 ?_
      refine lv_icmp_ge (tgt := 49) hx hb dX8_limitsOf_11 (by decide) (fun c1 => ?_) (fun c1 => ?_)
      · skip
        have nc1 : mn ≤ i5 := (nI_leI (a := mn) (b := i5) (by omega) (by omega)).mp c1
        refine lv_lload_n hx hb dX8_limitsOf_49 rfl (lv_at hl 1 rfl) ?_
        refine k_lret (u := [(oX8 g gi0 (nI mn) g2 g3 g4 g5 g6 g7 g8 g9 g10 (nI ml) g12 g13 gi14 g15 g16 g17 gi18 g19 g20 g21 g22 g23 g24 g25 g26 g27 g28 gi29 gi30 (nI mv) gi32 g33 g34 g35 g36 g37 g38 g39 gi40 g41 g42 gi43 g44 g45), (aIc cI g2 8 G2), (aIc cI g6 8 G6)]) hx hb hr hlk hP hD hS dX8_limitsOf_50 ?_
        exact ⟨(by obtain rfl : i5 = mn := (by omega); exact hs_5), rfl⟩
      · skip
        have nc1 : ¬ mn ≤ i5 := fun q9 => c1 ((nI_leI (a := mn) (b := i5) (by omega) (by omega)).mpr q9)
        refine lv_lload_n hx hb dX8_limitsOf_14 rfl (lv_at hl 1 rfl) ?_
        refine lv_aload_n hx hb dX8_limitsOf_15 rfl (lv_at hl 2 rfl) ?_
        refine va_get (D := D) (ci := 8) (v := .ref g6) (C := RX8) (T := TX8) (N := 46) hx hb hts hiX8 hown hE.1 hP 0 rfl rfl 6 (by decide) (hts _ (List.mem_cons_of_mem _ wd_120)) (fun _ h9 => h9) rfl dX8_limitsOf_16 ?_
        refine lv_iload hx hb dX8_limitsOf_19 (lv_at hl 0 rfl) ?_
        refine va_iald hx hb hE.1 hP 2 0 rfl rfl (vp_in_nI (n := i5) (by omega) (by decide)) dX8_limitsOf_21 ?_
        refine lv_topi (fun v2 ev2 => ?_)
        refine lv_iload_n hx hb dX8_limitsOf_22 rfl (lv_at hl 3 rfl) ?_
        refine k_iS (va_runS (As := [.int v2, .int (nI it)]) (rest := [.long h2_5]) ⟨hx, hb, hml, hown, hts⟩ (m_X8_isOn l D cI cJ H.size v2 (nI it)) (va_cwS 2 hts gX8_limitsOf_X8_isOn rfl rfl rfl (by decide +kernel) ⟨Nat.le_of_ble_eq_true rfl, Nat.le_of_ble_eq_true rfl⟩) (k_pre hE hP hD [] (by decide +kernel) rfl) rfl rfl hl.1 rfl (lv_room (Nat.le_of_ble_eq_true rfl)) dX8_limitsOf_23 ⟨Nat.le_of_ble_eq_true rfl, Nat.le_of_ble_eq_true rfl⟩) hP hD hS hA [] rfl (fun _ _ h9 => h9.2) (fun r3 H locs hw4 hP hD hS => ?_)
        obtain ⟨hw4, -⟩ := hw4
        refine lv_if_eq (tgt := 40) hx hb dX8_limitsOf_26 (by decide) (fun c5 => ?_) (fun c5 => ?_)
        · skip
          have hc5 : ¬ ((v2 >>> ((nI it) &&& 31)) &&& 1 = 1) := bz_0 hw4 c5
          refine lv_lconst (v := 0) hx hb dX8_limitsOf_40 (by decide) ?_
          refine lv_ladd hx hb dX8_limitsOf_41 ?_
          refine lv_topl (fun v6 ev6 => ?_)
          refine lv_lstore_n (lv' := [(2, .long v6), (4, .int (nI i5)), (0, .ref g), (1, .int (nI it))]) hx hb dX8_limitsOf_42 rfl hl (by decide) rfl (fun ls hl => ?_)
          refine lv_iinc (v := (nI (i5 + 1))) (lv' := [(4, .int (nI (i5 + 1))), (2, .long v6), (0, .ref g), (1, .int (nI it))]) hx hb dX8_limitsOf_43 hl (k := 1) rfl (nI_1 _) (by decide) rfl (fun ls hl => ?_)
          refine lv_goto (tgt := 5) hx hb dX8_limitsOf_46 (by decide) ?_
          exact ih5 (i5 + 1) v6 (by omega) (lm_off hs_5 (lf_off (fun z => hc5 ((fq_bt (Y := G6) (by omega) hit8 ev2).mpr z))) ev6) (by omega) _ _ _ hP hD hS (lv_sub hl [0, 1, 2, 3] rfl)
        · skip
          have hc5 : (v2 >>> ((nI it) &&& 31)) &&& 1 = 1 := bz_1 hw4 c5
          refine lv_aload_n hx hb dX8_limitsOf_29 rfl (lv_at hl 2 rfl) ?_
          refine va_get (D := D) (ci := 8) (v := .ref g2) (C := RX8) (T := TX8) (N := 46) hx hb hts hiX8 hown hE.1 hP 0 rfl rfl 2 (by decide) (hts _ (List.mem_cons_of_mem _ wd_116)) (fun _ h9 => h9) rfl dX8_limitsOf_30 ?_
          refine lv_iload hx hb dX8_limitsOf_33 (lv_at hl 0 rfl) ?_
          refine va_iald hx hb hE.1 hP 1 0 rfl rfl (vp_in_nI (n := i5) (by omega) (by decide)) dX8_limitsOf_35 ?_
          refine lv_topi (fun v7 ev7 => ?_)
          have hlib_ := hlib i5 (by omega)
          obtain rfl : v7 = nI (li0 i5) := ev7.trans (nv_at hliv (by omega))
          refine lv_i2l hx hb dX8_limitsOf_36 rfl ?_
          refine lv_goto (tgt := 41) hx hb dX8_limitsOf_37 (by decide) ?_
          refine lv_ladd hx hb dX8_limitsOf_41 ?_
          refine lv_topl (fun v8 ev8 => ?_)
          refine lv_lstore_n (lv' := [(2, .long v8), (4, .int (nI i5)), (0, .ref g), (1, .int (nI it))]) hx hb dX8_limitsOf_42 rfl hl (by decide) rfl (fun ls hl => ?_)
          refine lv_iinc (v := (nI (i5 + 1))) (lv' := [(4, .int (nI (i5 + 1))), (2, .long v8), (0, .ref g), (1, .int (nI it))]) hx hb dX8_limitsOf_43 hl (k := 1) rfl (nI_1 _) (by decide) rfl (fun ls hl => ?_)
          refine lv_goto (tgt := 5) hx hb dX8_limitsOf_46 (by decide) ?_
          exact ih5 (i5 + 1) v8 (by omega) (lm_on (x := li0 i5) hs_5 (lf_on ((fq_bt (Y := G6) (by omega) hit8 ev2).mp hc5)) ev8 (by omega)) (by omega) _ _ _ hP hD hS (lv_sub hl [0, 1, 2, 3] rfl)
  exact J5 _ 0 0 (by omega) rfl (Nat.lt_succ_self _) _ _ _ hP hD hS (lv_sub hl [0, 1, 2, 3] rfl)
theorem dX8_returned_0 : decode cX8_returned 0 = .ok (.aload_n 0, 1) := by decide +kernel
theorem dX8_returned_1 : decode cX8_returned 1 = .ok (.iconst 0, 1) := by decide +kernel
theorem dX8_returned_2 : decode cX8_returned 2 = .ok (.putfield 116, 3) := by decide +kernel
theorem dX8_returned_5 : decode cX8_returned 5 = .ok (.iload_n 2, 1) := by decide +kernel
theorem dX8_returned_6 : decode cX8_returned 6 = .ok (.invokestatic 146, 3) := by decide +kernel
theorem dX8_returned_9 : decode cX8_returned 9 = .ok (.ifCond .eq 38, 3) := by decide +kernel
theorem dX8_returned_12 : decode cX8_returned 12 = .ok (.aload_n 0, 1) := by decide +kernel
theorem dX8_returned_13 : decode cX8_returned 13 = .ok (.getfield 43, 3) := by decide +kernel
theorem dX8_returned_16 : decode cX8_returned 16 = .ok (.iload_n 2, 1) := by decide +kernel
theorem dX8_returned_17 : decode cX8_returned 17 = .ok (.iaload, 1) := by decide +kernel
theorem dX8_returned_18 : decode cX8_returned 18 = .ok (.ifCond .eq 29, 3) := by decide +kernel
theorem dX8_returned_21 : decode cX8_returned 21 = .ok (.iload_n 1, 1) := by decide +kernel
theorem dX8_returned_22 : decode cX8_returned 22 = .ok (.iconst (-1), 1) := by decide +kernel
theorem dX8_returned_23 : decode cX8_returned 23 = .ok (.if_icmp .eq 26, 3) := by decide +kernel
theorem dX8_returned_26 : decode cX8_returned 26 = .ok (.aload_n 0, 1) := by decide +kernel
theorem dX8_returned_27 : decode cX8_returned 27 = .ok (.iload_n 1, 1) := by decide +kernel
theorem dX8_returned_28 : decode cX8_returned 28 = .ok (.invokevirtual 140, 3) := by decide +kernel
theorem dX8_returned_31 : decode cX8_returned 31 = .ok (.ifCond .eq 16, 3) := by decide +kernel
theorem dX8_returned_34 : decode cX8_returned 34 = .ok (.aload_n 0, 1) := by decide +kernel
theorem dX8_returned_35 : decode cX8_returned 35 = .ok (.getfield 22, 3) := by decide +kernel
theorem dX8_returned_38 : decode cX8_returned 38 = .ok (.iload_n 1, 1) := by decide +kernel
theorem dX8_returned_39 : decode cX8_returned 39 = .ok (.iaload, 1) := by decide +kernel
theorem dX8_returned_40 : decode cX8_returned 40 = .ok (.iload_n 2, 1) := by decide +kernel
theorem dX8_returned_41 : decode cX8_returned 41 = .ok (.invokestatic 154, 3) := by decide +kernel
theorem dX8_returned_44 : decode cX8_returned 44 = .ok (.ifCond .ne 5, 3) := by decide +kernel
theorem dX8_returned_47 : decode cX8_returned 47 = .ok (.iconst (-1), 1) := by decide +kernel
theorem dX8_returned_48 : decode cX8_returned 48 = .ok (.ireturn, 1) := by decide +kernel
theorem dX8_returned_49 : decode cX8_returned 49 = .ok (.aload_n 0, 1) := by decide +kernel
theorem dX8_returned_50 : decode cX8_returned 50 = .ok (.iload_n 2, 1) := by decide +kernel
theorem dX8_returned_51 : decode cX8_returned 51 = .ok (.invokevirtual 308, 3) := by decide +kernel
theorem dX8_returned_54 : decode cX8_returned 54 = .ok (.lstore_n 3, 1) := by decide +kernel
theorem dX8_returned_55 : decode cX8_returned 55 = .ok (.lload_n 3, 1) := by decide +kernel
theorem dX8_returned_56 : decode cX8_returned 56 = .ok (.aload_n 0, 1) := by decide +kernel
theorem dX8_returned_57 : decode cX8_returned 57 = .ok (.getfield 43, 3) := by decide +kernel
theorem dX8_returned_60 : decode cX8_returned 60 = .ok (.iload_n 2, 1) := by decide +kernel
theorem dX8_returned_61 : decode cX8_returned 61 = .ok (.iaload, 1) := by decide +kernel
theorem dX8_returned_62 : decode cX8_returned 62 = .ok (.i2l, 1) := by decide +kernel
theorem dX8_returned_63 : decode cX8_returned 63 = .ok (.lcmp, 1) := by decide +kernel
theorem dX8_returned_64 : decode cX8_returned 64 = .ok (.ifCond .le 15, 3) := by decide +kernel
theorem dX8_returned_67 : decode cX8_returned 67 = .ok (.lload_n 3, 1) := by decide +kernel
theorem dX8_returned_68 : decode cX8_returned 68 = .ok (.aload_n 0, 1) := by decide +kernel
theorem dX8_returned_69 : decode cX8_returned 69 = .ok (.getfield 43, 3) := by decide +kernel
theorem dX8_returned_72 : decode cX8_returned 72 = .ok (.iload_n 2, 1) := by decide +kernel
theorem dX8_returned_73 : decode cX8_returned 73 = .ok (.iaload, 1) := by decide +kernel
theorem dX8_returned_74 : decode cX8_returned 74 = .ok (.i2l, 1) := by decide +kernel
theorem dX8_returned_75 : decode cX8_returned 75 = .ok (.lsub, 1) := by decide +kernel
theorem dX8_returned_76 : decode cX8_returned 76 = .ok (.goto 4, 3) := by decide +kernel
theorem dX8_returned_79 : decode cX8_returned 79 = .ok (.lconst 0, 1) := by decide +kernel
theorem dX8_returned_80 : decode cX8_returned 80 = .ok (.lstore 5, 2) := by decide +kernel
theorem dX8_returned_82 : decode cX8_returned 82 = .ok (.iload_n 1, 1) := by decide +kernel
theorem dX8_returned_83 : decode cX8_returned 83 = .ok (.iconst (-1), 1) := by decide +kernel
theorem dX8_returned_84 : decode cX8_returned 84 = .ok (.if_icmp .ne 9, 3) := by decide +kernel
theorem dX8_returned_87 : decode cX8_returned 87 = .ok (.lload 5, 2) := by decide +kernel
theorem dX8_returned_89 : decode cX8_returned 89 = .ok (.l2i, 1) := by decide +kernel
theorem dX8_returned_90 : decode cX8_returned 90 = .ok (.goto 16, 3) := by decide +kernel
theorem dX8_returned_93 : decode cX8_returned 93 = .ok (.aload_n 0, 1) := by decide +kernel
theorem dX8_returned_94 : decode cX8_returned 94 = .ok (.getfield 31, 3) := by decide +kernel
theorem dX8_returned_97 : decode cX8_returned 97 = .ok (.iload_n 1, 1) := by decide +kernel
theorem dX8_returned_98 : decode cX8_returned 98 = .ok (.iaload, 1) := by decide +kernel
theorem dX8_returned_99 : decode cX8_returned 99 = .ok (.i2l, 1) := by decide +kernel
theorem dX8_returned_100 : decode cX8_returned 100 = .ok (.lload 5, 2) := by decide +kernel
theorem dX8_returned_102 : decode cX8_returned 102 = .ok (.lmul, 1) := by decide +kernel
theorem dX8_returned_103 : decode cX8_returned 103 = .ok (.lload_n 3, 1) := by decide +kernel
theorem dX8_returned_104 : decode cX8_returned 104 = .ok (.ldiv, 1) := by decide +kernel
theorem dX8_returned_105 : decode cX8_returned 105 = .ok (.l2i, 1) := by decide +kernel
theorem dX8_returned_106 : decode cX8_returned 106 = .ok (.ireturn, 1) := by decide +kernel
theorem gX8_returned_X8_isItem : GoodIn wtX8_returned (va_wsS RX8 146 yX8_isItem wtX8_isItem) := tb_good (tb_s0 wd_226 wd_227 wd_5 wd_228)
theorem gX8_returned_X8_isOn : GoodIn wtX8_returned (va_wsS RX8 154 yX8_isOn wtX8_isOn) := tb_good (tb_s0 wd_423 wd_424 wd_5 wd_425)
theorem gX8_returned_X8_isPolicy : GoodIn wtX8_returned (wsV RX8 140 RX8 yX8_isPolicy wtX8_isPolicy) := tb_good (tb_v0 wd_198 wd_199 wd_200 wd_5 wd_201)
theorem gX8_returned_X8_limitsOf : GoodIn wtX8_returned (wsV RX8 308 RX8 yX8_limitsOf wtX8_limitsOf) := tb_good (tb_v0 wd_881 wd_882 wd_883 wd_5 wd_884)
set_option maxHeartbeats 4000000 in
set_option maxRecDepth 100000 in
theorem m_X8_returned (l : Launch) (D : va_G) (cI cJ : ClassId) (sz : Nat) (g g2 g3 g4 g5 g6 g7 g8 g9 g10 g12 g13 g15 g16 g17 g19 g20 g21 g22 g23 g24 g25 g26 g27 g28 g33 g34 g35 g36 g37 g38 g39 g41 g42 g44 g45 mn ml mv : Nat) (gi0 gi14 gi18 gi29 gi30 gi32 gi40 gi43 p0 p1 : Int32) (G2 G6 G9 G15 : Nat → Int32) (li0 : Nat → Nat) (hmn : mn ≤ 8) (hliv : nv G2 li0) (hlib : ∀ k, k < 8 → li0 k ≤ 1000000) (hl1 : ∀ k, k < mn → 1 ≤ li0 k) : Met l yX8_returned wtX8_returned { frames := 2, cells := 0, slots := 0, locals := 46 } (cPc D cI cJ [.ref g, .int p0, .int p1] sz [(oX8 g gi0 (nI mn) g2 g3 g4 g5 g6 g7 g8 g9 g10 (nI ml) g12 g13 gi14 g15 g16 g17 gi18 g19 g20 g21 g22 g23 g24 g25 g26 g27 g28 gi29 gi30 (nI mv) gi32 g33 g34 g35 g36 g37 g38 g39 gi40 g41 g42 gi43 g44 g45), (aIc cI g2 8 G2), (aIc cI g6 8 G6), (aIc cI g9 8 G9), (aIc cI g15 8 G15)]) (cQi D (fun r u => ∃ (gi0p : Int32), u = [(oX8 g gi0p (nI mn) g2 g3 g4 g5 g6 g7 g8 g9 g10 (nI ml) g12 g13 gi14 g15 g16 g17 gi18 g19 g20 g21 g22 g23 g24 g25 g26 g27 g28 gi29 gi30 (nI mv) gi32 g33 g34 g35 g36 g37 g38 g39 gi40 g41 g42 gi43 g44 g45), (aIc cI g2 8 G2), (aIc cI g6 8 G6), (aIc cI g9 8 G9), (aIc cI g15 8 G15)]) (va_A [(oX8 g gi0 (nI mn) g2 g3 g4 g5 g6 g7 g8 g9 g10 (nI ml) g12 g13 gi14 g15 g16 g17 gi18 g19 g20 g21 g22 g23 g24 g25 g26 g27 g28 gi29 gi30 (nI mv) gi32 g33 g34 g35 g36 g37 g38 g39 gi40 g41 g42 gi43 g44 g45), (aIc cI g2 8 G2), (aIc cI g6 8 G6), (aIc cI g9 8 G9), (aIc cI g15 8 G15)] sz)) 0 0 (va_A [(oX8 g gi0 (nI mn) g2 g3 g4 g5 g6 g7 g8 g9 g10 (nI ml) g12 g13 gi14 g15 g16 g17 gi18 g19 g20 g21 g22 g23 g24 g25 g26 g27 g28 gi29 gi30 (nI mv) gi32 g33 g34 g35 g36 g37 g38 g39 gi40 g41 g42 gi43 g44 g45), (aIc cI g2 8 G2), (aIc cI g6 8 G6), (aIc cI g9 8 G9), (aIc cI g15 8 G15)] sz) := by
  refine k_ofW (Qc := cQi D (fun r u => ∃ (gi0p : Int32), u = [(oX8 g gi0p (nI mn) g2 g3 g4 g5 g6 g7 g8 g9 g10 (nI ml) g12 g13 gi14 g15 g16 g17 gi18 g19 g20 g21 g22 g23 g24 g25 g26 g27 g28 gi29 gi30 (nI mv) gi32 g33 g34 g35 g36 g37 g38 g39 gi40 g41 g42 gi43 g44 g45), (aIc cI g2 8 G2), (aIc cI g6 8 G6), (aIc cI g9 8 G9), (aIc cI g15 8 G15)])) (by decide) rfl (Nat.le_of_ble_eq_true rfl) ?_
  intro p e s m below meth c A ls hx hb hr hml hts hown hlk hnm hsz hE hP hD hS hA hl
  have hown : s.vm.findClass RX8 = some m.cls := hown
  have hiX8 : ∀ w ∈ u_ws RX8 TX8 46, w ∈ wtX8_returned := fun w h => List.mem_cons_of_mem _ (iuX8 w h)
  have hl : lv_has ls 7 [(0, .ref g), (1, .int p0), (2, .int p1)] := hl
  refine lv_aload_n hx hb dX8_returned_0 rfl (lv_at hl 0 rfl) ?_
  refine lv_iconst (v := 0) hx hb dX8_returned_1 (by decide) ?_
  refine va_put (D := D) (ci := 8) (v := .int 0) (ty := .int) (C := RX8) (T := TX8) (N := 46) hx hb hts hiX8 tyX8 tyX8_ok nmX8 hown hE.1 hP hD hS 0 rfl rfl 0 (by decide) (hts _ (List.mem_cons_of_mem _ wd_171)) (fun _ h9 => h9) rfl (by decide +kernel) rfl rfl (Nat.le_of_ble_eq_true rfl) dX8_returned_2 (fun H locs hP hD hS => ?_)
  refine k_re (w := [(oX8 g 0 (nI mn) g2 g3 g4 g5 g6 g7 g8 g9 g10 (nI ml) g12 g13 gi14 g15 g16 g17 gi18 g19 g20 g21 g22 g23 g24 g25 g26 g27 g28 gi29 gi30 (nI mv) gi32 g33 g34 g35 g36 g37 g38 g39 gi40 g41 g42 gi43 g44 g45), (aIc cI g2 8 G2), (aIc cI g6 8 G6), (aIc cI g9 8 G9), (aIc cI g15 8 G15)]) hP hD (fun hP hD => ?_)
  refine lv_iload_n hx hb dX8_returned_5 rfl (lv_at hl 2 rfl) ?_
  refine k_iS (va_runS (As := [.int p1]) (rest := []) ⟨hx, hb, hml, hown, hts⟩ (m_X8_isItem l D cI cJ H.size p1) (va_cwS 1 hts gX8_returned_X8_isItem rfl rfl rfl (by decide +kernel) ⟨Nat.le_of_ble_eq_true rfl, Nat.le_of_ble_eq_true rfl⟩) (k_pre hE hP hD [] (by decide +kernel) rfl) rfl rfl hl.1 rfl (lv_room (Nat.le_of_ble_eq_true rfl)) dX8_returned_6 ⟨Nat.le_of_ble_eq_true rfl, Nat.le_of_ble_eq_true rfl⟩) hP hD hS hA [] rfl (fun _ _ h9 => h9.2) (fun r1 H locs hw2 hP hD hS => ?_)
  obtain ⟨hw2, -⟩ := hw2
  refine lv_if_eq (tgt := 47) hx hb dX8_returned_9 (by decide) (fun c3 => ?_) (fun c3 => ?_)
  · skip
    have hc3 : ¬ (0 ≤ p1 ∧ p1 ≤ 7) := bz_0 hw2 c3
    refine lv_iconst (v := (-1)) hx hb dX8_returned_47 (by decide) ?_
    refine k_iret (u := [(oX8 g 0 (nI mn) g2 g3 g4 g5 g6 g7 g8 g9 g10 (nI ml) g12 g13 gi14 g15 g16 g17 gi18 g19 g20 g21 g22 g23 g24 g25 g26 g27 g28 gi29 gi30 (nI mv) gi32 g33 g34 g35 g36 g37 g38 g39 gi40 g41 g42 gi43 g44 g45), (aIc cI g2 8 G2), (aIc cI g6 8 G6), (aIc cI g9 8 G9), (aIc cI g15 8 G15)]) hx hb hr hlk hP hD hS dX8_returned_48 ?_
    exact ⟨0, rfl⟩
  · skip
    have hc3 : 0 ≤ p1 ∧ p1 ≤ 7 := bz_1 hw2 c3
    obtain ⟨ij, hij, eij⟩ := wi_07 hc3
    rw [eij] at hl
    refine lv_aload_n hx hb dX8_returned_12 rfl (lv_at hl 0 rfl) ?_
    refine va_get (D := D) (ci := 8) (v := .ref g15) (C := RX8) (T := TX8) (N := 46) hx hb hts hiX8 hown hE.1 hP 0 rfl rfl 15 (by decide) (hts _ (List.mem_cons_of_mem _ wd_127)) (fun _ h9 => h9) rfl dX8_returned_13 ?_
    refine lv_iload_n hx hb dX8_returned_16 rfl (lv_at hl 2 rfl) ?_
    refine va_iald hx hb hE.1 hP 4 0 rfl rfl (vp_in_nI (n := ij) (by omega) (by decide)) dX8_returned_17 ?_
    refine lv_topi (fun v4 ev4 => ?_)
    refine lv_if_eq (tgt := 47) hx hb dX8_returned_18 (by decide) (fun c5 => ?_) (fun c5 => ?_)
    · skip
      refine lv_iconst (v := (-1)) hx hb dX8_returned_47 (by decide) ?_
      refine k_iret (u := [(oX8 g 0 (nI mn) g2 g3 g4 g5 g6 g7 g8 g9 g10 (nI ml) g12 g13 gi14 g15 g16 g17 gi18 g19 g20 g21 g22 g23 g24 g25 g26 g27 g28 gi29 gi30 (nI mv) gi32 g33 g34 g35 g36 g37 g38 g39 gi40 g41 g42 gi43 g44 g45), (aIc cI g2 8 G2), (aIc cI g6 8 G6), (aIc cI g9 8 G9), (aIc cI g15 8 G15)]) hx hb hr hlk hP hD hS dX8_returned_48 ?_
      exact ⟨0, rfl⟩
    · skip
      refine lv_iload_n hx hb dX8_returned_21 rfl (lv_at hl 1 rfl) ?_
      refine lv_iconst (v := (-1)) hx hb dX8_returned_22 (by decide) ?_
      refine lv_icmp_eq (tgt := 49) hx hb dX8_returned_23 (by decide) (fun c6 => ?_) (fun c6 => ?_)
      · skip
        refine lv_aload_n hx hb dX8_returned_49 rfl (lv_at hl 0 rfl) ?_
        refine lv_iload_n hx hb dX8_returned_50 rfl (lv_at hl 2 rfl) ?_
        refine k_lS (va_runV (As := [.int (nI ij)]) (rest := []) ⟨hx, hb, hml, hown, hts⟩ (m_X8_limitsOf l D cI cJ H.size g g2 g3 g4 g5 g6 g7 g8 g9 g10 g12 g13 g15 g16 g17 g19 g20 g21 g22 g23 g24 g25 g26 g27 g28 g33 g34 g35 g36 g37 g38 g39 g41 g42 g44 g45 ij mn ml mv 0 gi14 gi18 gi29 gi30 gi32 gi40 gi43 G2 G6 li0 hmn (by omega) hliv hlib) (cwV 1 hts gX8_returned_X8_limitsOf rfl rfl rfl (by decide +kernel) ⟨Nat.le_of_ble_eq_true rfl, Nat.le_of_ble_eq_true rfl⟩) (k_preV hE hP hD [0, 1, 2] (by decide +kernel) rfl 0 rfl rfl) rfl rfl hl.1 rfl (lv_room (Nat.le_of_ble_eq_true rfl)) dX8_returned_51 ⟨Nat.le_of_ble_eq_true rfl, Nat.le_of_ble_eq_true rfl⟩) hP hD hS hA [0, 1, 2] rfl (fun _ _ ⟨_, h9⟩ => h9) (fun r7 H locs hw8 hP hD hS => ?_)
        obtain ⟨rfl, -⟩ := hw8
        refine lv_lstore_n (lv' := [(3, .long (lN (sm (LF li0 li0 G6 ij) mn))), (0, .ref g), (1, .int p0), (2, .int (nI ij))]) hx hb dX8_returned_54 rfl hl (by decide) rfl (fun ls hl => ?_)
        refine lv_lload_n hx hb dX8_returned_55 rfl (lv_at hl 0 rfl) ?_
        refine lv_aload_n hx hb dX8_returned_56 rfl (lv_at hl 1 rfl) ?_
        refine va_get (D := D) (ci := 8) (v := .ref g15) (C := RX8) (T := TX8) (N := 46) hx hb hts hiX8 hown hE.1 hP 0 rfl rfl 15 (by decide) (hts _ (List.mem_cons_of_mem _ wd_127)) (fun _ h9 => h9) rfl dX8_returned_57 ?_
        refine lv_iload_n hx hb dX8_returned_60 rfl (lv_at hl 3 rfl) ?_
        refine va_iald hx hb hE.1 hP 4 0 rfl rfl (vp_in_nI (n := ij) (by omega) (by decide)) dX8_returned_61 ?_
        refine lv_topi (fun v9 ev9 => ?_)
        refine lv_i2l hx hb dX8_returned_62 rfl ?_
        refine k_lcmp_le (tgt := 79) hx hb dX8_returned_63 dX8_returned_64 (by decide) (fun c10 => ?_) (fun c10 => ?_)
        · skip
          refine lv_lconst (v := 0) hx hb dX8_returned_79 (by decide) ?_
          refine lv_lstore (lv' := [(5, .long 0), (3, .long (lN (sm (LF li0 li0 G6 ij) mn))), (0, .ref g), (1, .int p0), (2, .int (nI ij))]) hx hb dX8_returned_80 hl (by decide) rfl (fun ls hl => ?_)
          refine lv_iload_n hx hb dX8_returned_82 rfl (lv_at hl 3 rfl) ?_
          refine lv_iconst (v := (-1)) hx hb dX8_returned_83 (by decide) ?_
          refine lv_icmp_ne (tgt := 93) hx hb dX8_returned_84 (by decide) (fun c11 => absurd c6 c11) (fun c11a => ?_)
          refine lv_lload hx hb dX8_returned_87 (lv_at hl 0 rfl) ?_
          refine lv_l2i hx hb dX8_returned_89 rfl ?_
          refine lv_topi (fun v12 ev12 => ?_)
          refine lv_goto (tgt := 106) hx hb dX8_returned_90 (by decide) ?_
          refine k_iret (u := [(oX8 g 0 (nI mn) g2 g3 g4 g5 g6 g7 g8 g9 g10 (nI ml) g12 g13 gi14 g15 g16 g17 gi18 g19 g20 g21 g22 g23 g24 g25 g26 g27 g28 gi29 gi30 (nI mv) gi32 g33 g34 g35 g36 g37 g38 g39 gi40 g41 g42 gi43 g44 g45), (aIc cI g2 8 G2), (aIc cI g6 8 G6), (aIc cI g9 8 G9), (aIc cI g15 8 G15)]) hx hb hr hlk hP hD hS dX8_returned_106 ?_
          exact ⟨0, rfl⟩
        · skip
          refine lv_lload_n hx hb dX8_returned_67 rfl (lv_at hl 0 rfl) ?_
          refine lv_aload_n hx hb dX8_returned_68 rfl (lv_at hl 1 rfl) ?_
          refine va_get (D := D) (ci := 8) (v := .ref g15) (C := RX8) (T := TX8) (N := 46) hx hb hts hiX8 hown hE.1 hP 0 rfl rfl 15 (by decide) (hts _ (List.mem_cons_of_mem _ wd_127)) (fun _ h9 => h9) rfl dX8_returned_69 ?_
          refine lv_iload_n hx hb dX8_returned_72 rfl (lv_at hl 3 rfl) ?_
          refine va_iald hx hb hE.1 hP 4 0 rfl rfl (vp_in_nI (n := ij) (by omega) (by decide)) dX8_returned_73 ?_
          refine lv_topi (fun v13 ev13 => ?_)
          refine lv_i2l hx hb dX8_returned_74 rfl ?_
          refine lv_lsub hx hb dX8_returned_75 ?_
          refine lv_topl (fun v14 ev14 => ?_)
          refine lv_goto (tgt := 80) hx hb dX8_returned_76 (by decide) ?_
          refine lv_lstore (lv' := [(5, .long v14), (3, .long (lN (sm (LF li0 li0 G6 ij) mn))), (0, .ref g), (1, .int p0), (2, .int (nI ij))]) hx hb dX8_returned_80 hl (by decide) rfl (fun ls hl => ?_)
          refine lv_iload_n hx hb dX8_returned_82 rfl (lv_at hl 3 rfl) ?_
          refine lv_iconst (v := (-1)) hx hb dX8_returned_83 (by decide) ?_
          refine lv_icmp_ne (tgt := 93) hx hb dX8_returned_84 (by decide) (fun c15 => absurd c6 c15) (fun c15a => ?_)
          refine lv_lload hx hb dX8_returned_87 (lv_at hl 0 rfl) ?_
          refine lv_l2i hx hb dX8_returned_89 rfl ?_
          refine lv_topi (fun v16 ev16 => ?_)
          refine lv_goto (tgt := 106) hx hb dX8_returned_90 (by decide) ?_
          refine k_iret (u := [(oX8 g 0 (nI mn) g2 g3 g4 g5 g6 g7 g8 g9 g10 (nI ml) g12 g13 gi14 g15 g16 g17 gi18 g19 g20 g21 g22 g23 g24 g25 g26 g27 g28 gi29 gi30 (nI mv) gi32 g33 g34 g35 g36 g37 g38 g39 gi40 g41 g42 gi43 g44 g45), (aIc cI g2 8 G2), (aIc cI g6 8 G6), (aIc cI g9 8 G9), (aIc cI g15 8 G15)]) hx hb hr hlk hP hD hS dX8_returned_106 ?_
          exact ⟨0, rfl⟩
      · skip
        refine lv_aload_n hx hb dX8_returned_26 rfl (lv_at hl 0 rfl) ?_
        refine lv_iload_n hx hb dX8_returned_27 rfl (lv_at hl 1 rfl) ?_
        refine k_iS (va_runV (As := [.int p0]) (rest := []) ⟨hx, hb, hml, hown, hts⟩ (m_X8_isPolicy l D cI cJ H.size g g2 g3 g4 g5 g6 g7 g8 g9 g10 g12 g13 g15 g16 g17 g19 g20 g21 g22 g23 g24 g25 g26 g27 g28 g33 g34 g35 g36 g37 g38 g39 g41 g42 g44 g45 mn ml mv 0 gi14 gi18 gi29 gi30 gi32 gi40 gi43 p0) (cwV 1 hts gX8_returned_X8_isPolicy rfl rfl rfl (by decide +kernel) ⟨Nat.le_of_ble_eq_true rfl, Nat.le_of_ble_eq_true rfl⟩) (k_preV hE hP hD [0] (by decide +kernel) rfl 0 rfl rfl) rfl rfl hl.1 rfl (lv_room (Nat.le_of_ble_eq_true rfl)) dX8_returned_28 ⟨Nat.le_of_ble_eq_true rfl, Nat.le_of_ble_eq_true rfl⟩) hP hD hS hA [0] rfl (fun _ _ ⟨_, h9⟩ => h9) (fun r17 H locs hw18 hP hD hS => ?_)
        obtain ⟨hb19, -⟩ := hw18
        refine lv_if_eq (tgt := 47) hx hb dX8_returned_31 (by decide) (fun c20 => ?_) (fun c20 => ?_)
        · skip
          have hc20 : ¬ (0 ≤ p0 ∧ p0 ≤ nI mn - 1) := bz_0 hb19 c20
          refine lv_iconst (v := (-1)) hx hb dX8_returned_47 (by decide) ?_
          refine k_iret (u := [(oX8 g 0 (nI mn) g2 g3 g4 g5 g6 g7 g8 g9 g10 (nI ml) g12 g13 gi14 g15 g16 g17 gi18 g19 g20 g21 g22 g23 g24 g25 g26 g27 g28 gi29 gi30 (nI mv) gi32 g33 g34 g35 g36 g37 g38 g39 gi40 g41 g42 gi43 g44 g45), (aIc cI g2 8 G2), (aIc cI g6 8 G6), (aIc cI g9 8 G9), (aIc cI g15 8 G15)]) hx hb hr hlk hP hD hS dX8_returned_48 ?_
          exact ⟨0, rfl⟩
        · skip
          have hc20 : 0 ≤ p0 ∧ p0 ≤ nI mn - 1 := bz_1 hb19 c20
          obtain ⟨pj, hpj, epj⟩ := wi_n (by omega) hc20
          rw [epj] at hl
          refine lv_aload_n hx hb dX8_returned_34 rfl (lv_at hl 0 rfl) ?_
          refine va_get (D := D) (ci := 8) (v := .ref g6) (C := RX8) (T := TX8) (N := 46) hx hb hts hiX8 hown hE.1 hP 0 rfl rfl 6 (by decide) (hts _ (List.mem_cons_of_mem _ wd_120)) (fun _ h9 => h9) rfl dX8_returned_35 ?_
          refine lv_iload_n hx hb dX8_returned_38 rfl (lv_at hl 1 rfl) ?_
          refine va_iald hx hb hE.1 hP 2 0 rfl rfl (vp_in_nI (n := pj) (by omega) (by decide)) dX8_returned_39 ?_
          refine lv_topi (fun v21 ev21 => ?_)
          refine lv_iload_n hx hb dX8_returned_40 rfl (lv_at hl 2 rfl) ?_
          refine k_iS (va_runS (As := [.int v21, .int (nI ij)]) (rest := []) ⟨hx, hb, hml, hown, hts⟩ (m_X8_isOn l D cI cJ H.size v21 (nI ij)) (va_cwS 2 hts gX8_returned_X8_isOn rfl rfl rfl (by decide +kernel) ⟨Nat.le_of_ble_eq_true rfl, Nat.le_of_ble_eq_true rfl⟩) (k_pre hE hP hD [] (by decide +kernel) rfl) rfl rfl hl.1 rfl (lv_room (Nat.le_of_ble_eq_true rfl)) dX8_returned_41 ⟨Nat.le_of_ble_eq_true rfl, Nat.le_of_ble_eq_true rfl⟩) hP hD hS hA [] rfl (fun _ _ h9 => h9.2) (fun r22 H locs hw23 hP hD hS => ?_)
          obtain ⟨hw23, -⟩ := hw23
          refine lv_if_ne (tgt := 49) hx hb dX8_returned_44 (by decide) (fun c24 => ?_) (fun c24 => ?_)
          · skip
            have hc24 : (v21 >>> ((nI ij) &&& 31)) &&& 1 = 1 := bz_1 hw23 c24
            refine lv_aload_n hx hb dX8_returned_49 rfl (lv_at hl 0 rfl) ?_
            refine lv_iload_n hx hb dX8_returned_50 rfl (lv_at hl 2 rfl) ?_
            refine k_lS (va_runV (As := [.int (nI ij)]) (rest := []) ⟨hx, hb, hml, hown, hts⟩ (m_X8_limitsOf l D cI cJ H.size g g2 g3 g4 g5 g6 g7 g8 g9 g10 g12 g13 g15 g16 g17 g19 g20 g21 g22 g23 g24 g25 g26 g27 g28 g33 g34 g35 g36 g37 g38 g39 g41 g42 g44 g45 ij mn ml mv 0 gi14 gi18 gi29 gi30 gi32 gi40 gi43 G2 G6 li0 hmn (by omega) hliv hlib) (cwV 1 hts gX8_returned_X8_limitsOf rfl rfl rfl (by decide +kernel) ⟨Nat.le_of_ble_eq_true rfl, Nat.le_of_ble_eq_true rfl⟩) (k_preV hE hP hD [0, 1, 2] (by decide +kernel) rfl 0 rfl rfl) rfl rfl hl.1 rfl (lv_room (Nat.le_of_ble_eq_true rfl)) dX8_returned_51 ⟨Nat.le_of_ble_eq_true rfl, Nat.le_of_ble_eq_true rfl⟩) hP hD hS hA [0, 1, 2] rfl (fun _ _ ⟨_, h9⟩ => h9) (fun r25 H locs hw26 hP hD hS => ?_)
            obtain ⟨rfl, -⟩ := hw26
            refine lv_lstore_n (lv' := [(3, .long (lN (sm (LF li0 li0 G6 ij) mn))), (0, .ref g), (1, .int (nI pj)), (2, .int (nI ij))]) hx hb dX8_returned_54 rfl hl (by decide) rfl (fun ls hl => ?_)
            refine lv_lload_n hx hb dX8_returned_55 rfl (lv_at hl 0 rfl) ?_
            refine lv_aload_n hx hb dX8_returned_56 rfl (lv_at hl 1 rfl) ?_
            refine va_get (D := D) (ci := 8) (v := .ref g15) (C := RX8) (T := TX8) (N := 46) hx hb hts hiX8 hown hE.1 hP 0 rfl rfl 15 (by decide) (hts _ (List.mem_cons_of_mem _ wd_127)) (fun _ h9 => h9) rfl dX8_returned_57 ?_
            refine lv_iload_n hx hb dX8_returned_60 rfl (lv_at hl 3 rfl) ?_
            refine va_iald hx hb hE.1 hP 4 0 rfl rfl (vp_in_nI (n := ij) (by omega) (by decide)) dX8_returned_61 ?_
            refine lv_topi (fun v27 ev27 => ?_)
            refine lv_i2l hx hb dX8_returned_62 rfl ?_
            refine k_lcmp_le (tgt := 79) hx hb dX8_returned_63 dX8_returned_64 (by decide) (fun c28 => ?_) (fun c28 => ?_)
            · skip
              refine lv_lconst (v := 0) hx hb dX8_returned_79 (by decide) ?_
              refine lv_lstore (lv' := [(5, .long 0), (3, .long (lN (sm (LF li0 li0 G6 ij) mn))), (0, .ref g), (1, .int (nI pj)), (2, .int (nI ij))]) hx hb dX8_returned_80 hl (by decide) rfl (fun ls hl => ?_)
              refine lv_iload_n hx hb dX8_returned_82 rfl (lv_at hl 3 rfl) ?_
              refine lv_iconst (v := (-1)) hx hb dX8_returned_83 (by decide) ?_
              refine lv_icmp_ne (tgt := 93) hx hb dX8_returned_84 (by decide) (fun c29a => ?_) (fun c29 => absurd c29 (ni_m1 (by omega)))
              refine lv_aload_n hx hb dX8_returned_93 rfl (lv_at hl 2 rfl) ?_
              refine va_get (D := D) (ci := 8) (v := .ref g9) (C := RX8) (T := TX8) (N := 46) hx hb hts hiX8 hown hE.1 hP 0 rfl rfl 9 (by decide) (hts _ (List.mem_cons_of_mem _ wd_123)) (fun _ h9 => h9) rfl dX8_returned_94 ?_
              refine lv_iload_n hx hb dX8_returned_97 rfl (lv_at hl 3 rfl) ?_
              refine va_iald hx hb hE.1 hP 3 0 rfl rfl (vp_in_nI (n := pj) (by omega) (by decide)) dX8_returned_98 ?_
              refine lv_topi (fun v30 ev30 => ?_)
              refine lv_i2l hx hb dX8_returned_99 rfl ?_
              refine lv_lload hx hb dX8_returned_100 (lv_at hl 0 rfl) ?_
              refine lv_lmul hx hb dX8_returned_102 ?_
              refine lv_topl (fun v31 ev31 => ?_)
              refine lv_lload_n hx hb dX8_returned_103 rfl (lv_at hl 1 rfl) ?_
              have hbo := (fq_bt (Y := G6) (p := pj) (q := ij) (by omega) (by omega) ev21).mp hc24
              have hge := sm_get (LF li0 li0 G6 ij) (k := pj) (n := mn) (by omega)
              rw [lf_on hbo] at hge
              have hl19 := hl1 pj (by omega)
              have hsb := sm_bound (f := LF li0 li0 G6 ij) (c := 1000000) (n := mn) (fun k hk => lf_le (hlib k (by omega)))
              refine lv_ldiv hx hb dX8_returned_104 (lN_ne (by omega) (by omega)) ?_
              refine lv_topl (fun v32 ev32 => ?_)
              refine lv_l2i hx hb dX8_returned_105 rfl ?_
              refine lv_topi (fun v33 ev33 => ?_)
              refine k_iret (u := [(oX8 g 0 (nI mn) g2 g3 g4 g5 g6 g7 g8 g9 g10 (nI ml) g12 g13 gi14 g15 g16 g17 gi18 g19 g20 g21 g22 g23 g24 g25 g26 g27 g28 gi29 gi30 (nI mv) gi32 g33 g34 g35 g36 g37 g38 g39 gi40 g41 g42 gi43 g44 g45), (aIc cI g2 8 G2), (aIc cI g6 8 G6), (aIc cI g9 8 G9), (aIc cI g15 8 G15)]) hx hb hr hlk hP hD hS dX8_returned_106 ?_
              exact ⟨0, rfl⟩
            · skip
              refine lv_lload_n hx hb dX8_returned_67 rfl (lv_at hl 0 rfl) ?_
              refine lv_aload_n hx hb dX8_returned_68 rfl (lv_at hl 1 rfl) ?_
              refine va_get (D := D) (ci := 8) (v := .ref g15) (C := RX8) (T := TX8) (N := 46) hx hb hts hiX8 hown hE.1 hP 0 rfl rfl 15 (by decide) (hts _ (List.mem_cons_of_mem _ wd_127)) (fun _ h9 => h9) rfl dX8_returned_69 ?_
              refine lv_iload_n hx hb dX8_returned_72 rfl (lv_at hl 3 rfl) ?_
              refine va_iald hx hb hE.1 hP 4 0 rfl rfl (vp_in_nI (n := ij) (by omega) (by decide)) dX8_returned_73 ?_
              refine lv_topi (fun v34 ev34 => ?_)
              refine lv_i2l hx hb dX8_returned_74 rfl ?_
              refine lv_lsub hx hb dX8_returned_75 ?_
              refine lv_topl (fun v35 ev35 => ?_)
              refine lv_goto (tgt := 80) hx hb dX8_returned_76 (by decide) ?_
              refine lv_lstore (lv' := [(5, .long v35), (3, .long (lN (sm (LF li0 li0 G6 ij) mn))), (0, .ref g), (1, .int (nI pj)), (2, .int (nI ij))]) hx hb dX8_returned_80 hl (by decide) rfl (fun ls hl => ?_)
              refine lv_iload_n hx hb dX8_returned_82 rfl (lv_at hl 3 rfl) ?_
              refine lv_iconst (v := (-1)) hx hb dX8_returned_83 (by decide) ?_
              refine lv_icmp_ne (tgt := 93) hx hb dX8_returned_84 (by decide) (fun c36a => ?_) (fun c36 => absurd c36 (ni_m1 (by omega)))
              refine lv_aload_n hx hb dX8_returned_93 rfl (lv_at hl 2 rfl) ?_
              refine va_get (D := D) (ci := 8) (v := .ref g9) (C := RX8) (T := TX8) (N := 46) hx hb hts hiX8 hown hE.1 hP 0 rfl rfl 9 (by decide) (hts _ (List.mem_cons_of_mem _ wd_123)) (fun _ h9 => h9) rfl dX8_returned_94 ?_
              refine lv_iload_n hx hb dX8_returned_97 rfl (lv_at hl 3 rfl) ?_
              refine va_iald hx hb hE.1 hP 3 0 rfl rfl (vp_in_nI (n := pj) (by omega) (by decide)) dX8_returned_98 ?_
              refine lv_topi (fun v37 ev37 => ?_)
              refine lv_i2l hx hb dX8_returned_99 rfl ?_
              refine lv_lload hx hb dX8_returned_100 (lv_at hl 0 rfl) ?_
              refine lv_lmul hx hb dX8_returned_102 ?_
              refine lv_topl (fun v38 ev38 => ?_)
              refine lv_lload_n hx hb dX8_returned_103 rfl (lv_at hl 1 rfl) ?_
              have hbo := (fq_bt (Y := G6) (p := pj) (q := ij) (by omega) (by omega) ev21).mp hc24
              have hge := sm_get (LF li0 li0 G6 ij) (k := pj) (n := mn) (by omega)
              rw [lf_on hbo] at hge
              have hl19 := hl1 pj (by omega)
              have hsb := sm_bound (f := LF li0 li0 G6 ij) (c := 1000000) (n := mn) (fun k hk => lf_le (hlib k (by omega)))
              refine lv_ldiv hx hb dX8_returned_104 (lN_ne (by omega) (by omega)) ?_
              refine lv_topl (fun v39 ev39 => ?_)
              refine lv_l2i hx hb dX8_returned_105 rfl ?_
              refine lv_topi (fun v40 ev40 => ?_)
              refine k_iret (u := [(oX8 g 0 (nI mn) g2 g3 g4 g5 g6 g7 g8 g9 g10 (nI ml) g12 g13 gi14 g15 g16 g17 gi18 g19 g20 g21 g22 g23 g24 g25 g26 g27 g28 gi29 gi30 (nI mv) gi32 g33 g34 g35 g36 g37 g38 g39 gi40 g41 g42 gi43 g44 g45), (aIc cI g2 8 G2), (aIc cI g6 8 G6), (aIc cI g9 8 G9), (aIc cI g15 8 G15)]) hx hb hr hlk hP hD hS dX8_returned_106 ?_
              exact ⟨0, rfl⟩
          · skip
            have hc24 : ¬ ((v21 >>> ((nI ij) &&& 31)) &&& 1 = 1) := bz_0 hw23 c24
            refine lv_iconst (v := (-1)) hx hb dX8_returned_47 (by decide) ?_
            refine k_iret (u := [(oX8 g 0 (nI mn) g2 g3 g4 g5 g6 g7 g8 g9 g10 (nI ml) g12 g13 gi14 g15 g16 g17 gi18 g19 g20 g21 g22 g23 g24 g25 g26 g27 g28 gi29 gi30 (nI mv) gi32 g33 g34 g35 g36 g37 g38 g39 gi40 g41 g42 gi43 g44 g45), (aIc cI g2 8 G2), (aIc cI g6 8 G6), (aIc cI g9 8 G9), (aIc cI g15 8 G15)]) hx hb hr hlk hP hD hS dX8_returned_48 ?_
            exact ⟨0, rfl⟩

