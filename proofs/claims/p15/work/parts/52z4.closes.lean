set_option maxHeartbeats 4000000 in
set_option maxRecDepth 100000 in
theorem e_X8_yieldsOf (l : Launch) (D : va_G) (cI cJ : ClassId) (sz : Nat) (g g2 g3 g4 g5 g6 g7 g8 g9 g10 g12 g13 g15 g16 g17 g19 g20 g21 g22 g23 g24 g25 g26 g27 g28 g33 g34 g35 g36 g37 g38 g39 g41 g42 g44 g45 p0 mn ml mv : Nat) (gi0 gi14 gi18 gi29 gi30 gi32 gi40 gi43 : Int32) (G7 G8 : Nat → Int32) (hp : p0 < 8) : Met l yX8_yieldsOf wtX8_yieldsOf { frames := 1, cells := 0, slots := 0, locals := 21 } (cPc D cI cJ [.ref g, .int (nI p0)] sz [(oX8 g gi0 (nI mn) g2 g3 g4 g5 g6 g7 g8 g9 g10 (nI ml) g12 g13 gi14 g15 g16 g17 gi18 g19 g20 g21 g22 g23 g24 g25 g26 g27 g28 gi29 gi30 (nI mv) gi32 g33 g34 g35 g36 g37 g38 g39 gi40 g41 g42 gi43 g44 g45), (aIc cI g7 8 G7), (aIc cI g8 8 G8)]) (cQi D (fun r u => r = (YI G7 G8 gi29 p0) ∧ u = [(oX8 g gi0 (nI mn) g2 g3 g4 g5 g6 g7 g8 g9 g10 (nI ml) g12 g13 gi14 g15 g16 g17 gi18 g19 g20 g21 g22 g23 g24 g25 g26 g27 g28 gi29 gi30 (nI mv) gi32 g33 g34 g35 g36 g37 g38 g39 gi40 g41 g42 gi43 g44 g45), (aIc cI g7 8 G7), (aIc cI g8 8 G8)]) (va_A [(oX8 g gi0 (nI mn) g2 g3 g4 g5 g6 g7 g8 g9 g10 (nI ml) g12 g13 gi14 g15 g16 g17 gi18 g19 g20 g21 g22 g23 g24 g25 g26 g27 g28 gi29 gi30 (nI mv) gi32 g33 g34 g35 g36 g37 g38 g39 gi40 g41 g42 gi43 g44 g45), (aIc cI g7 8 G7), (aIc cI g8 8 G8)] sz)) 0 0 (va_A [(oX8 g gi0 (nI mn) g2 g3 g4 g5 g6 g7 g8 g9 g10 (nI ml) g12 g13 gi14 g15 g16 g17 gi18 g19 g20 g21 g22 g23 g24 g25 g26 g27 g28 gi29 gi30 (nI mv) gi32 g33 g34 g35 g36 g37 g38 g39 gi40 g41 g42 gi43 g44 g45), (aIc cI g7 8 G7), (aIc cI g8 8 G8)] sz) := by
  refine k_ofW (Qc := cQi D (fun r u => r = (YI G7 G8 gi29 p0) ∧ u = [(oX8 g gi0 (nI mn) g2 g3 g4 g5 g6 g7 g8 g9 g10 (nI ml) g12 g13 gi14 g15 g16 g17 gi18 g19 g20 g21 g22 g23 g24 g25 g26 g27 g28 gi29 gi30 (nI mv) gi32 g33 g34 g35 g36 g37 g38 g39 gi40 g41 g42 gi43 g44 g45), (aIc cI g7 8 G7), (aIc cI g8 8 G8)])) (by decide) rfl (Nat.le_of_ble_eq_true rfl) ?_
  intro p e s m below meth c A ls hx hb hr hml hts hown hlk hnm hsz hE hP hD hS hA hl
  have hown : s.vm.findClass RX8 = some m.cls := hown
  have hiX8 : ∀ w ∈ u_ws RX8 TX8 46, w ∈ wtX8_yieldsOf := fun w h => List.mem_cons_of_mem _ (iuX8 w h)
  have hl : lv_has ls 2 [(0, .ref g), (1, .int (nI p0))] := hl
  refine lv_aload_n hx hb dX8_yieldsOf_0 rfl (lv_at hl 0 rfl) ?_
  refine va_get (D := D) (ci := 8) (v := .int gi29) (C := RX8) (T := TX8) (N := 46) hx hb hts hiX8 hown hE.1 hP 0 rfl rfl 29 (by decide) (hts _ (List.mem_cons_of_mem _ wd_421)) (fun _ h9 => h9) rfl dX8_yieldsOf_1 ?_
  refine lv_iload_n hx hb dX8_yieldsOf_4 rfl (lv_at hl 1 rfl) ?_
  refine k_iS (va_runS (As := [.int gi29, .int (nI p0)]) (rest := []) ⟨hx, hb, hml, hown, hts⟩ (m_X8_isOn l D cI cJ (s.heap).size gi29 (nI p0)) (va_cwS 2 hts gX8_yieldsOf_X8_isOn rfl rfl rfl (by decide +kernel) ⟨Nat.le_of_ble_eq_true rfl, Nat.le_of_ble_eq_true rfl⟩) (k_pre hE hP hD [] (by decide +kernel) rfl) rfl rfl hl.1 rfl (lv_room (Nat.le_of_ble_eq_true rfl)) dX8_yieldsOf_5 ⟨Nat.le_of_ble_eq_true rfl, Nat.le_of_ble_eq_true rfl⟩) hP hD hS hA [] rfl (fun _ _ h9 => h9.2) (fun r1 H locs hw2 hP hD hS => ?_)
  obtain ⟨hw2, -⟩ := hw2
  refine lv_if_eq (tgt := 41) hx hb dX8_yieldsOf_8 (by decide) (fun c3 => ?_) (fun c3 => ?_)
  · skip
    have hc3 : ¬ ((gi29 >>> ((nI p0) &&& 31)) &&& 1 = 1) := bz_0 hw2 c3
    refine lv_iconst (v := 0) hx hb dX8_yieldsOf_41 (by decide) ?_
    refine k_iret (u := [(oX8 g gi0 (nI mn) g2 g3 g4 g5 g6 g7 g8 g9 g10 (nI ml) g12 g13 gi14 g15 g16 g17 gi18 g19 g20 g21 g22 g23 g24 g25 g26 g27 g28 gi29 gi30 (nI mv) gi32 g33 g34 g35 g36 g37 g38 g39 gi40 g41 g42 gi43 g44 g45), (aIc cI g7 8 G7), (aIc cI g8 8 G8)]) hx hb hr hlk hP hD hS dX8_yieldsOf_42 ?_
    exact ⟨(yi_n (fun q9 => hc3 ((bt_on (by omega)).mpr q9))), rfl⟩
  · skip
    have hc3 : (gi29 >>> ((nI p0) &&& 31)) &&& 1 = 1 := bz_1 hw2 c3
    refine lv_aload_n hx hb dX8_yieldsOf_11 rfl (lv_at hl 0 rfl) ?_
    refine va_get (D := D) (ci := 8) (v := .ref g7) (C := RX8) (T := TX8) (N := 46) hx hb hts hiX8 hown hE.1 hP 0 rfl rfl 7 (by decide) (hts _ (List.mem_cons_of_mem _ wd_121)) (fun _ h9 => h9) rfl dX8_yieldsOf_12 ?_
    refine lv_iload_n hx hb dX8_yieldsOf_15 rfl (lv_at hl 1 rfl) ?_
    refine va_iald hx hb hE.1 hP 1 0 rfl rfl (vp_in_nI (n := p0) (by omega) (by decide)) dX8_yieldsOf_16 ?_
    refine lv_topi (fun v4 ev4 => ?_)
    refine lv_iconst (v := 2) hx hb dX8_yieldsOf_17 (by decide) ?_
    refine lv_icmp_lt (tgt := 41) hx hb dX8_yieldsOf_18 (by decide) (fun c5 => ?_) (fun c5 => ?_)
    · skip
      refine lv_iconst (v := 0) hx hb dX8_yieldsOf_41 (by decide) ?_
      refine k_iret (u := [(oX8 g gi0 (nI mn) g2 g3 g4 g5 g6 g7 g8 g9 g10 (nI ml) g12 g13 gi14 g15 g16 g17 gi18 g19 g20 g21 g22 g23 g24 g25 g26 g27 g28 gi29 gi30 (nI mv) gi32 g33 g34 g35 g36 g37 g38 g39 gi40 g41 g42 gi43 g44 g45), (aIc cI g7 8 G7), (aIc cI g8 8 G8)]) hx hb hr hlk hP hD hS dX8_yieldsOf_42 ?_
      exact ⟨(yi_k (by omega) (cl_at (A := G7) (by omega) ev4) c5), rfl⟩
    · skip
      refine lv_aload_n hx hb dX8_yieldsOf_21 rfl (lv_at hl 0 rfl) ?_
      refine va_get (D := D) (ci := 8) (v := .ref g8) (C := RX8) (T := TX8) (N := 46) hx hb hts hiX8 hown hE.1 hP 0 rfl rfl 8 (by decide) (hts _ (List.mem_cons_of_mem _ wd_122)) (fun _ h9 => h9) rfl dX8_yieldsOf_22 ?_
      refine lv_iload_n hx hb dX8_yieldsOf_25 rfl (lv_at hl 1 rfl) ?_
      refine va_iald hx hb hE.1 hP 2 0 rfl rfl (vp_in_nI (n := p0) (by omega) (by decide)) dX8_yieldsOf_26 ?_
      refine lv_topi (fun v6 ev6 => ?_)
      refine lv_aload_n hx hb dX8_yieldsOf_27 rfl (lv_at hl 0 rfl) ?_
      refine va_get (D := D) (ci := 8) (v := .int gi29) (C := RX8) (T := TX8) (N := 46) hx hb hts hiX8 hown hE.1 hP 0 rfl rfl 29 (by decide) (hts _ (List.mem_cons_of_mem _ wd_421)) (fun _ h9 => h9) rfl dX8_yieldsOf_28 ?_
      refine lv_iand hx hb dX8_yieldsOf_31 ?_
      refine lv_topi (fun v7 ev7 => ?_)
      refine lv_iconst (v := 1) hx hb dX8_yieldsOf_32 (by decide) ?_
      refine lv_iload_n hx hb dX8_yieldsOf_33 rfl (lv_at hl 1 rfl) ?_
      refine lv_ishl hx hb dX8_yieldsOf_34 ?_
      refine lv_topi (fun v8 ev8 => ?_)
      refine lv_iconst (v := (-1)) hx hb dX8_yieldsOf_35 (by decide) ?_
      refine lv_ixor hx hb dX8_yieldsOf_36 ?_
      refine lv_topi (fun v9 ev9 => ?_)
      refine lv_iand hx hb dX8_yieldsOf_37 ?_
      refine lv_topi (fun v10 ev10 => ?_)
      refine lv_goto (tgt := 42) hx hb dX8_yieldsOf_38 (by decide) ?_
      refine k_iret (u := [(oX8 g gi0 (nI mn) g2 g3 g4 g5 g6 g7 g8 g9 g10 (nI ml) g12 g13 gi14 g15 g16 g17 gi18 g19 g20 g21 g22 g23 g24 g25 g26 g27 g28 gi29 gi30 (nI mv) gi32 g33 g34 g35 g36 g37 g38 g39 gi40 g41 g42 gi43 g44 g45), (aIc cI g7 8 G7), (aIc cI g8 8 G8)]) hx hb hr hlk hP hD hS dX8_yieldsOf_42 ?_
      exact ⟨(yi_y (by omega) ((bt_on (by omega)).mp hc3) (cl_at (A := G7) (by omega) ev4) c5 ev6 ev7 ev8 ev9 ev10), rfl⟩
set_option maxHeartbeats 4000000 in
set_option maxRecDepth 100000 in
theorem e_X8_closes (l : Launch) (D : va_G) (cI cJ : ClassId) (sz : Nat) (g g2 g3 g4 g5 g6 g7 g8 g9 g10 g12 g13 g15 g16 g17 g19 g20 g21 g22 g23 g24 g25 g26 g27 g28 g33 g34 g35 g36 g37 g38 g39 g41 g42 g44 g45 mn ml mv : Nat) (gi0 gi14 gi18 gi29 gi30 gi32 gi40 gi43 : Int32) (G21 G22 G23 Y0 : Nat → Int32) (hY : ∀ k, k < 8 → G21 k = Y0 k) : Met l yX8_closes wtX8_closes { frames := 1, cells := 0, slots := 0, locals := 21 } (cPc D cI cJ [.ref g] sz [(oX8 g gi0 (nI mn) g2 g3 g4 g5 g6 g7 g8 g9 g10 (nI ml) g12 g13 gi14 g15 g16 g17 gi18 g19 g20 g21 g22 g23 g24 g25 g26 g27 g28 gi29 gi30 (nI mv) gi32 g33 g34 g35 g36 g37 g38 g39 gi40 g41 g42 gi43 g44 g45), (aIc cI g21 8 G21), (aIc cI g22 8 G22), (aIc cI g23 8 G23)]) (cQv D (fun u => ∃ (G22p G23p : Nat → Int32), (∀ k, k < 8 → G22p k = clo Y0 8 k) ∧ (∀ k, k < 8 → G23p k = RIN (clo Y0 8) k) ∧ u = [(oX8 g gi0 (nI mn) g2 g3 g4 g5 g6 g7 g8 g9 g10 (nI ml) g12 g13 gi14 g15 g16 g17 gi18 g19 g20 g21 g22 g23 g24 g25 g26 g27 g28 gi29 gi30 (nI mv) gi32 g33 g34 g35 g36 g37 g38 g39 gi40 g41 g42 gi43 g44 g45), (aIc cI g21 8 G21), (aIc cI g22 8 G22p), (aIc cI g23 8 G23p)]) (va_A [(oX8 g gi0 (nI mn) g2 g3 g4 g5 g6 g7 g8 g9 g10 (nI ml) g12 g13 gi14 g15 g16 g17 gi18 g19 g20 g21 g22 g23 g24 g25 g26 g27 g28 gi29 gi30 (nI mv) gi32 g33 g34 g35 g36 g37 g38 g39 gi40 g41 g42 gi43 g44 g45), (aIc cI g21 8 G21), (aIc cI g22 8 G22), (aIc cI g23 8 G23)] sz)) 0 0 (va_A [(oX8 g gi0 (nI mn) g2 g3 g4 g5 g6 g7 g8 g9 g10 (nI ml) g12 g13 gi14 g15 g16 g17 gi18 g19 g20 g21 g22 g23 g24 g25 g26 g27 g28 gi29 gi30 (nI mv) gi32 g33 g34 g35 g36 g37 g38 g39 gi40 g41 g42 gi43 g44 g45), (aIc cI g21 8 G21), (aIc cI g22 8 G22), (aIc cI g23 8 G23)] sz) := by
  refine k_ofW (Qc := cQv D (fun u => ∃ (G22p G23p : Nat → Int32), (∀ k, k < 8 → G22p k = clo Y0 8 k) ∧ (∀ k, k < 8 → G23p k = RIN (clo Y0 8) k) ∧ u = [(oX8 g gi0 (nI mn) g2 g3 g4 g5 g6 g7 g8 g9 g10 (nI ml) g12 g13 gi14 g15 g16 g17 gi18 g19 g20 g21 g22 g23 g24 g25 g26 g27 g28 gi29 gi30 (nI mv) gi32 g33 g34 g35 g36 g37 g38 g39 gi40 g41 g42 gi43 g44 g45), (aIc cI g21 8 G21), (aIc cI g22 8 G22p), (aIc cI g23 8 G23p)])) (by decide) rfl (Nat.le_of_ble_eq_true rfl) ?_
  intro p e s m below meth c A ls hx hb hr hml hts hown hlk hnm hsz hE hP hD hS hA hl
  have hown : s.vm.findClass RX8 = some m.cls := hown
  have hiX8 : ∀ w ∈ u_ws RX8 TX8 46, w ∈ wtX8_closes := fun w h => List.mem_cons_of_mem _ (iuX8 w h)
  have hl : lv_has ls 3 [(0, .ref g)] := hl
  refine lv_iconst (v := 0) hx hb dX8_closes_0 (by decide) ?_
  refine lv_istore_n (lv' := [(1, .int 0), (0, .ref g)]) hx hb dX8_closes_1 rfl hl (by decide) rfl (fun ls hl => ?_)
  have J2 : ∀ (zz : Nat) (i2 : Nat) (a_g22_2 : Nat → Int32), (i2 ≤ 8) → (∀ k, k < i2 → a_g22_2 k = Y0 k) → (8 - i2) < zz → ∀ (H : Heap) (locs : List Loc) (ls : Array Slot), va_P D vwCl [(oX8 g gi0 (nI mn) g2 g3 g4 g5 g6 g7 g8 g9 g10 (nI ml) g12 g13 gi14 g15 g16 g17 gi18 g19 g20 g21 g22 g23 g24 g25 g26 g27 g28 gi29 gi30 (nI mv) gi32 g33 g34 g35 g36 g37 g38 g39 gi40 g41 g42 gi43 g44 g45), (aIc cI g21 8 G21), (aIc cI g22 8 a_g22_2), (aIc cI g23 8 G23)] H → va_D A [(oX8 g gi0 (nI mn) g2 g3 g4 g5 g6 g7 g8 g9 g10 (nI ml) g12 g13 gi14 g15 g16 g17 gi18 g19 g20 g21 g22 g23 g24 g25 g26 g27 g28 gi29 gi30 (nI mv) gi32 g33 g34 g35 g36 g37 g38 g39 gi40 g41 g42 gi43 g44 g45), (aIc cI g21 8 G21), (aIc cI g22 8 a_g22_2), (aIc cI g23 8 G23)] → va_S A s.heap H locs → lv_has ls 3 [(1, .int (nI i2)), (0, .ref g)] → W p l e { frames := 1, cells := 0, slots := 0, locals := 21 } s m [.ref g].toArray below meth c H locs 0 0 (MQ below (cQv D (fun u => ∃ (G22p G23p : Nat → Int32), (∀ k, k < 8 → G22p k = clo Y0 8 k) ∧ (∀ k, k < 8 → G23p k = RIN (clo Y0 8) k) ∧ u = [(oX8 g gi0 (nI mn) g2 g3 g4 g5 g6 g7 g8 g9 g10 (nI ml) g12 g13 gi14 g15 g16 g17 gi18 g19 g20 g21 g22 g23 g24 g25 g26 g27 g28 gi29 gi30 (nI mv) gi32 g33 g34 g35 g36 g37 g38 g39 gi40 g41 g42 gi43 g44 g45), (aIc cI g21 8 G21), (aIc cI g22 8 G22p), (aIc cI g23 8 G23p)]) A) [.ref g].toArray s 0 0 A) (F0 m 2 ls []) := by
    intro zz
    induction zz with
    | zero => intro i2 a_g22_2 _ _; exact fun h => absurd h (Nat.not_lt_zero _)
    | succ zz ih2 =>
      intro i2 a_g22_2 hc1_2 h0c_2 hmu2 H locs ls hP hD hS hl
      refine lv_iload_n hx hb dX8_closes_2 rfl (lv_at hl 0 rfl) ?_
      refine lv_bipush (v := 8) hx hb dX8_closes_3 (by decide) ?_
      refine lv_icmp_ge (tgt := 26) hx hb dX8_closes_5 (by decide) (fun c1 => ?_) (fun c1 => ?_)
      · skip
        have nc1 : 8 ≤ i2 := (nI_leI (a := 8) (b := i2) (by omega) (by omega)).mp c1
        refine lv_iconst (v := 0) hx hb dX8_closes_26 (by decide) ?_
        refine lv_istore_n (lv' := [(1, .int 0), (0, .ref g)]) hx hb dX8_closes_27 rfl hl (by decide) rfl (fun ls hl => ?_)
        have J28 : ∀ (zz : Nat) (i28 : Nat) (a_g22_28 : Nat → Int32), (i28 ≤ 8) → (∀ k, k < 8 → a_g22_28 k = clo Y0 i28 k) → (8 - i28) < zz → ∀ (H : Heap) (locs : List Loc) (ls : Array Slot), va_P D vwCl [(oX8 g gi0 (nI mn) g2 g3 g4 g5 g6 g7 g8 g9 g10 (nI ml) g12 g13 gi14 g15 g16 g17 gi18 g19 g20 g21 g22 g23 g24 g25 g26 g27 g28 gi29 gi30 (nI mv) gi32 g33 g34 g35 g36 g37 g38 g39 gi40 g41 g42 gi43 g44 g45), (aIc cI g21 8 G21), (aIc cI g22 8 a_g22_28), (aIc cI g23 8 G23)] H → va_D A [(oX8 g gi0 (nI mn) g2 g3 g4 g5 g6 g7 g8 g9 g10 (nI ml) g12 g13 gi14 g15 g16 g17 gi18 g19 g20 g21 g22 g23 g24 g25 g26 g27 g28 gi29 gi30 (nI mv) gi32 g33 g34 g35 g36 g37 g38 g39 gi40 g41 g42 gi43 g44 g45), (aIc cI g21 8 G21), (aIc cI g22 8 a_g22_28), (aIc cI g23 8 G23)] → va_S A s.heap H locs → lv_has ls 3 [(1, .int (nI i28)), (0, .ref g)] → W p l e { frames := 1, cells := 0, slots := 0, locals := 21 } s m [.ref g].toArray below meth c H locs 0 0 (MQ below (cQv D (fun u => ∃ (G22p G23p : Nat → Int32), (∀ k, k < 8 → G22p k = clo Y0 8 k) ∧ (∀ k, k < 8 → G23p k = RIN (clo Y0 8) k) ∧ u = [(oX8 g gi0 (nI mn) g2 g3 g4 g5 g6 g7 g8 g9 g10 (nI ml) g12 g13 gi14 g15 g16 g17 gi18 g19 g20 g21 g22 g23 g24 g25 g26 g27 g28 gi29 gi30 (nI mv) gi32 g33 g34 g35 g36 g37 g38 g39 gi40 g41 g42 gi43 g44 g45), (aIc cI g21 8 G21), (aIc cI g22 8 G22p), (aIc cI g23 8 G23p)]) A) [.ref g].toArray s 0 0 A) (F0 m 28 ls []) := by
          intro zz
          induction zz with
          | zero => intro i28 a_g22_28 _ _; exact fun h => absurd h (Nat.not_lt_zero _)
          | succ zz ih28 =>
            intro i28 a_g22_28 hc1_28 hc_28 hmu28 H locs ls hP hD hS hl
            refine lv_iload_n hx hb dX8_closes_28 rfl (lv_at hl 0 rfl) ?_
            refine lv_bipush (v := 8) hx hb dX8_closes_29 (by decide) ?_
            refine lv_icmp_ge (tgt := 86) hx hb dX8_closes_31 (by decide) (fun c2 => ?_) (fun c2 => ?_)
            · skip
              have nc2 : 8 ≤ i28 := (nI_leI (a := 8) (b := i28) (by omega) (by omega)).mp c2
              obtain rfl : i28 = 8 := (by omega)
              refine lv_iconst (v := 0) hx hb dX8_closes_86 (by decide) ?_
              refine lv_istore_n (lv' := [(1, .int 0), (0, .ref g)]) hx hb dX8_closes_87 rfl hl (by decide) rfl (fun ls hl => ?_)
              have J88 : ∀ (zz : Nat) (i88 : Nat) (a_g23_88 : Nat → Int32), (i88 ≤ 8) → (∀ k, k < i88 → a_g23_88 k = RIN (clo Y0 8) k) → (8 - i88) < zz → ∀ (H : Heap) (locs : List Loc) (ls : Array Slot), va_P D vwCl [(oX8 g gi0 (nI mn) g2 g3 g4 g5 g6 g7 g8 g9 g10 (nI ml) g12 g13 gi14 g15 g16 g17 gi18 g19 g20 g21 g22 g23 g24 g25 g26 g27 g28 gi29 gi30 (nI mv) gi32 g33 g34 g35 g36 g37 g38 g39 gi40 g41 g42 gi43 g44 g45), (aIc cI g21 8 G21), (aIc cI g22 8 a_g22_28), (aIc cI g23 8 a_g23_88)] H → va_D A [(oX8 g gi0 (nI mn) g2 g3 g4 g5 g6 g7 g8 g9 g10 (nI ml) g12 g13 gi14 g15 g16 g17 gi18 g19 g20 g21 g22 g23 g24 g25 g26 g27 g28 gi29 gi30 (nI mv) gi32 g33 g34 g35 g36 g37 g38 g39 gi40 g41 g42 gi43 g44 g45), (aIc cI g21 8 G21), (aIc cI g22 8 a_g22_28), (aIc cI g23 8 a_g23_88)] → va_S A s.heap H locs → lv_has ls 3 [(1, .int (nI i88)), (0, .ref g)] → W p l e { frames := 1, cells := 0, slots := 0, locals := 21 } s m [.ref g].toArray below meth c H locs 0 0 (MQ below (cQv D (fun u => ∃ (G22p G23p : Nat → Int32), (∀ k, k < 8 → G22p k = clo Y0 8 k) ∧ (∀ k, k < 8 → G23p k = RIN (clo Y0 8) k) ∧ u = [(oX8 g gi0 (nI mn) g2 g3 g4 g5 g6 g7 g8 g9 g10 (nI ml) g12 g13 gi14 g15 g16 g17 gi18 g19 g20 g21 g22 g23 g24 g25 g26 g27 g28 gi29 gi30 (nI mv) gi32 g33 g34 g35 g36 g37 g38 g39 gi40 g41 g42 gi43 g44 g45), (aIc cI g21 8 G21), (aIc cI g22 8 G22p), (aIc cI g23 8 G23p)]) A) [.ref g].toArray s 0 0 A) (F0 m 88 ls []) := by
                intro zz
                induction zz with
                | zero => intro i88 a_g23_88 _ _; exact fun h => absurd h (Nat.not_lt_zero _)
                | succ zz ih88 =>
                  intro i88 a_g23_88 hc1_88 hr_88 hmu88 H locs ls hP hD hS hl
                  refine lv_iload_n hx hb dX8_closes_88 rfl (lv_at hl 0 rfl) ?_
                  refine lv_bipush (v := 8) hx hb dX8_closes_89 (by decide) ?_
                  refine lv_icmp_ge (tgt := 163) hx hb dX8_closes_91 (by decide) (fun c3 => ?_) (fun c3 => ?_)
                  · skip
                    have nc3 : 8 ≤ i88 := (nI_leI (a := 8) (b := i88) (by omega) (by omega)).mp c3
                    refine k_vret (u := [(oX8 g gi0 (nI mn) g2 g3 g4 g5 g6 g7 g8 g9 g10 (nI ml) g12 g13 gi14 g15 g16 g17 gi18 g19 g20 g21 g22 g23 g24 g25 g26 g27 g28 gi29 gi30 (nI mv) gi32 g33 g34 g35 g36 g37 g38 g39 gi40 g41 g42 gi43 g44 g45), (aIc cI g21 8 G21), (aIc cI g22 8 a_g22_28), (aIc cI g23 8 a_g23_88)]) hx hb hr hlk hP hD hS dX8_closes_163 ?_
                    exact ⟨a_g22_28, a_g23_88, hc_28, (fun k hk => hr_88 k (by omega)), rfl⟩
                  · skip
                    have nc3 : ¬ 8 ≤ i88 := fun q9 => c3 ((nI_leI (a := 8) (b := i88) (by omega) (by omega)).mpr q9)
                    refine lv_aload_n hx hb dX8_closes_94 rfl (lv_at hl 1 rfl) ?_
                    refine va_get (D := D) (ci := 8) (v := .ref g23) (C := RX8) (T := TX8) (N := 46) hx hb hts hiX8 hown hE.1 hP 0 rfl rfl 23 (by decide) (hts _ (List.mem_cons_of_mem _ wd_134)) (fun _ h9 => h9) rfl dX8_closes_95 ?_
                    refine lv_iload_n hx hb dX8_closes_98 rfl (lv_at hl 0 rfl) ?_
                    refine lv_iconst (v := 0) hx hb dX8_closes_99 (by decide) ?_
                    refine va_iast hx hb hE.1 hP hD hS 3 0 rfl rfl (vp_in_nI (n := i88) (by omega) (by decide)) dX8_closes_100 (fun H locs hP hD hS => ?_)
                    refine k_re (w := [(oX8 g gi0 (nI mn) g2 g3 g4 g5 g6 g7 g8 g9 g10 (nI ml) g12 g13 gi14 g15 g16 g17 gi18 g19 g20 g21 g22 g23 g24 g25 g26 g27 g28 gi29 gi30 (nI mv) gi32 g33 g34 g35 g36 g37 g38 g39 gi40 g41 g42 gi43 g44 g45), (aIc cI g21 8 G21), (aIc cI g22 8 a_g22_28), (aIc cI g23 8 (upd a_g23_88 (Int32.toNatClampNeg (nI i88)) 0))]) hP hD (fun hP hD => ?_)
                    refine lv_iconst (v := 0) hx hb dX8_closes_101 (by decide) ?_
                    refine lv_istore_n (lv' := [(2, .int 0), (1, .int (nI i88)), (0, .ref g)]) hx hb dX8_closes_102 rfl hl (by decide) rfl (fun ls hl => ?_)
                    have J103 : ∀ (zz : Nat) (j103 : Nat) (a_g23_103 : Nat → Int32), (j103 ≤ 8) → (RG a_g23_103 (clo Y0 8) i88 j103) → (8 - j103) < zz → ∀ (H : Heap) (locs : List Loc) (ls : Array Slot), va_P D vwCl [(oX8 g gi0 (nI mn) g2 g3 g4 g5 g6 g7 g8 g9 g10 (nI ml) g12 g13 gi14 g15 g16 g17 gi18 g19 g20 g21 g22 g23 g24 g25 g26 g27 g28 gi29 gi30 (nI mv) gi32 g33 g34 g35 g36 g37 g38 g39 gi40 g41 g42 gi43 g44 g45), (aIc cI g21 8 G21), (aIc cI g22 8 a_g22_28), (aIc cI g23 8 a_g23_103)] H → va_D A [(oX8 g gi0 (nI mn) g2 g3 g4 g5 g6 g7 g8 g9 g10 (nI ml) g12 g13 gi14 g15 g16 g17 gi18 g19 g20 g21 g22 g23 g24 g25 g26 g27 g28 gi29 gi30 (nI mv) gi32 g33 g34 g35 g36 g37 g38 g39 gi40 g41 g42 gi43 g44 g45), (aIc cI g21 8 G21), (aIc cI g22 8 a_g22_28), (aIc cI g23 8 a_g23_103)] → va_S A s.heap H locs → lv_has ls 3 [(2, .int (nI j103)), (1, .int (nI i88)), (0, .ref g)] → W p l e { frames := 1, cells := 0, slots := 0, locals := 21 } s m [.ref g].toArray below meth c H locs 0 0 (MQ below (cQv D (fun u => ∃ (G22p G23p : Nat → Int32), (∀ k, k < 8 → G22p k = clo Y0 8 k) ∧ (∀ k, k < 8 → G23p k = RIN (clo Y0 8) k) ∧ u = [(oX8 g gi0 (nI mn) g2 g3 g4 g5 g6 g7 g8 g9 g10 (nI ml) g12 g13 gi14 g15 g16 g17 gi18 g19 g20 g21 g22 g23 g24 g25 g26 g27 g28 gi29 gi30 (nI mv) gi32 g33 g34 g35 g36 g37 g38 g39 gi40 g41 g42 gi43 g44 g45), (aIc cI g21 8 G21), (aIc cI g22 8 G22p), (aIc cI g23 8 G23p)]) A) [.ref g].toArray s 0 0 A) (F0 m 103 ls []) := by
                      intro zz
                      induction zz with
                      | zero => intro j103 a_g23_103 _ _; exact fun h => absurd h (Nat.not_lt_zero _)
                      | succ zz ih103 =>
                        intro j103 a_g23_103 hc2_103 hq_103 hmu103 H locs ls hP hD hS hl
                        refine lv_iload_n hx hb dX8_closes_103 rfl (lv_at hl 0 rfl) ?_
                        refine lv_bipush (v := 8) hx hb dX8_closes_104 (by decide) ?_
                        refine lv_icmp_ge (tgt := 157) hx hb dX8_closes_106 (by decide) (fun c4 => ?_) (fun c4 => ?_)
                        · skip
                          have nc4 : 8 ≤ j103 := (nI_leI (a := 8) (b := j103) (by omega) (by omega)).mp c4
                          refine lv_iinc (v := (nI (i88 + 1))) (lv' := [(1, .int (nI (i88 + 1))), (2, .int (nI j103)), (0, .ref g)]) hx hb dX8_closes_157 hl (k := 1) rfl (nI_1 _) (by decide) rfl (fun ls hl => ?_)
                          refine lv_goto (tgt := 88) hx hb dX8_closes_160 (by decide) ?_
                          exact ih88 (i88 + 1) a_g23_103 (by omega) (by obtain rfl : j103 = 8 := (by omega); exact rg_end hq_103) (by omega) _ _ _ hP hD hS (lv_sub hl [0, 2] rfl)
                        · skip
                          have nc4 : ¬ 8 ≤ j103 := fun q9 => c4 ((nI_leI (a := 8) (b := j103) (by omega) (by omega)).mpr q9)
                          refine lv_aload_n hx hb dX8_closes_109 rfl (lv_at hl 2 rfl) ?_
                          refine va_get (D := D) (ci := 8) (v := .ref g23) (C := RX8) (T := TX8) (N := 46) hx hb hts hiX8 hown hE.1 hP 0 rfl rfl 23 (by decide) (hts _ (List.mem_cons_of_mem _ wd_134)) (fun _ h9 => h9) rfl dX8_closes_110 ?_
                          refine lv_iload_n hx hb dX8_closes_113 rfl (lv_at hl 1 rfl) ?_
                          refine lv_dup2_11 hx hb dX8_closes_114 rfl rfl ?_
                          refine va_iald hx hb hE.1 hP 3 0 rfl rfl (vp_in_nI (n := i88) (by omega) (by decide)) dX8_closes_115 ?_
                          refine lv_topi (fun v5 ev5 => ?_)
                          refine lv_aload_n hx hb dX8_closes_116 rfl (lv_at hl 2 rfl) ?_
                          refine va_get (D := D) (ci := 8) (v := .ref g22) (C := RX8) (T := TX8) (N := 46) hx hb hts hiX8 hown hE.1 hP 0 rfl rfl 22 (by decide) (hts _ (List.mem_cons_of_mem _ wd_133)) (fun _ h9 => h9) rfl dX8_closes_117 ?_
                          refine lv_iload_n hx hb dX8_closes_120 rfl (lv_at hl 1 rfl) ?_
                          refine va_iald hx hb hE.1 hP 2 0 rfl rfl (vp_in_nI (n := i88) (by omega) (by decide)) dX8_closes_121 ?_
                          refine lv_topi (fun v6 ev6 => ?_)
                          refine lv_iload_n hx hb dX8_closes_122 rfl (lv_at hl 0 rfl) ?_
                          refine k_iS (va_runS (As := [.int v6, .int (nI j103)]) (rest := [.int v5, .int (nI i88), .ref g23]) ⟨hx, hb, hml, hown, hts⟩ (m_X8_isOn l D cI cJ H.size v6 (nI j103)) (va_cwS 2 hts gX8_closes_X8_isOn rfl rfl rfl (by decide +kernel) ⟨Nat.le_of_ble_eq_true rfl, Nat.le_of_ble_eq_true rfl⟩) (k_pre hE hP hD [] (by decide +kernel) rfl) rfl rfl hl.1 rfl (lv_room (Nat.le_of_ble_eq_true rfl)) dX8_closes_123 ⟨Nat.le_of_ble_eq_true rfl, Nat.le_of_ble_eq_true rfl⟩) hP hD hS hA [] rfl (fun _ _ h9 => h9.2) (fun r7 H locs hw8 hP hD hS => ?_)
                          obtain ⟨hw8, -⟩ := hw8
                          refine lv_if_eq (tgt := 148) hx hb dX8_closes_126 (by decide) (fun c9 => ?_) (fun c9 => ?_)
                          · skip
                            have hc9 : ¬ ((v6 >>> ((nI j103) &&& 31)) &&& 1 = 1) := bz_0 hw8 c9
                            refine lv_iconst (v := 0) hx hb dX8_closes_148 (by decide) ?_
                            refine lv_ior hx hb dX8_closes_149 ?_
                            refine lv_topi (fun v10 ev10 => ?_)
                            refine va_iast hx hb hE.1 hP hD hS 3 0 rfl rfl (vp_in_nI (n := i88) (by omega) (by decide)) dX8_closes_150 (fun H locs hP hD hS => ?_)
                            refine k_re (w := [(oX8 g gi0 (nI mn) g2 g3 g4 g5 g6 g7 g8 g9 g10 (nI ml) g12 g13 gi14 g15 g16 g17 gi18 g19 g20 g21 g22 g23 g24 g25 g26 g27 g28 gi29 gi30 (nI mv) gi32 g33 g34 g35 g36 g37 g38 g39 gi40 g41 g42 gi43 g44 g45), (aIc cI g21 8 G21), (aIc cI g22 8 a_g22_28), (aIc cI g23 8 (upd a_g23_103 (Int32.toNatClampNeg (nI i88)) v10))]) hP hD (fun hP hD => ?_)
                            refine lv_iinc (v := (nI (j103 + 1))) (lv' := [(2, .int (nI (j103 + 1))), (1, .int (nI i88)), (0, .ref g)]) hx hb dX8_closes_151 hl (k := 0) rfl (nI_1 _) (by decide) rfl (fun ls hl => ?_)
                            refine lv_goto (tgt := 103) hx hb dX8_closes_154 (by decide) ?_
                            have hb1 : ¬ bt (clo Y0 8 i88) j103 = true := fun q9 => hc9 ((bt_on (by omega)).mpr (by rw [cl_at (A := a_g22_28) (by omega) ev6, hc_28 i88 (by omega)]; exact q9))
                            exact ih103 (j103 + 1) (upd a_g23_103 (Int32.toNatClampNeg (nI i88)) v10) (by omega) (rg_no0 (by omega) hq_103 (fun z9 => hb1 z9.1) ev5 ev10) (by omega) _ _ _ hP hD hS (lv_sub hl [0, 1, 2] rfl)
                          · skip
                            have hc9 : (v6 >>> ((nI j103) &&& 31)) &&& 1 = 1 := bz_1 hw8 c9
                            refine lv_aload_n hx hb dX8_closes_129 rfl (lv_at hl 2 rfl) ?_
                            refine va_get (D := D) (ci := 8) (v := .ref g22) (C := RX8) (T := TX8) (N := 46) hx hb hts hiX8 hown hE.1 hP 0 rfl rfl 22 (by decide) (hts _ (List.mem_cons_of_mem _ wd_133)) (fun _ h9 => h9) rfl dX8_closes_130 ?_
                            refine lv_iload_n hx hb dX8_closes_133 rfl (lv_at hl 0 rfl) ?_
                            refine va_iald hx hb hE.1 hP 2 0 rfl rfl (vp_in_nI (n := j103) (by omega) (by decide)) dX8_closes_134 ?_
                            refine lv_topi (fun v11 ev11 => ?_)
                            refine lv_iload_n hx hb dX8_closes_135 rfl (lv_at hl 1 rfl) ?_
                            refine k_iS (va_runS (As := [.int v11, .int (nI i88)]) (rest := [.int v5, .int (nI i88), .ref g23]) ⟨hx, hb, hml, hown, hts⟩ (m_X8_isOn l D cI cJ H.size v11 (nI i88)) (va_cwS 2 hts gX8_closes_X8_isOn rfl rfl rfl (by decide +kernel) ⟨Nat.le_of_ble_eq_true rfl, Nat.le_of_ble_eq_true rfl⟩) (k_pre hE hP hD [] (by decide +kernel) rfl) rfl rfl hl.1 rfl (lv_room (Nat.le_of_ble_eq_true rfl)) dX8_closes_136 ⟨Nat.le_of_ble_eq_true rfl, Nat.le_of_ble_eq_true rfl⟩) hP hD hS hA [] rfl (fun _ _ h9 => h9.2) (fun r12 H locs hw13 hP hD hS => ?_)
                            obtain ⟨hw13, -⟩ := hw13
                            refine lv_if_eq (tgt := 148) hx hb dX8_closes_139 (by decide) (fun c14 => ?_) (fun c14 => ?_)
                            · skip
                              have hc14 : ¬ ((v11 >>> ((nI i88) &&& 31)) &&& 1 = 1) := bz_0 hw13 c14
                              refine lv_iconst (v := 0) hx hb dX8_closes_148 (by decide) ?_
                              refine lv_ior hx hb dX8_closes_149 ?_
                              refine lv_topi (fun v15 ev15 => ?_)
                              refine va_iast hx hb hE.1 hP hD hS 3 0 rfl rfl (vp_in_nI (n := i88) (by omega) (by decide)) dX8_closes_150 (fun H locs hP hD hS => ?_)
                              refine k_re (w := [(oX8 g gi0 (nI mn) g2 g3 g4 g5 g6 g7 g8 g9 g10 (nI ml) g12 g13 gi14 g15 g16 g17 gi18 g19 g20 g21 g22 g23 g24 g25 g26 g27 g28 gi29 gi30 (nI mv) gi32 g33 g34 g35 g36 g37 g38 g39 gi40 g41 g42 gi43 g44 g45), (aIc cI g21 8 G21), (aIc cI g22 8 a_g22_28), (aIc cI g23 8 (upd a_g23_103 (Int32.toNatClampNeg (nI i88)) v15))]) hP hD (fun hP hD => ?_)
                              refine lv_iinc (v := (nI (j103 + 1))) (lv' := [(2, .int (nI (j103 + 1))), (1, .int (nI i88)), (0, .ref g)]) hx hb dX8_closes_151 hl (k := 0) rfl (nI_1 _) (by decide) rfl (fun ls hl => ?_)
                              refine lv_goto (tgt := 103) hx hb dX8_closes_154 (by decide) ?_
                              have hb1 : bt (clo Y0 8 i88) j103 = true := by rw [← hc_28 i88 (by omega), ← cl_at (A := a_g22_28) (by omega) ev6]; exact (bt_on (by omega)).mp hc9
                              have hb2 : ¬ bt (clo Y0 8 j103) i88 = true := fun q9 => hc14 ((bt_on (by omega)).mpr (by rw [cl_at (A := a_g22_28) (by omega) ev11, hc_28 j103 (by omega)]; exact q9))
                              exact ih103 (j103 + 1) (upd a_g23_103 (Int32.toNatClampNeg (nI i88)) v15) (by omega) (rg_no0 (by omega) hq_103 (fun z9 => hb2 z9.2) ev5 ev15) (by omega) _ _ _ hP hD hS (lv_sub hl [0, 1, 2] rfl)
                            · skip
                              have hc14 : (v11 >>> ((nI i88) &&& 31)) &&& 1 = 1 := bz_1 hw13 c14
                              refine lv_iconst (v := 1) hx hb dX8_closes_142 (by decide) ?_
                              refine lv_iload_n hx hb dX8_closes_143 rfl (lv_at hl 0 rfl) ?_
                              refine lv_ishl hx hb dX8_closes_144 ?_
                              refine lv_topi (fun v16 ev16 => ?_)
                              refine lv_goto (tgt := 149) hx hb dX8_closes_145 (by decide) ?_
                              refine lv_ior hx hb dX8_closes_149 ?_
                              refine lv_topi (fun v17 ev17 => ?_)
                              refine va_iast hx hb hE.1 hP hD hS 3 0 rfl rfl (vp_in_nI (n := i88) (by omega) (by decide)) dX8_closes_150 (fun H locs hP hD hS => ?_)
                              refine k_re (w := [(oX8 g gi0 (nI mn) g2 g3 g4 g5 g6 g7 g8 g9 g10 (nI ml) g12 g13 gi14 g15 g16 g17 gi18 g19 g20 g21 g22 g23 g24 g25 g26 g27 g28 gi29 gi30 (nI mv) gi32 g33 g34 g35 g36 g37 g38 g39 gi40 g41 g42 gi43 g44 g45), (aIc cI g21 8 G21), (aIc cI g22 8 a_g22_28), (aIc cI g23 8 (upd a_g23_103 (Int32.toNatClampNeg (nI i88)) v17))]) hP hD (fun hP hD => ?_)
                              refine lv_iinc (v := (nI (j103 + 1))) (lv' := [(2, .int (nI (j103 + 1))), (1, .int (nI i88)), (0, .ref g)]) hx hb dX8_closes_151 hl (k := 0) rfl (nI_1 _) (by decide) rfl (fun ls hl => ?_)
                              refine lv_goto (tgt := 103) hx hb dX8_closes_154 (by decide) ?_
                              have hb1 : bt (clo Y0 8 i88) j103 = true := by rw [← hc_28 i88 (by omega), ← cl_at (A := a_g22_28) (by omega) ev6]; exact (bt_on (by omega)).mp hc9
                              have hb2 : bt (clo Y0 8 j103) i88 = true := by rw [← hc_28 j103 (by omega), ← cl_at (A := a_g22_28) (by omega) ev11]; exact (bt_on (by omega)).mp hc14
                              exact ih103 (j103 + 1) (upd a_g23_103 (Int32.toNatClampNeg (nI i88)) v17) (by omega) (rg_yes (by omega) hq_103 hb1 hb2 ev5 ev16 ev17) (by omega) _ _ _ hP hD hS (lv_sub hl [0, 1, 2] rfl)
                    exact J103 _ 0 (upd a_g23_88 (Int32.toNatClampNeg (nI i88)) 0) (by omega) (rg_0 (by omega) hr_88) (Nat.lt_succ_self _) _ _ _ hP hD hS (lv_sub hl [0, 1, 2] rfl)
              exact J88 _ 0 G23 (by omega) (fun k hk => absurd hk (Nat.not_lt_zero k)) (Nat.lt_succ_self _) _ _ _ hP hD hS (lv_sub hl [0, 1] rfl)
            · skip
              have nc2 : ¬ 8 ≤ i28 := fun q9 => c2 ((nI_leI (a := 8) (b := i28) (by omega) (by omega)).mpr q9)
              refine lv_iconst (v := 0) hx hb dX8_closes_34 (by decide) ?_
              refine lv_istore_n (lv' := [(2, .int 0), (1, .int (nI i28)), (0, .ref g)]) hx hb dX8_closes_35 rfl hl (by decide) rfl (fun ls hl => ?_)
              have J36 : ∀ (zz : Nat) (j36 : Nat) (a_g22_36 : Nat → Int32), (j36 ≤ 8) → (∀ k, k < 8 → a_g22_36 k = cin (clo Y0 i28) i28 j36 k) → (8 - j36) < zz → ∀ (H : Heap) (locs : List Loc) (ls : Array Slot), va_P D vwCl [(oX8 g gi0 (nI mn) g2 g3 g4 g5 g6 g7 g8 g9 g10 (nI ml) g12 g13 gi14 g15 g16 g17 gi18 g19 g20 g21 g22 g23 g24 g25 g26 g27 g28 gi29 gi30 (nI mv) gi32 g33 g34 g35 g36 g37 g38 g39 gi40 g41 g42 gi43 g44 g45), (aIc cI g21 8 G21), (aIc cI g22 8 a_g22_36), (aIc cI g23 8 G23)] H → va_D A [(oX8 g gi0 (nI mn) g2 g3 g4 g5 g6 g7 g8 g9 g10 (nI ml) g12 g13 gi14 g15 g16 g17 gi18 g19 g20 g21 g22 g23 g24 g25 g26 g27 g28 gi29 gi30 (nI mv) gi32 g33 g34 g35 g36 g37 g38 g39 gi40 g41 g42 gi43 g44 g45), (aIc cI g21 8 G21), (aIc cI g22 8 a_g22_36), (aIc cI g23 8 G23)] → va_S A s.heap H locs → lv_has ls 3 [(2, .int (nI j36)), (1, .int (nI i28)), (0, .ref g)] → W p l e { frames := 1, cells := 0, slots := 0, locals := 21 } s m [.ref g].toArray below meth c H locs 0 0 (MQ below (cQv D (fun u => ∃ (G22p G23p : Nat → Int32), (∀ k, k < 8 → G22p k = clo Y0 8 k) ∧ (∀ k, k < 8 → G23p k = RIN (clo Y0 8) k) ∧ u = [(oX8 g gi0 (nI mn) g2 g3 g4 g5 g6 g7 g8 g9 g10 (nI ml) g12 g13 gi14 g15 g16 g17 gi18 g19 g20 g21 g22 g23 g24 g25 g26 g27 g28 gi29 gi30 (nI mv) gi32 g33 g34 g35 g36 g37 g38 g39 gi40 g41 g42 gi43 g44 g45), (aIc cI g21 8 G21), (aIc cI g22 8 G22p), (aIc cI g23 8 G23p)]) A) [.ref g].toArray s 0 0 A) (F0 m 36 ls []) := by
                intro zz
                induction zz with
                | zero => intro j36 a_g22_36 _ _; exact fun h => absurd h (Nat.not_lt_zero _)
                | succ zz ih36 =>
                  intro j36 a_g22_36 hc2_36 hd_36 hmu36 H locs ls hP hD hS hl
                  refine lv_iload_n hx hb dX8_closes_36 rfl (lv_at hl 0 rfl) ?_
                  refine lv_bipush (v := 8) hx hb dX8_closes_37 (by decide) ?_
                  refine lv_icmp_ge (tgt := 80) hx hb dX8_closes_39 (by decide) (fun c18 => ?_) (fun c18 => ?_)
                  · skip
                    have nc18 : 8 ≤ j36 := (nI_leI (a := 8) (b := j36) (by omega) (by omega)).mp c18
                    refine lv_iinc (v := (nI (i28 + 1))) (lv' := [(1, .int (nI (i28 + 1))), (2, .int (nI j36)), (0, .ref g)]) hx hb dX8_closes_80 hl (k := 1) rfl (nI_1 _) (by decide) rfl (fun ls hl => ?_)
                    refine lv_goto (tgt := 28) hx hb dX8_closes_83 (by decide) ?_
                    exact ih28 (i28 + 1) a_g22_36 (by omega) (by obtain rfl : j36 = 8 := (by omega); exact hd_36) (by omega) _ _ _ hP hD hS (lv_sub hl [0, 2] rfl)
                  · skip
                    have nc18 : ¬ 8 ≤ j36 := fun q9 => c18 ((nI_leI (a := 8) (b := j36) (by omega) (by omega)).mpr q9)
                    refine lv_aload_n hx hb dX8_closes_42 rfl (lv_at hl 2 rfl) ?_
                    refine va_get (D := D) (ci := 8) (v := .ref g22) (C := RX8) (T := TX8) (N := 46) hx hb hts hiX8 hown hE.1 hP 0 rfl rfl 22 (by decide) (hts _ (List.mem_cons_of_mem _ wd_133)) (fun _ h9 => h9) rfl dX8_closes_43 ?_
                    refine lv_iload_n hx hb dX8_closes_46 rfl (lv_at hl 0 rfl) ?_
                    refine lv_dup2_11 hx hb dX8_closes_47 rfl rfl ?_
                    refine va_iald hx hb hE.1 hP 2 0 rfl rfl (vp_in_nI (n := j36) (by omega) (by decide)) dX8_closes_48 ?_
                    refine lv_topi (fun v19 ev19 => ?_)
                    refine lv_aload_n hx hb dX8_closes_49 rfl (lv_at hl 2 rfl) ?_
                    refine va_get (D := D) (ci := 8) (v := .ref g22) (C := RX8) (T := TX8) (N := 46) hx hb hts hiX8 hown hE.1 hP 0 rfl rfl 22 (by decide) (hts _ (List.mem_cons_of_mem _ wd_133)) (fun _ h9 => h9) rfl dX8_closes_50 ?_
                    refine lv_iload_n hx hb dX8_closes_53 rfl (lv_at hl 0 rfl) ?_
                    refine va_iald hx hb hE.1 hP 2 0 rfl rfl (vp_in_nI (n := j36) (by omega) (by decide)) dX8_closes_54 ?_
                    refine lv_topi (fun v20 ev20 => ?_)
                    refine lv_iload_n hx hb dX8_closes_55 rfl (lv_at hl 1 rfl) ?_
                    refine k_iS (va_runS (As := [.int v20, .int (nI i28)]) (rest := [.int v19, .int (nI j36), .ref g22]) ⟨hx, hb, hml, hown, hts⟩ (m_X8_isOn l D cI cJ H.size v20 (nI i28)) (va_cwS 2 hts gX8_closes_X8_isOn rfl rfl rfl (by decide +kernel) ⟨Nat.le_of_ble_eq_true rfl, Nat.le_of_ble_eq_true rfl⟩) (k_pre hE hP hD [] (by decide +kernel) rfl) rfl rfl hl.1 rfl (lv_room (Nat.le_of_ble_eq_true rfl)) dX8_closes_56 ⟨Nat.le_of_ble_eq_true rfl, Nat.le_of_ble_eq_true rfl⟩) hP hD hS hA [] rfl (fun _ _ h9 => h9.2) (fun r21 H locs hw22 hP hD hS => ?_)
                    obtain ⟨hw22, -⟩ := hw22
                    refine lv_if_eq (tgt := 71) hx hb dX8_closes_59 (by decide) (fun c23 => ?_) (fun c23 => ?_)
                    · skip
                      have hc23 : ¬ ((v20 >>> ((nI i28) &&& 31)) &&& 1 = 1) := bz_0 hw22 c23
                      refine lv_iconst (v := 0) hx hb dX8_closes_71 (by decide) ?_
                      refine lv_ior hx hb dX8_closes_72 ?_
                      refine lv_topi (fun v24 ev24 => ?_)
                      refine va_iast hx hb hE.1 hP hD hS 2 0 rfl rfl (vp_in_nI (n := j36) (by omega) (by decide)) dX8_closes_73 (fun H locs hP hD hS => ?_)
                      refine k_re (w := [(oX8 g gi0 (nI mn) g2 g3 g4 g5 g6 g7 g8 g9 g10 (nI ml) g12 g13 gi14 g15 g16 g17 gi18 g19 g20 g21 g22 g23 g24 g25 g26 g27 g28 gi29 gi30 (nI mv) gi32 g33 g34 g35 g36 g37 g38 g39 gi40 g41 g42 gi43 g44 g45), (aIc cI g21 8 G21), (aIc cI g22 8 (upd a_g22_36 (Int32.toNatClampNeg (nI j36)) v24)), (aIc cI g23 8 G23)]) hP hD (fun hP hD => ?_)
                      refine lv_iinc (v := (nI (j36 + 1))) (lv' := [(2, .int (nI (j36 + 1))), (1, .int (nI i28)), (0, .ref g)]) hx hb dX8_closes_74 hl (k := 0) rfl (nI_1 _) (by decide) rfl (fun ls hl => ?_)
                      refine lv_goto (tgt := 36) hx hb dX8_closes_77 (by decide) ?_
                      have hb9 : ¬ bt (a_g22_36 j36) i28 = true := fun q9 => hc23 ((bt_on (by omega)).mpr (by rw [cl_at (A := a_g22_36) (by omega) ev20]; exact q9))
                      exact ih36 (j36 + 1) (upd a_g22_36 (Int32.toNatClampNeg (nI j36)) v24) (by omega) (cin_no0 (by omega) hd_36 hb9 (by rw [ev24, cl_at (A := a_g22_36) (by omega) ev19])) (by omega) _ _ _ hP hD hS (lv_sub hl [0, 1, 2] rfl)
                    · skip
                      have hc23 : (v20 >>> ((nI i28) &&& 31)) &&& 1 = 1 := bz_1 hw22 c23
                      refine lv_aload_n hx hb dX8_closes_62 rfl (lv_at hl 2 rfl) ?_
                      refine va_get (D := D) (ci := 8) (v := .ref g22) (C := RX8) (T := TX8) (N := 46) hx hb hts hiX8 hown hE.1 hP 0 rfl rfl 22 (by decide) (hts _ (List.mem_cons_of_mem _ wd_133)) (fun _ h9 => h9) rfl dX8_closes_63 ?_
                      refine lv_iload_n hx hb dX8_closes_66 rfl (lv_at hl 1 rfl) ?_
                      refine va_iald hx hb hE.1 hP 2 0 rfl rfl (vp_in_nI (n := i28) (by omega) (by decide)) dX8_closes_67 ?_
                      refine lv_topi (fun v25 ev25 => ?_)
                      refine lv_goto (tgt := 72) hx hb dX8_closes_68 (by decide) ?_
                      refine lv_ior hx hb dX8_closes_72 ?_
                      refine lv_topi (fun v26 ev26 => ?_)
                      refine va_iast hx hb hE.1 hP hD hS 2 0 rfl rfl (vp_in_nI (n := j36) (by omega) (by decide)) dX8_closes_73 (fun H locs hP hD hS => ?_)
                      refine k_re (w := [(oX8 g gi0 (nI mn) g2 g3 g4 g5 g6 g7 g8 g9 g10 (nI ml) g12 g13 gi14 g15 g16 g17 gi18 g19 g20 g21 g22 g23 g24 g25 g26 g27 g28 gi29 gi30 (nI mv) gi32 g33 g34 g35 g36 g37 g38 g39 gi40 g41 g42 gi43 g44 g45), (aIc cI g21 8 G21), (aIc cI g22 8 (upd a_g22_36 (Int32.toNatClampNeg (nI j36)) v26)), (aIc cI g23 8 G23)]) hP hD (fun hP hD => ?_)
                      refine lv_iinc (v := (nI (j36 + 1))) (lv' := [(2, .int (nI (j36 + 1))), (1, .int (nI i28)), (0, .ref g)]) hx hb dX8_closes_74 hl (k := 0) rfl (nI_1 _) (by decide) rfl (fun ls hl => ?_)
                      refine lv_goto (tgt := 36) hx hb dX8_closes_77 (by decide) ?_
                      have hb9 : bt (a_g22_36 j36) i28 = true := by rw [← cl_at (A := a_g22_36) (by omega) ev20]; exact (bt_on (by omega)).mp hc23
                      exact ih36 (j36 + 1) (upd a_g22_36 (Int32.toNatClampNeg (nI j36)) v26) (by omega) (cin_yes (by omega) (by omega) hd_36 hb9 (by rw [ev26, cl_at (A := a_g22_36) (by omega) ev19, cl_at (A := a_g22_36) (by omega) ev25])) (by omega) _ _ _ hP hD hS (lv_sub hl [0, 1, 2] rfl)
              exact J36 _ 0 a_g22_28 (by omega) hc_28 (Nat.lt_succ_self _) _ _ _ hP hD hS (lv_sub hl [0, 1, 2] rfl)
        exact J28 _ 0 a_g22_2 (by omega) (fun k hk => h0c_2 k (by omega)) (Nat.lt_succ_self _) _ _ _ hP hD hS (lv_sub hl [0, 1] rfl)
      · skip
        have nc1 : ¬ 8 ≤ i2 := fun q9 => c1 ((nI_leI (a := 8) (b := i2) (by omega) (by omega)).mpr q9)
        refine lv_aload_n hx hb dX8_closes_8 rfl (lv_at hl 1 rfl) ?_
        refine va_get (D := D) (ci := 8) (v := .ref g22) (C := RX8) (T := TX8) (N := 46) hx hb hts hiX8 hown hE.1 hP 0 rfl rfl 22 (by decide) (hts _ (List.mem_cons_of_mem _ wd_133)) (fun _ h9 => h9) rfl dX8_closes_9 ?_
        refine lv_iload_n hx hb dX8_closes_12 rfl (lv_at hl 0 rfl) ?_
        refine lv_aload_n hx hb dX8_closes_13 rfl (lv_at hl 1 rfl) ?_
        refine va_get (D := D) (ci := 8) (v := .ref g21) (C := RX8) (T := TX8) (N := 46) hx hb hts hiX8 hown hE.1 hP 0 rfl rfl 21 (by decide) (hts _ (List.mem_cons_of_mem _ wd_132)) (fun _ h9 => h9) rfl dX8_closes_14 ?_
        refine lv_iload_n hx hb dX8_closes_17 rfl (lv_at hl 0 rfl) ?_
        refine va_iald hx hb hE.1 hP 1 0 rfl rfl (vp_in_nI (n := i2) (by omega) (by decide)) dX8_closes_18 ?_
        refine lv_topi (fun v27 ev27 => ?_)
        refine va_iast hx hb hE.1 hP hD hS 2 0 rfl rfl (vp_in_nI (n := i2) (by omega) (by decide)) dX8_closes_19 (fun H locs hP hD hS => ?_)
        refine k_re (w := [(oX8 g gi0 (nI mn) g2 g3 g4 g5 g6 g7 g8 g9 g10 (nI ml) g12 g13 gi14 g15 g16 g17 gi18 g19 g20 g21 g22 g23 g24 g25 g26 g27 g28 gi29 gi30 (nI mv) gi32 g33 g34 g35 g36 g37 g38 g39 gi40 g41 g42 gi43 g44 g45), (aIc cI g21 8 G21), (aIc cI g22 8 (upd a_g22_2 (Int32.toNatClampNeg (nI i2)) v27)), (aIc cI g23 8 G23)]) hP hD (fun hP hD => ?_)
        refine lv_iinc (v := (nI (i2 + 1))) (lv' := [(1, .int (nI (i2 + 1))), (0, .ref g)]) hx hb dX8_closes_20 hl (k := 0) rfl (nI_1 _) (by decide) rfl (fun ls hl => ?_)
        refine lv_goto (tgt := 2) hx hb dX8_closes_23 (by decide) ?_
        exact ih2 (i2 + 1) (upd a_g22_2 (Int32.toNatClampNeg (nI i2)) v27) (by omega) (rowI_up (by omega) h0c_2 ((cl_at (A := G21) (by omega) ev27).trans (hY i2 (by omega)))) (by omega) _ _ _ hP hD hS (lv_sub hl [0, 1] rfl)
  exact J2 _ 0 G22 (by omega) (fun k hk => absurd hk (Nat.not_lt_zero k)) (Nat.lt_succ_self _) _ _ _ hP hD hS (lv_sub hl [0, 1] rfl)

