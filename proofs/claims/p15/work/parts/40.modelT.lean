theorem wk_cap {f : Nat → Int32} {i h : Nat} {v w : Int32} (hc : ∀ k, k < 8 → -1000000 ≤ (f k).toInt ∧ (f k).toInt ≤ 1000000) (hi : i < 8) (hh : h ≤ 1000000) (ev : v = f (Int32.toNatClampNeg (nI i))) (ew : w = f (Int32.toNatClampNeg (nI i))) (c : ¬ v ≤ nI h) : ∃ n : Nat, n ≤ 1000000 ∧ w = nI n := by
  have e : w = v := ew.trans ev.symm
  subst e
  rw [nI_clamp (by omega)] at ev
  have h1 := (hc i hi).2
  rw [← ev] at h1
  have h2 : ¬ w.toInt ≤ (h : Int) := fun q => c (Int32.le_iff_toInt_le.mpr (by rw [nI_toInt (by omega)]; exact q))
  obtain ⟨n, hn, rfl⟩ := nI_of (x := w) (fun q => by have := i_lt0.mp q; omega)
  rw [nI_toInt hn] at h1
  exact ⟨n, by omega, rfl⟩
theorem ov_dec {x y : Int32} (h : ¬ x ≤ 0) (e : y = x + (-1)) : y.toInt.toNat < x.toInt.toNat := by
  have h1 : ¬ x.toInt ≤ 0 := fun q => h (Int32.le_iff_toInt_le.mpr q)
  have h2 := x.toInt_lt
  have h3 : y.toInt = x.toInt - 1 := by
    rw [e, Int32.toInt_add, show Int32.toInt (-1) = -1 from rfl]
    exact Int.bmod_eq_of_le (by omega) (by omega)
  omega
theorem ls_ne {x : Int64} (h : ¬ x ≤ 0) : ¬ x = 0 := fun q => h (by rw [q]; exact Int64.le_refl 0)
theorem ci_up {f : Nat → Int32} {i : Nat} {v : Int32} (hi : i < 8) (hv : -1000000 ≤ v.toInt ∧ v.toInt ≤ 1000000) (h : ∀ k, k < i → -1000000 ≤ (f k).toInt ∧ (f k).toInt ≤ 1000000) : ∀ k, k < i + 1 → -1000000 ≤ (upd f (Int32.toNatClampNeg (nI i)) v k).toInt ∧ (upd f (Int32.toNatClampNeg (nI i)) v k).toInt ≤ 1000000 := by
  intro k hk
  rw [nI_clamp (by omega)]
  by_cases e : k = i
  · subst e; rw [pk_us]; exact hv
  · rw [pk_un e]; exact h k (by omega)
set_option maxHeartbeats 4000000 in
set_option maxRecDepth 100000 in
theorem k_X8_least (l : Launch) (D : va_G) (cI cJ : ClassId) (sz : Nat) (a b : Int32) : Met l yX8_least wtX8_least { frames := 0, cells := 0, slots := 0, locals := 0 } (cPc D cI cJ [.int a, .int b] sz []) (cQi D (fun r u => u = []) (va_A [] sz)) 0 0 (va_A [] sz) := by
  refine k_ofW (Qc := cQi D (fun r u => u = [])) (by decide) rfl (Nat.le_of_ble_eq_true rfl) ?_
  intro p e s m below meth c A ls hx hb hr hml hts hown hlk hnm hsz hE hP hD hS hA hl
  have hown : s.vm.findClass RX8 = some m.cls := hown
  have hl : lv_has ls 2 [(0, .int a), (1, .int b)] := hl
  refine lv_iload_n hx hb dX8_least_0 rfl (lv_at hl 0 rfl) ?_
  refine lv_iload_n hx hb dX8_least_1 rfl (lv_at hl 1 rfl) ?_
  refine lv_icmp_ge (tgt := 9) hx hb dX8_least_2 (by decide) (fun c1 => ?_) (fun c1 => ?_)
  · skip
    refine lv_iload_n hx hb dX8_least_9 rfl (lv_at hl 1 rfl) ?_
    refine k_iret (u := []) hx hb hr hlk hP hD hS dX8_least_10 ?_
    exact rfl
  · skip
    refine lv_iload_n hx hb dX8_least_5 rfl (lv_at hl 0 rfl) ?_
    refine lv_goto (tgt := 10) hx hb dX8_least_6 (by decide) ?_
    refine k_iret (u := []) hx hb hr hlk hP hD hS dX8_least_10 ?_
    exact rfl
set_option maxHeartbeats 4000000 in
set_option maxRecDepth 100000 in
theorem k_X8_capSum (l : Launch) (D : va_G) (cI cJ : ClassId) (sz : Nat) (g g2 g3 g4 g5 g6 g7 g8 g9 g10 g12 g13 g15 g16 g17 g19 g20 g21 g22 g23 g24 g25 g26 g27 g28 g33 g34 g35 g36 g37 g38 g39 g41 g42 g44 g45 mn ml mv : Nat) (gi0 gi14 gi18 gi29 gi30 gi32 gi40 gi43 : Int32) (G35 : Nat → Int32) : Met l yX8_capSum wtX8_capSum { frames := 0, cells := 0, slots := 0, locals := 0 } (cPc D cI cJ [.ref g] sz [(oX8 g gi0 (nI mn) g2 g3 g4 g5 g6 g7 g8 g9 g10 (nI ml) g12 g13 gi14 g15 g16 g17 gi18 g19 g20 g21 g22 g23 g24 g25 g26 g27 g28 gi29 gi30 (nI mv) gi32 g33 g34 g35 g36 g37 g38 g39 gi40 g41 g42 gi43 g44 g45), (aIc cI g35 8 G35)]) (cQl D (fun r u => u = [(oX8 g gi0 (nI mn) g2 g3 g4 g5 g6 g7 g8 g9 g10 (nI ml) g12 g13 gi14 g15 g16 g17 gi18 g19 g20 g21 g22 g23 g24 g25 g26 g27 g28 gi29 gi30 (nI mv) gi32 g33 g34 g35 g36 g37 g38 g39 gi40 g41 g42 gi43 g44 g45), (aIc cI g35 8 G35)]) (va_A [(oX8 g gi0 (nI mn) g2 g3 g4 g5 g6 g7 g8 g9 g10 (nI ml) g12 g13 gi14 g15 g16 g17 gi18 g19 g20 g21 g22 g23 g24 g25 g26 g27 g28 gi29 gi30 (nI mv) gi32 g33 g34 g35 g36 g37 g38 g39 gi40 g41 g42 gi43 g44 g45), (aIc cI g35 8 G35)] sz)) 0 0 (va_A [(oX8 g gi0 (nI mn) g2 g3 g4 g5 g6 g7 g8 g9 g10 (nI ml) g12 g13 gi14 g15 g16 g17 gi18 g19 g20 g21 g22 g23 g24 g25 g26 g27 g28 gi29 gi30 (nI mv) gi32 g33 g34 g35 g36 g37 g38 g39 gi40 g41 g42 gi43 g44 g45), (aIc cI g35 8 G35)] sz) := by
  refine k_ofW (Qc := cQl D (fun r u => u = [(oX8 g gi0 (nI mn) g2 g3 g4 g5 g6 g7 g8 g9 g10 (nI ml) g12 g13 gi14 g15 g16 g17 gi18 g19 g20 g21 g22 g23 g24 g25 g26 g27 g28 gi29 gi30 (nI mv) gi32 g33 g34 g35 g36 g37 g38 g39 gi40 g41 g42 gi43 g44 g45), (aIc cI g35 8 G35)])) (by decide) rfl (Nat.le_of_ble_eq_true rfl) ?_
  intro p e s m below meth c A ls hx hb hr hml hts hown hlk hnm hsz hE hP hD hS hA hl
  have hown : s.vm.findClass RX8 = some m.cls := hown
  have hiX8 : ∀ w ∈ u_ws RX8 TX8 46, w ∈ wtX8_capSum := fun w h => List.mem_cons_of_mem _ (iuX8 w h)
  have hl : lv_has ls 4 [(0, .ref g)] := hl
  refine lv_lconst (v := 0) hx hb dX8_capSum_0 (by decide) ?_
  refine lv_lstore_n (lv' := [(1, .long 0), (0, .ref g)]) hx hb dX8_capSum_1 rfl hl (by decide) rfl (fun ls hl => ?_)
  refine lv_iconst (v := 0) hx hb dX8_capSum_2 (by decide) ?_
  refine lv_istore_n (lv' := [(3, .int 0), (1, .long 0), (0, .ref g)]) hx hb dX8_capSum_3 rfl hl (by decide) rfl (fun ls hl => ?_)
  have J4 : ∀ (zz : Nat) (i4 : Nat) (h1_4 : Int64), (i4 ≤ 8) → (8 - i4) < zz → ∀ (H : Heap) (locs : List Loc) (ls : Array Slot), va_P D vwCl [(oX8 g gi0 (nI mn) g2 g3 g4 g5 g6 g7 g8 g9 g10 (nI ml) g12 g13 gi14 g15 g16 g17 gi18 g19 g20 g21 g22 g23 g24 g25 g26 g27 g28 gi29 gi30 (nI mv) gi32 g33 g34 g35 g36 g37 g38 g39 gi40 g41 g42 gi43 g44 g45), (aIc cI g35 8 G35)] H → va_D A [(oX8 g gi0 (nI mn) g2 g3 g4 g5 g6 g7 g8 g9 g10 (nI ml) g12 g13 gi14 g15 g16 g17 gi18 g19 g20 g21 g22 g23 g24 g25 g26 g27 g28 gi29 gi30 (nI mv) gi32 g33 g34 g35 g36 g37 g38 g39 gi40 g41 g42 gi43 g44 g45), (aIc cI g35 8 G35)] → va_S A s.heap H locs → lv_has ls 4 [(3, .int (nI i4)), (1, .long h1_4), (0, .ref g)] → W p l e { frames := 0, cells := 0, slots := 0, locals := 0 } s m [.ref g].toArray below meth c H locs 0 0 (MQ below (cQl D (fun r u => u = [(oX8 g gi0 (nI mn) g2 g3 g4 g5 g6 g7 g8 g9 g10 (nI ml) g12 g13 gi14 g15 g16 g17 gi18 g19 g20 g21 g22 g23 g24 g25 g26 g27 g28 gi29 gi30 (nI mv) gi32 g33 g34 g35 g36 g37 g38 g39 gi40 g41 g42 gi43 g44 g45), (aIc cI g35 8 G35)]) A) [.ref g].toArray s 0 0 A) (F0 m 4 ls []) := by
    intro zz
    induction zz with
    | zero => intro i4 h1_4 _; exact fun h => absurd h (Nat.not_lt_zero _)
    | succ zz ih4 =>
      intro i4 h1_4 hc3_4 hmu4 H locs ls hP hD hS hl
      refine lv_iload_n hx hb dX8_capSum_4 rfl (lv_at hl 0 rfl) ?_
      refine lv_bipush (v := 8) hx hb dX8_capSum_5 (by decide) ?_
      refine lv_icmp_ge (tgt := 26) hx hb dX8_capSum_7 (by decide) (fun c1 => ?_) (fun c1 => ?_)
      · skip
        have nc1 : 8 ≤ i4 := (nI_leI (a := 8) (b := i4) (by omega) (by omega)).mp c1
        refine lv_lload_n hx hb dX8_capSum_26 rfl (lv_at hl 1 rfl) ?_
        refine k_lret (u := [(oX8 g gi0 (nI mn) g2 g3 g4 g5 g6 g7 g8 g9 g10 (nI ml) g12 g13 gi14 g15 g16 g17 gi18 g19 g20 g21 g22 g23 g24 g25 g26 g27 g28 gi29 gi30 (nI mv) gi32 g33 g34 g35 g36 g37 g38 g39 gi40 g41 g42 gi43 g44 g45), (aIc cI g35 8 G35)]) hx hb hr hlk hP hD hS dX8_capSum_27 ?_
        exact rfl
      · skip
        have nc1 : ¬ 8 ≤ i4 := fun q9 => c1 ((nI_leI (a := 8) (b := i4) (by omega) (by omega)).mpr q9)
        refine lv_lload_n hx hb dX8_capSum_10 rfl (lv_at hl 1 rfl) ?_
        refine lv_aload_n hx hb dX8_capSum_11 rfl (lv_at hl 2 rfl) ?_
        refine va_get (D := D) (ci := 8) (v := .ref g35) (C := RX8) (T := TX8) (N := 46) hx hb hts hiX8 hown hE.1 hP 0 rfl rfl 35 (by decide) (hts _ (List.mem_cons_of_mem _ wd_142)) (fun _ h9 => h9) rfl dX8_capSum_12 ?_
        refine lv_iload_n hx hb dX8_capSum_15 rfl (lv_at hl 0 rfl) ?_
        refine va_iald hx hb hE.1 hP 1 0 rfl rfl (vp_in_nI (n := i4) (by omega) (by decide)) dX8_capSum_16 ?_
        refine lv_topi (fun v2 ev2 => ?_)
        refine lv_i2l hx hb dX8_capSum_17 rfl ?_
        refine lv_ladd hx hb dX8_capSum_18 ?_
        refine lv_topl (fun v3 ev3 => ?_)
        refine lv_lstore_n (lv' := [(1, .long v3), (3, .int (nI i4)), (0, .ref g)]) hx hb dX8_capSum_19 rfl hl (by decide) rfl (fun ls hl => ?_)
        refine lv_iinc (v := (nI (i4 + 1))) (lv' := [(3, .int (nI (i4 + 1))), (1, .long v3), (0, .ref g)]) hx hb dX8_capSum_20 hl (k := 1) rfl (nI_1 _) (by decide) rfl (fun ls hl => ?_)
        refine lv_goto (tgt := 4) hx hb dX8_capSum_23 (by decide) ?_
        exact ih4 (i4 + 1) v3 (by omega) (by omega) _ _ _ hP hD hS (lv_sub hl [0, 1, 2] rfl)
  exact J4 _ 0 0 (by omega) (Nat.lt_succ_self _) _ _ _ hP hD hS (lv_sub hl [0, 1, 2] rfl)
set_option maxHeartbeats 4000000 in
set_option maxRecDepth 100000 in
theorem k_X8_byHeight (l : Launch) (D : va_G) (cI cJ : ClassId) (sz : Nat) (g g2 g3 g4 g5 g6 g7 g8 g9 g10 g12 g13 g15 g16 g17 g19 g20 g21 g22 g23 g24 g25 g26 g27 g28 g33 g34 g35 g36 g37 g38 g39 g41 g42 g44 g45 mn ml mv : Nat) (gi0 gi14 gi18 gi29 gi30 gi32 gi40 gi43 h0 : Int32) (G35 : Nat → Int32) : Met l yX8_byHeight wtX8_byHeight { frames := 1, cells := 0, slots := 0, locals := 21 } (cPc D cI cJ [.ref g, .int h0] sz [(oX8 g gi0 (nI mn) g2 g3 g4 g5 g6 g7 g8 g9 g10 (nI ml) g12 g13 gi14 g15 g16 g17 gi18 g19 g20 g21 g22 g23 g24 g25 g26 g27 g28 gi29 gi30 (nI mv) gi32 g33 g34 g35 g36 g37 g38 g39 gi40 g41 g42 gi43 g44 g45), (aIc cI g35 8 G35)]) (cQl D (fun r u => u = [(oX8 g gi0 (nI mn) g2 g3 g4 g5 g6 g7 g8 g9 g10 (nI ml) g12 g13 gi14 g15 g16 g17 gi18 g19 g20 g21 g22 g23 g24 g25 g26 g27 g28 gi29 gi30 (nI mv) gi32 g33 g34 g35 g36 g37 g38 g39 gi40 g41 g42 gi43 g44 g45), (aIc cI g35 8 G35)]) (va_A [(oX8 g gi0 (nI mn) g2 g3 g4 g5 g6 g7 g8 g9 g10 (nI ml) g12 g13 gi14 g15 g16 g17 gi18 g19 g20 g21 g22 g23 g24 g25 g26 g27 g28 gi29 gi30 (nI mv) gi32 g33 g34 g35 g36 g37 g38 g39 gi40 g41 g42 gi43 g44 g45), (aIc cI g35 8 G35)] sz)) 0 0 (va_A [(oX8 g gi0 (nI mn) g2 g3 g4 g5 g6 g7 g8 g9 g10 (nI ml) g12 g13 gi14 g15 g16 g17 gi18 g19 g20 g21 g22 g23 g24 g25 g26 g27 g28 gi29 gi30 (nI mv) gi32 g33 g34 g35 g36 g37 g38 g39 gi40 g41 g42 gi43 g44 g45), (aIc cI g35 8 G35)] sz) := by
  refine k_ofW (Qc := cQl D (fun r u => u = [(oX8 g gi0 (nI mn) g2 g3 g4 g5 g6 g7 g8 g9 g10 (nI ml) g12 g13 gi14 g15 g16 g17 gi18 g19 g20 g21 g22 g23 g24 g25 g26 g27 g28 gi29 gi30 (nI mv) gi32 g33 g34 g35 g36 g37 g38 g39 gi40 g41 g42 gi43 g44 g45), (aIc cI g35 8 G35)])) (by decide) rfl (Nat.le_of_ble_eq_true rfl) ?_
  intro p e s m below meth c A ls hx hb hr hml hts hown hlk hnm hsz hE hP hD hS hA hl
  have hown : s.vm.findClass RX8 = some m.cls := hown
  have hiX8 : ∀ w ∈ u_ws RX8 TX8 46, w ∈ wtX8_byHeight := fun w h => List.mem_cons_of_mem _ (iuX8 w h)
  have hl : lv_has ls 5 [(0, .ref g), (1, .int h0)] := hl
  refine lv_lconst (v := 0) hx hb dX8_byHeight_0 (by decide) ?_
  refine lv_lstore_n (lv' := [(2, .long 0), (0, .ref g), (1, .int h0)]) hx hb dX8_byHeight_1 rfl hl (by decide) rfl (fun ls hl => ?_)
  refine lv_iconst (v := 0) hx hb dX8_byHeight_2 (by decide) ?_
  refine lv_istore (lv' := [(4, .int 0), (2, .long 0), (0, .ref g), (1, .int h0)]) hx hb dX8_byHeight_3 hl (by decide) rfl (fun ls hl => ?_)
  have J5 : ∀ (zz : Nat) (i5 : Nat) (h2_5 : Int64), (i5 ≤ 8) → (8 - i5) < zz → ∀ (H : Heap) (locs : List Loc) (ls : Array Slot), va_P D vwCl [(oX8 g gi0 (nI mn) g2 g3 g4 g5 g6 g7 g8 g9 g10 (nI ml) g12 g13 gi14 g15 g16 g17 gi18 g19 g20 g21 g22 g23 g24 g25 g26 g27 g28 gi29 gi30 (nI mv) gi32 g33 g34 g35 g36 g37 g38 g39 gi40 g41 g42 gi43 g44 g45), (aIc cI g35 8 G35)] H → va_D A [(oX8 g gi0 (nI mn) g2 g3 g4 g5 g6 g7 g8 g9 g10 (nI ml) g12 g13 gi14 g15 g16 g17 gi18 g19 g20 g21 g22 g23 g24 g25 g26 g27 g28 gi29 gi30 (nI mv) gi32 g33 g34 g35 g36 g37 g38 g39 gi40 g41 g42 gi43 g44 g45), (aIc cI g35 8 G35)] → va_S A s.heap H locs → lv_has ls 5 [(4, .int (nI i5)), (2, .long h2_5), (0, .ref g), (1, .int h0)] → W p l e { frames := 1, cells := 0, slots := 0, locals := 21 } s m [.ref g, .int h0].toArray below meth c H locs 0 0 (MQ below (cQl D (fun r u => u = [(oX8 g gi0 (nI mn) g2 g3 g4 g5 g6 g7 g8 g9 g10 (nI ml) g12 g13 gi14 g15 g16 g17 gi18 g19 g20 g21 g22 g23 g24 g25 g26 g27 g28 gi29 gi30 (nI mv) gi32 g33 g34 g35 g36 g37 g38 g39 gi40 g41 g42 gi43 g44 g45), (aIc cI g35 8 G35)]) A) [.ref g, .int h0].toArray s 0 0 A) (F0 m 5 ls []) := by
    intro zz
    induction zz with
    | zero => intro i5 h2_5 _; exact fun h => absurd h (Nat.not_lt_zero _)
    | succ zz ih5 =>
      intro i5 h2_5 hc4_5 hmu5 H locs ls hP hD hS hl
      refine lv_iload hx hb dX8_byHeight_5 (lv_at hl 0 rfl) ?_
      refine lv_bipush (v := 8) hx hb dX8_byHeight_7 (by decide) ?_
      refine lv_icmp_ge (tgt := 33) hx hb dX8_byHeight_9 (by decide) (fun c1 => ?_) (fun c1 => ?_)
      · skip
        have nc1 : 8 ≤ i5 := (nI_leI (a := 8) (b := i5) (by omega) (by omega)).mp c1
        refine lv_lload_n hx hb dX8_byHeight_33 rfl (lv_at hl 1 rfl) ?_
        refine k_lret (u := [(oX8 g gi0 (nI mn) g2 g3 g4 g5 g6 g7 g8 g9 g10 (nI ml) g12 g13 gi14 g15 g16 g17 gi18 g19 g20 g21 g22 g23 g24 g25 g26 g27 g28 gi29 gi30 (nI mv) gi32 g33 g34 g35 g36 g37 g38 g39 gi40 g41 g42 gi43 g44 g45), (aIc cI g35 8 G35)]) hx hb hr hlk hP hD hS dX8_byHeight_34 ?_
        exact rfl
      · skip
        have nc1 : ¬ 8 ≤ i5 := fun q9 => c1 ((nI_leI (a := 8) (b := i5) (by omega) (by omega)).mpr q9)
        refine lv_lload_n hx hb dX8_byHeight_12 rfl (lv_at hl 1 rfl) ?_
        refine lv_aload_n hx hb dX8_byHeight_13 rfl (lv_at hl 2 rfl) ?_
        refine va_get (D := D) (ci := 8) (v := .ref g35) (C := RX8) (T := TX8) (N := 46) hx hb hts hiX8 hown hE.1 hP 0 rfl rfl 35 (by decide) (hts _ (List.mem_cons_of_mem _ wd_142)) (fun _ h9 => h9) rfl dX8_byHeight_14 ?_
        refine lv_iload hx hb dX8_byHeight_17 (lv_at hl 0 rfl) ?_
        refine va_iald hx hb hE.1 hP 1 0 rfl rfl (vp_in_nI (n := i5) (by omega) (by decide)) dX8_byHeight_19 ?_
        refine lv_topi (fun v2 ev2 => ?_)
        refine lv_iload_n hx hb dX8_byHeight_20 rfl (lv_at hl 3 rfl) ?_
        refine k_iS (va_runS (As := [.int v2, .int h0]) (rest := [.long h2_5]) ⟨hx, hb, hml, hown, hts⟩ (k_X8_least l D cI cJ H.size v2 h0) (va_cwS 2 hts gX8_byHeight_X8_least rfl rfl rfl (by decide +kernel) ⟨Nat.le_of_ble_eq_true rfl, Nat.le_of_ble_eq_true rfl⟩) (k_pre hE hP hD [] (by decide +kernel) rfl) rfl rfl hl.1 rfl (lv_room (Nat.le_of_ble_eq_true rfl)) dX8_byHeight_21 ⟨Nat.le_of_ble_eq_true rfl, Nat.le_of_ble_eq_true rfl⟩) hP hD hS hA [] rfl (fun _ _ h9 => h9) (fun r3 H locs hw4 hP hD hS => ?_)
        refine lv_i2l hx hb dX8_byHeight_24 rfl ?_
        refine lv_ladd hx hb dX8_byHeight_25 ?_
        refine lv_topl (fun v5 ev5 => ?_)
        refine lv_lstore_n (lv' := [(2, .long v5), (4, .int (nI i5)), (0, .ref g), (1, .int h0)]) hx hb dX8_byHeight_26 rfl hl (by decide) rfl (fun ls hl => ?_)
        refine lv_iinc (v := (nI (i5 + 1))) (lv' := [(4, .int (nI (i5 + 1))), (2, .long v5), (0, .ref g), (1, .int h0)]) hx hb dX8_byHeight_27 hl (k := 1) rfl (nI_1 _) (by decide) rfl (fun ls hl => ?_)
        refine lv_goto (tgt := 5) hx hb dX8_byHeight_30 (by decide) ?_
        exact ih5 (i5 + 1) v5 (by omega) (by omega) _ _ _ hP hD hS (lv_sub hl [0, 1, 2, 3] rfl)
  exact J5 _ 0 0 (by omega) (Nat.lt_succ_self _) _ _ _ hP hD hS (lv_sub hl [0, 1, 2, 3] rfl)
set_option maxHeartbeats 4000000 in
set_option maxRecDepth 100000 in
theorem k_X8_heightFor (l : Launch) (D : va_G) (cI cJ : ClassId) (sz : Nat) (g g2 g3 g4 g5 g6 g7 g8 g9 g10 g12 g13 g15 g16 g17 g19 g20 g21 g22 g23 g24 g25 g26 g27 g28 g33 g34 g35 g36 g37 g38 g39 g41 g42 g44 g45 mn ml mv : Nat) (gi0 gi14 gi18 gi29 gi30 gi32 gi40 gi43 du : Int32) (G35 : Nat → Int32) (hci : ∀ k, k < 8 → -1000000 ≤ (G35 k).toInt ∧ (G35 k).toInt ≤ 1000000) : Met l yX8_heightFor wtX8_heightFor { frames := 2, cells := 0, slots := 0, locals := 45 } (cPc D cI cJ [.ref g, .int du] sz [(oX8 g gi0 (nI mn) g2 g3 g4 g5 g6 g7 g8 g9 g10 (nI ml) g12 g13 gi14 g15 g16 g17 gi18 g19 g20 g21 g22 g23 g24 g25 g26 g27 g28 gi29 gi30 (nI mv) gi32 g33 g34 g35 g36 g37 g38 g39 gi40 g41 g42 gi43 g44 g45), (aIc cI g35 8 G35)]) (cQi D (fun r u => ∃ (h1 : Nat), (h1 ≤ 1000000) ∧ r = (nI h1) ∧ u = [(oX8 g gi0 (nI mn) g2 g3 g4 g5 g6 g7 g8 g9 g10 (nI ml) g12 g13 gi14 g15 g16 g17 gi18 g19 g20 g21 g22 g23 g24 g25 g26 g27 g28 gi29 gi30 (nI mv) gi32 g33 g34 g35 g36 g37 g38 g39 gi40 g41 g42 gi43 g44 g45), (aIc cI g35 8 G35)]) (va_A [(oX8 g gi0 (nI mn) g2 g3 g4 g5 g6 g7 g8 g9 g10 (nI ml) g12 g13 gi14 g15 g16 g17 gi18 g19 g20 g21 g22 g23 g24 g25 g26 g27 g28 gi29 gi30 (nI mv) gi32 g33 g34 g35 g36 g37 g38 g39 gi40 g41 g42 gi43 g44 g45), (aIc cI g35 8 G35)] sz)) 0 0 (va_A [(oX8 g gi0 (nI mn) g2 g3 g4 g5 g6 g7 g8 g9 g10 (nI ml) g12 g13 gi14 g15 g16 g17 gi18 g19 g20 g21 g22 g23 g24 g25 g26 g27 g28 gi29 gi30 (nI mv) gi32 g33 g34 g35 g36 g37 g38 g39 gi40 g41 g42 gi43 g44 g45), (aIc cI g35 8 G35)] sz) := by
  refine k_ofW (Qc := cQi D (fun r u => ∃ (h1 : Nat), (h1 ≤ 1000000) ∧ r = (nI h1) ∧ u = [(oX8 g gi0 (nI mn) g2 g3 g4 g5 g6 g7 g8 g9 g10 (nI ml) g12 g13 gi14 g15 g16 g17 gi18 g19 g20 g21 g22 g23 g24 g25 g26 g27 g28 gi29 gi30 (nI mv) gi32 g33 g34 g35 g36 g37 g38 g39 gi40 g41 g42 gi43 g44 g45), (aIc cI g35 8 G35)])) (by decide) rfl (Nat.le_of_ble_eq_true rfl) ?_
  intro p e s m below meth c A ls hx hb hr hml hts hown hlk hnm hsz hE hP hD hS hA hl
  have hown : s.vm.findClass RX8 = some m.cls := hown
  have hiX8 : ∀ w ∈ u_ws RX8 TX8 46, w ∈ wtX8_heightFor := fun w h => List.mem_cons_of_mem _ (iuX8 w h)
  have hl : lv_has ls 5 [(0, .ref g), (1, .int du)] := hl
  refine lv_iconst (v := 0) hx hb dX8_heightFor_0 (by decide) ?_
  refine lv_istore_n (lv' := [(2, .int 0), (0, .ref g), (1, .int du)]) hx hb dX8_heightFor_1 rfl hl (by decide) rfl (fun ls hl => ?_)
  refine lv_iconst (v := 0) hx hb dX8_heightFor_2 (by decide) ?_
  refine lv_istore_n (lv' := [(3, .int 0), (2, .int 0), (0, .ref g), (1, .int du)]) hx hb dX8_heightFor_3 rfl hl (by decide) rfl (fun ls hl => ?_)
  refine lv_iconst (v := 0) hx hb dX8_heightFor_4 (by decide) ?_
  refine lv_istore (lv' := [(4, .int 0), (3, .int 0), (2, .int 0), (0, .ref g), (1, .int du)]) hx hb dX8_heightFor_5 hl (by decide) rfl (fun ls hl => ?_)
  have J7 : ∀ (zz : Nat) (i7 h3_7 : Nat), (i7 ≤ 8) → (h3_7 ≤ 1000000) → (8 - i7) < zz → ∀ (H : Heap) (locs : List Loc) (ls : Array Slot), va_P D vwCl [(oX8 g gi0 (nI mn) g2 g3 g4 g5 g6 g7 g8 g9 g10 (nI ml) g12 g13 gi14 g15 g16 g17 gi18 g19 g20 g21 g22 g23 g24 g25 g26 g27 g28 gi29 gi30 (nI mv) gi32 g33 g34 g35 g36 g37 g38 g39 gi40 g41 g42 gi43 g44 g45), (aIc cI g35 8 G35)] H → va_D A [(oX8 g gi0 (nI mn) g2 g3 g4 g5 g6 g7 g8 g9 g10 (nI ml) g12 g13 gi14 g15 g16 g17 gi18 g19 g20 g21 g22 g23 g24 g25 g26 g27 g28 gi29 gi30 (nI mv) gi32 g33 g34 g35 g36 g37 g38 g39 gi40 g41 g42 gi43 g44 g45), (aIc cI g35 8 G35)] → va_S A s.heap H locs → lv_has ls 5 [(4, .int (nI i7)), (3, .int (nI h3_7)), (2, .int 0), (0, .ref g), (1, .int du)] → W p l e { frames := 2, cells := 0, slots := 0, locals := 45 } s m [.ref g, .int du].toArray below meth c H locs 0 0 (MQ below (cQi D (fun r u => ∃ (h1 : Nat), (h1 ≤ 1000000) ∧ r = (nI h1) ∧ u = [(oX8 g gi0 (nI mn) g2 g3 g4 g5 g6 g7 g8 g9 g10 (nI ml) g12 g13 gi14 g15 g16 g17 gi18 g19 g20 g21 g22 g23 g24 g25 g26 g27 g28 gi29 gi30 (nI mv) gi32 g33 g34 g35 g36 g37 g38 g39 gi40 g41 g42 gi43 g44 g45), (aIc cI g35 8 G35)]) A) [.ref g, .int du].toArray s 0 0 A) (F0 m 7 ls []) := by
    intro zz
    induction zz with
    | zero => intro i7 h3_7 _ _; exact fun h => absurd h (Nat.not_lt_zero _)
    | succ zz ih7 =>
      intro i7 h3_7 hc4_7 hm6_7 hmu7 H locs ls hP hD hS hl
      refine lv_iload hx hb dX8_heightFor_7 (lv_at hl 0 rfl) ?_
      refine lv_bipush (v := 8) hx hb dX8_heightFor_9 (by decide) ?_
      refine lv_icmp_ge (tgt := 43) hx hb dX8_heightFor_11 (by decide) (fun c1 => ?_) (fun c1 => ?_)
      · skip
        have nc1 : 8 ≤ i7 := (nI_leI (a := 8) (b := i7) (by omega) (by omega)).mp c1
        have J43 : ∀ (zz : Nat) (h2_43 h3_43 : Nat), (h2_43 ≤ h3_43) → (h3_43 ≤ 1000000) → h3_43 - h2_43 < zz → ∀ (H : Heap) (locs : List Loc) (ls : Array Slot), va_P D vwCl [(oX8 g gi0 (nI mn) g2 g3 g4 g5 g6 g7 g8 g9 g10 (nI ml) g12 g13 gi14 g15 g16 g17 gi18 g19 g20 g21 g22 g23 g24 g25 g26 g27 g28 gi29 gi30 (nI mv) gi32 g33 g34 g35 g36 g37 g38 g39 gi40 g41 g42 gi43 g44 g45), (aIc cI g35 8 G35)] H → va_D A [(oX8 g gi0 (nI mn) g2 g3 g4 g5 g6 g7 g8 g9 g10 (nI ml) g12 g13 gi14 g15 g16 g17 gi18 g19 g20 g21 g22 g23 g24 g25 g26 g27 g28 gi29 gi30 (nI mv) gi32 g33 g34 g35 g36 g37 g38 g39 gi40 g41 g42 gi43 g44 g45), (aIc cI g35 8 G35)] → va_S A s.heap H locs → lv_has ls 5 [(3, .int (nI h3_43)), (2, .int (nI h2_43)), (0, .ref g), (1, .int du)] → W p l e { frames := 2, cells := 0, slots := 0, locals := 45 } s m [.ref g, .int du].toArray below meth c H locs 0 0 (MQ below (cQi D (fun r u => ∃ (h1 : Nat), (h1 ≤ 1000000) ∧ r = (nI h1) ∧ u = [(oX8 g gi0 (nI mn) g2 g3 g4 g5 g6 g7 g8 g9 g10 (nI ml) g12 g13 gi14 g15 g16 g17 gi18 g19 g20 g21 g22 g23 g24 g25 g26 g27 g28 gi29 gi30 (nI mv) gi32 g33 g34 g35 g36 g37 g38 g39 gi40 g41 g42 gi43 g44 g45), (aIc cI g35 8 G35)]) A) [.ref g, .int du].toArray s 0 0 A) (F0 m 43 ls []) := by
          intro zz
          induction zz with
          | zero => intro h2_43 h3_43 _ _; exact fun h => absurd h (Nat.not_lt_zero _)
          | succ zz ih43 =>
            intro h2_43 h3_43 hlo_43 hhi_43 hmu43 H locs ls hP hD hS hl
            refine lv_iload_n hx hb dX8_heightFor_43 rfl (lv_at hl 1 rfl) ?_
            refine lv_iload_n hx hb dX8_heightFor_44 rfl (lv_at hl 0 rfl) ?_
            refine lv_icmp_ge (tgt := 83) hx hb dX8_heightFor_45 (by decide) (fun c2 => ?_) (fun c2 => ?_)
            · skip
              have nc2 : h3_43 ≤ h2_43 := (nI_leI (a := h3_43) (b := h2_43) (by omega) (by omega)).mp c2
              refine lv_iload_n hx hb dX8_heightFor_83 rfl (lv_at hl 1 rfl) ?_
              refine k_iret (u := [(oX8 g gi0 (nI mn) g2 g3 g4 g5 g6 g7 g8 g9 g10 (nI ml) g12 g13 gi14 g15 g16 g17 gi18 g19 g20 g21 g22 g23 g24 g25 g26 g27 g28 gi29 gi30 (nI mv) gi32 g33 g34 g35 g36 g37 g38 g39 gi40 g41 g42 gi43 g44 g45), (aIc cI g35 8 G35)]) hx hb hr hlk hP hD hS dX8_heightFor_84 ?_
              exact ⟨h2_43, (by omega), rfl, rfl⟩
            · skip
              have nc2 : ¬ h3_43 ≤ h2_43 := fun q9 => c2 ((nI_leI (a := h3_43) (b := h2_43) (by omega) (by omega)).mpr q9)
              refine lv_iload_n hx hb dX8_heightFor_48 rfl (lv_at hl 1 rfl) ?_
              refine lv_iload_n hx hb dX8_heightFor_49 rfl (lv_at hl 0 rfl) ?_
              refine lv_iadd hx hb dX8_heightFor_50 ?_
              refine lv_topi (fun v3 ev3 => ?_)
              obtain rfl : v3 = (nI (h2_43 + h3_43)) := by rw [ev3]; exact nI_add h2_43 h3_43
              refine lv_iconst (v := 1) hx hb dX8_heightFor_51 (by decide) ?_
              refine lv_iadd hx hb dX8_heightFor_52 ?_
              refine lv_topi (fun v4 ev4 => ?_)
              obtain rfl : v4 = (nI ((h2_43 + h3_43) + 1)) := by rw [ev4]; exact nI_add (h2_43 + h3_43) 1
              refine lv_iconst (v := 2) hx hb dX8_heightFor_53 (by decide) ?_
              refine lv_idiv hx hb dX8_heightFor_54 (by decide) ?_
              refine lv_topi (fun v5 ev5 => ?_)
              obtain ⟨at0, eat⟩ : ∃ z : Nat, z = (h2_43 + h3_43 + 1) / 2 := ⟨_, rfl⟩
              obtain rfl : v5 = nI at0 := by rw [ev5, eat]; exact pk_div (by omega) (by decide) (by decide)
              refine lv_istore (lv' := [(4, .int (nI at0)), (3, .int (nI h3_43)), (2, .int (nI h2_43)), (0, .ref g), (1, .int du)]) hx hb dX8_heightFor_55 hl (by decide) rfl (fun ls hl => ?_)
              refine lv_aload_n hx hb dX8_heightFor_57 rfl (lv_at hl 3 rfl) ?_
              refine lv_iload hx hb dX8_heightFor_58 (lv_at hl 0 rfl) ?_
              refine k_lS (va_runV (As := [.int (nI at0)]) (rest := []) ⟨hx, hb, hml, hown, hts⟩ (k_X8_byHeight l D cI cJ H.size g g2 g3 g4 g5 g6 g7 g8 g9 g10 g12 g13 g15 g16 g17 g19 g20 g21 g22 g23 g24 g25 g26 g27 g28 g33 g34 g35 g36 g37 g38 g39 g41 g42 g44 g45 mn ml mv gi0 gi14 gi18 gi29 gi30 gi32 gi40 gi43 (nI at0) G35) (cwV 1 hts gX8_heightFor_X8_byHeight rfl rfl rfl (by decide +kernel) ⟨Nat.le_of_ble_eq_true rfl, Nat.le_of_ble_eq_true rfl⟩) (k_preV hE hP hD [0, 1] (by decide +kernel) rfl 0 rfl rfl) rfl rfl hl.1 rfl (lv_room (Nat.le_of_ble_eq_true rfl)) dX8_heightFor_60 ⟨Nat.le_of_ble_eq_true rfl, Nat.le_of_ble_eq_true rfl⟩) hP hD hS hA [0, 1] rfl (fun _ _ h9 => h9) (fun r6 H locs hw7 hP hD hS => ?_)
              refine lv_iload_n hx hb dX8_heightFor_63 rfl (lv_at hl 4 rfl) ?_
              refine lv_i2l hx hb dX8_heightFor_64 rfl ?_
              refine k_lcmp_gt (tgt := 75) hx hb dX8_heightFor_65 dX8_heightFor_66 (by decide) (fun c8 => ?_) (fun c8 => ?_)
              · skip
                refine lv_iload hx hb dX8_heightFor_75 (lv_at hl 0 rfl) ?_
                refine lv_iconst (v := 1) hx hb dX8_heightFor_77 (by decide) ?_
                refine lv_isub hx hb dX8_heightFor_78 ?_
                refine lv_topi (fun v9 ev9 => ?_)
                obtain rfl : v9 = nI (at0 - 1) := by rw [ev9]; exact pk_sub (a := at0) (b := 1) (by omega)
                refine lv_istore_n (lv' := [(3, .int (nI (at0 - 1))), (4, .int (nI at0)), (2, .int (nI h2_43)), (0, .ref g), (1, .int du)]) hx hb dX8_heightFor_79 rfl hl (by decide) rfl (fun ls hl => ?_)
                refine lv_goto (tgt := 43) hx hb dX8_heightFor_80 (by decide) ?_
                exact ih43 h2_43 (at0 - 1) (by omega) (by omega) (by omega) _ _ _ hP hD hS (lv_sub hl [0, 2, 3, 4] rfl)
              · skip
                refine lv_iload hx hb dX8_heightFor_69 (lv_at hl 0 rfl) ?_
                refine lv_istore_n (lv' := [(2, .int (nI at0)), (4, .int (nI at0)), (3, .int (nI h3_43)), (0, .ref g), (1, .int du)]) hx hb dX8_heightFor_71 rfl hl (by decide) rfl (fun ls hl => ?_)
                refine lv_goto (tgt := 80) hx hb dX8_heightFor_72 (by decide) ?_
                refine lv_goto (tgt := 43) hx hb dX8_heightFor_80 (by decide) ?_
                exact ih43 at0 h3_43 (by omega) hhi_43 (by omega) _ _ _ hP hD hS (lv_sub hl [2, 0, 3, 4] rfl)
        exact J43 _ 0 h3_7 (by omega) hm6_7 (Nat.lt_succ_self _) _ _ _ hP hD hS (lv_sub hl [1, 2, 3, 4] rfl)
      · skip
        have nc1 : ¬ 8 ≤ i7 := fun q9 => c1 ((nI_leI (a := 8) (b := i7) (by omega) (by omega)).mpr q9)
        refine lv_aload_n hx hb dX8_heightFor_14 rfl (lv_at hl 3 rfl) ?_
        refine va_get (D := D) (ci := 8) (v := .ref g35) (C := RX8) (T := TX8) (N := 46) hx hb hts hiX8 hown hE.1 hP 0 rfl rfl 35 (by decide) (hts _ (List.mem_cons_of_mem _ wd_142)) (fun _ h9 => h9) rfl dX8_heightFor_15 ?_
        refine lv_iload hx hb dX8_heightFor_18 (lv_at hl 0 rfl) ?_
        refine va_iald hx hb hE.1 hP 1 0 rfl rfl (vp_in_nI (n := i7) (by omega) (by decide)) dX8_heightFor_20 ?_
        refine lv_topi (fun v10 ev10 => ?_)
        refine lv_iload_n hx hb dX8_heightFor_21 rfl (lv_at hl 1 rfl) ?_
        refine lv_icmp_le (tgt := 35) hx hb dX8_heightFor_22 (by decide) (fun c11 => ?_) (fun c11 => ?_)
        · skip
          refine lv_iload_n hx hb dX8_heightFor_35 rfl (lv_at hl 1 rfl) ?_
          refine lv_istore_n (lv' := [(3, .int (nI h3_7)), (4, .int (nI i7)), (2, .int 0), (0, .ref g), (1, .int du)]) hx hb dX8_heightFor_36 rfl hl (by decide) rfl (fun ls hl => ?_)
          refine lv_iinc (v := (nI (i7 + 1))) (lv' := [(4, .int (nI (i7 + 1))), (3, .int (nI h3_7)), (2, .int 0), (0, .ref g), (1, .int du)]) hx hb dX8_heightFor_37 hl (k := 1) rfl (nI_1 _) (by decide) rfl (fun ls hl => ?_)
          refine lv_goto (tgt := 7) hx hb dX8_heightFor_40 (by decide) ?_
          exact ih7 (i7 + 1) h3_7 (by omega) hm6_7 (by omega) _ _ _ hP hD hS (lv_sub hl [0, 1, 2, 3, 4] rfl)
        · skip
          refine lv_aload_n hx hb dX8_heightFor_25 rfl (lv_at hl 3 rfl) ?_
          refine va_get (D := D) (ci := 8) (v := .ref g35) (C := RX8) (T := TX8) (N := 46) hx hb hts hiX8 hown hE.1 hP 0 rfl rfl 35 (by decide) (hts _ (List.mem_cons_of_mem _ wd_142)) (fun _ h9 => h9) rfl dX8_heightFor_26 ?_
          refine lv_iload hx hb dX8_heightFor_29 (lv_at hl 0 rfl) ?_
          refine va_iald hx hb hE.1 hP 1 0 rfl rfl (vp_in_nI (n := i7) (by omega) (by decide)) dX8_heightFor_31 ?_
          refine lv_topi (fun v12 ev12 => ?_)
          obtain ⟨n13, hn13, rfl⟩ := wk_cap hci (by omega) (by omega) ev10 ev12 c11
          refine lv_goto (tgt := 36) hx hb dX8_heightFor_32 (by decide) ?_
          refine lv_istore_n (lv' := [(3, .int (nI n13)), (4, .int (nI i7)), (2, .int 0), (0, .ref g), (1, .int du)]) hx hb dX8_heightFor_36 rfl hl (by decide) rfl (fun ls hl => ?_)
          refine lv_iinc (v := (nI (i7 + 1))) (lv' := [(4, .int (nI (i7 + 1))), (3, .int (nI n13)), (2, .int 0), (0, .ref g), (1, .int du)]) hx hb dX8_heightFor_37 hl (k := 1) rfl (nI_1 _) (by decide) rfl (fun ls hl => ?_)
          refine lv_goto (tgt := 7) hx hb dX8_heightFor_40 (by decide) ?_
          exact ih7 (i7 + 1) n13 (by omega) (by omega) (by omega) _ _ _ hP hD hS (lv_sub hl [0, 1, 2, 3, 4] rfl)
  exact J7 _ 0 0 (by omega) (by omega) (Nat.lt_succ_self _) _ _ _ hP hD hS (lv_sub hl [0, 1, 2, 3, 4] rfl)
set_option maxHeartbeats 4000000 in
set_option maxRecDepth 100000 in
theorem k_X8_bySteps (l : Launch) (D : va_G) (cI cJ : ClassId) (sz : Nat) (g g2 g3 g4 g5 g6 g7 g8 g9 g10 g12 g13 g15 g16 g17 g19 g20 g21 g22 g23 g24 g25 g26 g27 g28 g33 g34 g35 g36 g37 g38 g39 g41 g42 g44 g45 mn ml mv : Nat) (gi0 gi14 gi18 gi29 gi30 gi32 gi40 gi43 du : Int32) (G35 G36 : Nat → Int32) (hci : ∀ k, k < 8 → -1000000 ≤ (G35 k).toInt ∧ (G35 k).toInt ≤ 1000000) : Met l yX8_bySteps wtX8_bySteps { frames := 3, cells := 0, slots := 0, locals := 69 } (cPc D cI cJ [.ref g, .int du] sz [(oX8 g gi0 (nI mn) g2 g3 g4 g5 g6 g7 g8 g9 g10 (nI ml) g12 g13 gi14 g15 g16 g17 gi18 g19 g20 g21 g22 g23 g24 g25 g26 g27 g28 gi29 gi30 (nI mv) gi32 g33 g34 g35 g36 g37 g38 g39 gi40 g41 g42 gi43 g44 g45), (aIc cI g35 8 G35), (aIc cI g36 8 G36)]) (cQv D (fun u => ∃ (G36p : Nat → Int32), u = [(oX8 g gi0 (nI mn) g2 g3 g4 g5 g6 g7 g8 g9 g10 (nI ml) g12 g13 gi14 g15 g16 g17 gi18 g19 g20 g21 g22 g23 g24 g25 g26 g27 g28 gi29 gi30 (nI mv) gi32 g33 g34 g35 g36 g37 g38 g39 gi40 g41 g42 gi43 g44 g45), (aIc cI g35 8 G35), (aIc cI g36 8 G36p)]) (va_A [(oX8 g gi0 (nI mn) g2 g3 g4 g5 g6 g7 g8 g9 g10 (nI ml) g12 g13 gi14 g15 g16 g17 gi18 g19 g20 g21 g22 g23 g24 g25 g26 g27 g28 gi29 gi30 (nI mv) gi32 g33 g34 g35 g36 g37 g38 g39 gi40 g41 g42 gi43 g44 g45), (aIc cI g35 8 G35), (aIc cI g36 8 G36)] sz)) 0 0 (va_A [(oX8 g gi0 (nI mn) g2 g3 g4 g5 g6 g7 g8 g9 g10 (nI ml) g12 g13 gi14 g15 g16 g17 gi18 g19 g20 g21 g22 g23 g24 g25 g26 g27 g28 gi29 gi30 (nI mv) gi32 g33 g34 g35 g36 g37 g38 g39 gi40 g41 g42 gi43 g44 g45), (aIc cI g35 8 G35), (aIc cI g36 8 G36)] sz) := by
  refine k_ofW (Qc := cQv D (fun u => ∃ (G36p : Nat → Int32), u = [(oX8 g gi0 (nI mn) g2 g3 g4 g5 g6 g7 g8 g9 g10 (nI ml) g12 g13 gi14 g15 g16 g17 gi18 g19 g20 g21 g22 g23 g24 g25 g26 g27 g28 gi29 gi30 (nI mv) gi32 g33 g34 g35 g36 g37 g38 g39 gi40 g41 g42 gi43 g44 g45), (aIc cI g35 8 G35), (aIc cI g36 8 G36p)])) (by decide) rfl (Nat.le_of_ble_eq_true rfl) ?_
  intro p e s m below meth c A ls hx hb hr hml hts hown hlk hnm hsz hE hP hD hS hA hl
  have hown : s.vm.findClass RX8 = some m.cls := hown
  have hiX8 : ∀ w ∈ u_ws RX8 TX8 46, w ∈ wtX8_bySteps := fun w h => List.mem_cons_of_mem _ (iuX8 w h)
  have hl : lv_has ls 6 [(0, .ref g), (1, .int du)] := hl
  refine lv_aload_n hx hb dX8_bySteps_0 rfl (lv_at hl 0 rfl) ?_
  refine lv_iload_n hx hb dX8_bySteps_1 rfl (lv_at hl 1 rfl) ?_
  refine k_iS (va_runV (As := [.int du]) (rest := []) ⟨hx, hb, hml, hown, hts⟩ (k_X8_heightFor l D cI cJ (s.heap).size g g2 g3 g4 g5 g6 g7 g8 g9 g10 g12 g13 g15 g16 g17 g19 g20 g21 g22 g23 g24 g25 g26 g27 g28 g33 g34 g35 g36 g37 g38 g39 g41 g42 g44 g45 mn ml mv gi0 gi14 gi18 gi29 gi30 gi32 gi40 gi43 du G35 hci) (cwV 1 hts gX8_bySteps_X8_heightFor rfl rfl rfl (by decide +kernel) ⟨Nat.le_of_ble_eq_true rfl, Nat.le_of_ble_eq_true rfl⟩) (k_preV hE hP hD [0, 1] (by decide +kernel) rfl 0 rfl rfl) rfl rfl hl.1 rfl (lv_room (Nat.le_of_ble_eq_true rfl)) dX8_bySteps_2 ⟨Nat.le_of_ble_eq_true rfl, Nat.le_of_ble_eq_true rfl⟩) hP hD hS hA [0, 1] rfl (fun _ _ ⟨_, _, _, h9⟩ => h9) (fun r1 H locs hw2 hP hD hS => ?_)
  obtain ⟨z3, hz4, rfl, -⟩ := hw2
  refine lv_istore_n (lv' := [(2, .int (nI z3)), (0, .ref g), (1, .int du)]) hx hb dX8_bySteps_5 rfl hl (by decide) rfl (fun ls hl => ?_)
  refine lv_iload_n hx hb dX8_bySteps_6 rfl (lv_at hl 2 rfl) ?_
  refine lv_aload_n hx hb dX8_bySteps_7 rfl (lv_at hl 1 rfl) ?_
  refine lv_iload_n hx hb dX8_bySteps_8 rfl (lv_at hl 0 rfl) ?_
  refine k_lS (va_runV (As := [.int (nI z3)]) (rest := [.int du]) ⟨hx, hb, hml, hown, hts⟩ (k_X8_byHeight l D cI cJ H.size g g2 g3 g4 g5 g6 g7 g8 g9 g10 g12 g13 g15 g16 g17 g19 g20 g21 g22 g23 g24 g25 g26 g27 g28 g33 g34 g35 g36 g37 g38 g39 g41 g42 g44 g45 mn ml mv gi0 gi14 gi18 gi29 gi30 gi32 gi40 gi43 (nI z3) G35) (cwV 1 hts gX8_bySteps_X8_byHeight rfl rfl rfl (by decide +kernel) ⟨Nat.le_of_ble_eq_true rfl, Nat.le_of_ble_eq_true rfl⟩) (k_preV hE hP hD [0, 1] (by decide +kernel) rfl 0 rfl rfl) rfl rfl hl.1 rfl (lv_room (Nat.le_of_ble_eq_true rfl)) dX8_bySteps_9 ⟨Nat.le_of_ble_eq_true rfl, Nat.le_of_ble_eq_true rfl⟩) hP hD hS hA [0, 1] rfl (fun _ _ h9 => h9) (fun r5 H locs hw6 hP hD hS => ?_)
  refine lv_l2i hx hb dX8_bySteps_12 rfl ?_
  refine lv_topi (fun v7 ev7 => ?_)
  refine lv_isub hx hb dX8_bySteps_13 ?_
  refine lv_topi (fun v8 ev8 => ?_)
  refine lv_istore_n (lv' := [(3, .int v8), (2, .int (nI z3)), (0, .ref g), (1, .int du)]) hx hb dX8_bySteps_14 rfl hl (by decide) rfl (fun ls hl => ?_)
  refine lv_iconst (v := 0) hx hb dX8_bySteps_15 (by decide) ?_
  refine lv_istore (lv' := [(4, .int 0), (3, .int v8), (2, .int (nI z3)), (0, .ref g), (1, .int du)]) hx hb dX8_bySteps_16 hl (by decide) rfl (fun ls hl => ?_)
  have J18 : ∀ (zz : Nat) (i18 : Nat) (h3_18 : Int32) (a_g36_18 : Nat → Int32), (i18 ≤ 8) → (8 - i18) < zz → ∀ (H : Heap) (locs : List Loc) (ls : Array Slot), va_P D vwCl [(oX8 g gi0 (nI mn) g2 g3 g4 g5 g6 g7 g8 g9 g10 (nI ml) g12 g13 gi14 g15 g16 g17 gi18 g19 g20 g21 g22 g23 g24 g25 g26 g27 g28 gi29 gi30 (nI mv) gi32 g33 g34 g35 g36 g37 g38 g39 gi40 g41 g42 gi43 g44 g45), (aIc cI g35 8 G35), (aIc cI g36 8 a_g36_18)] H → va_D A [(oX8 g gi0 (nI mn) g2 g3 g4 g5 g6 g7 g8 g9 g10 (nI ml) g12 g13 gi14 g15 g16 g17 gi18 g19 g20 g21 g22 g23 g24 g25 g26 g27 g28 gi29 gi30 (nI mv) gi32 g33 g34 g35 g36 g37 g38 g39 gi40 g41 g42 gi43 g44 g45), (aIc cI g35 8 G35), (aIc cI g36 8 a_g36_18)] → va_S A s.heap H locs → lv_has ls 6 [(4, .int (nI i18)), (3, .int h3_18), (2, .int (nI z3)), (0, .ref g), (1, .int du)] → W p l e { frames := 3, cells := 0, slots := 0, locals := 69 } s m [.ref g, .int du].toArray below meth c H locs 0 0 (MQ below (cQv D (fun u => ∃ (G36p : Nat → Int32), u = [(oX8 g gi0 (nI mn) g2 g3 g4 g5 g6 g7 g8 g9 g10 (nI ml) g12 g13 gi14 g15 g16 g17 gi18 g19 g20 g21 g22 g23 g24 g25 g26 g27 g28 gi29 gi30 (nI mv) gi32 g33 g34 g35 g36 g37 g38 g39 gi40 g41 g42 gi43 g44 g45), (aIc cI g35 8 G35), (aIc cI g36 8 G36p)]) A) [.ref g, .int du].toArray s 0 0 A) (F0 m 18 ls []) := by
    intro zz
    induction zz with
    | zero => intro i18 h3_18 a_g36_18 _; exact fun h => absurd h (Nat.not_lt_zero _)
    | succ zz ih18 =>
      intro i18 h3_18 a_g36_18 hc4_18 hmu18 H locs ls hP hD hS hl
      refine lv_iload hx hb dX8_bySteps_18 (lv_at hl 0 rfl) ?_
      refine lv_bipush (v := 8) hx hb dX8_bySteps_20 (by decide) ?_
      refine lv_icmp_ge (tgt := 95) hx hb dX8_bySteps_22 (by decide) (fun c9 => ?_) (fun c9 => ?_)
      · skip
        have nc9 : 8 ≤ i18 := (nI_leI (a := 8) (b := i18) (by omega) (by omega)).mp c9
        refine k_vret (u := [(oX8 g gi0 (nI mn) g2 g3 g4 g5 g6 g7 g8 g9 g10 (nI ml) g12 g13 gi14 g15 g16 g17 gi18 g19 g20 g21 g22 g23 g24 g25 g26 g27 g28 gi29 gi30 (nI mv) gi32 g33 g34 g35 g36 g37 g38 g39 gi40 g41 g42 gi43 g44 g45), (aIc cI g35 8 G35), (aIc cI g36 8 a_g36_18)]) hx hb hr hlk hP hD hS dX8_bySteps_95 ?_
        exact ⟨a_g36_18, rfl⟩
      · skip
        have nc9 : ¬ 8 ≤ i18 := fun q9 => c9 ((nI_leI (a := 8) (b := i18) (by omega) (by omega)).mpr q9)
        refine lv_aload_n hx hb dX8_bySteps_25 rfl (lv_at hl 3 rfl) ?_
        refine va_get (D := D) (ci := 8) (v := .ref g35) (C := RX8) (T := TX8) (N := 46) hx hb hts hiX8 hown hE.1 hP 0 rfl rfl 35 (by decide) (hts _ (List.mem_cons_of_mem _ wd_142)) (fun _ h9 => h9) rfl dX8_bySteps_26 ?_
        refine lv_iload hx hb dX8_bySteps_29 (lv_at hl 0 rfl) ?_
        refine va_iald hx hb hE.1 hP 1 0 rfl rfl (vp_in_nI (n := i18) (by omega) (by decide)) dX8_bySteps_31 ?_
        refine lv_topi (fun v10 ev10 => ?_)
        refine lv_iload_n hx hb dX8_bySteps_32 rfl (lv_at hl 2 rfl) ?_
        refine lv_icmp_le (tgt := 44) hx hb dX8_bySteps_33 (by decide) (fun c11 => ?_) (fun c11 => ?_)
        · skip
          refine lv_iconst (v := 0) hx hb dX8_bySteps_44 (by decide) ?_
          refine lv_istore (lv' := [(5, .int 0), (4, .int (nI i18)), (3, .int h3_18), (2, .int (nI z3)), (0, .ref g), (1, .int du)]) hx hb dX8_bySteps_45 hl (by decide) rfl (fun ls hl => ?_)
          refine lv_aload_n hx hb dX8_bySteps_47 rfl (lv_at hl 4 rfl) ?_
          refine va_get (D := D) (ci := 8) (v := .ref g36) (C := RX8) (T := TX8) (N := 46) hx hb hts hiX8 hown hE.1 hP 0 rfl rfl 36 (by decide) (hts _ (List.mem_cons_of_mem _ wd_143)) (fun _ h9 => h9) rfl dX8_bySteps_48 ?_
          refine lv_iload hx hb dX8_bySteps_51 (lv_at hl 1 rfl) ?_
          refine lv_aload_n hx hb dX8_bySteps_53 rfl (lv_at hl 4 rfl) ?_
          refine va_get (D := D) (ci := 8) (v := .ref g35) (C := RX8) (T := TX8) (N := 46) hx hb hts hiX8 hown hE.1 hP 0 rfl rfl 35 (by decide) (hts _ (List.mem_cons_of_mem _ wd_142)) (fun _ h9 => h9) rfl dX8_bySteps_54 ?_
          refine lv_iload hx hb dX8_bySteps_57 (lv_at hl 1 rfl) ?_
          refine va_iald hx hb hE.1 hP 1 0 rfl rfl (vp_in_nI (n := i18) (by omega) (by decide)) dX8_bySteps_59 ?_
          refine lv_topi (fun v12 ev12 => ?_)
          refine lv_iload_n hx hb dX8_bySteps_60 rfl (lv_at hl 3 rfl) ?_
          refine k_iS (va_runS (As := [.int v12, .int (nI z3)]) (rest := [.int (nI i18), .ref g36]) ⟨hx, hb, hml, hown, hts⟩ (k_X8_least l D cI cJ H.size v12 (nI z3)) (va_cwS 2 hts gX8_bySteps_X8_least rfl rfl rfl (by decide +kernel) ⟨Nat.le_of_ble_eq_true rfl, Nat.le_of_ble_eq_true rfl⟩) (k_pre hE hP hD [] (by decide +kernel) rfl) rfl rfl hl.1 rfl (lv_room (Nat.le_of_ble_eq_true rfl)) dX8_bySteps_61 ⟨Nat.le_of_ble_eq_true rfl, Nat.le_of_ble_eq_true rfl⟩) hP hD hS hA [] rfl (fun _ _ h9 => h9) (fun r13 H locs hw14 hP hD hS => ?_)
          refine lv_iload hx hb dX8_bySteps_64 (lv_at hl 0 rfl) ?_
          refine lv_if_eq (tgt := 73) hx hb dX8_bySteps_66 (by decide) (fun _ => ?_) (fun c15 => absurd (by decide) c15)
          refine lv_iconst (v := 0) hx hb dX8_bySteps_73 (by decide) ?_
          refine lv_iadd hx hb dX8_bySteps_74 ?_
          refine lv_topi (fun v16 ev16 => ?_)
          refine va_iast hx hb hE.1 hP hD hS 2 0 rfl rfl (vp_in_nI (n := i18) (by omega) (by decide)) dX8_bySteps_75 (fun H locs hP hD hS => ?_)
          refine k_re (w := [(oX8 g gi0 (nI mn) g2 g3 g4 g5 g6 g7 g8 g9 g10 (nI ml) g12 g13 gi14 g15 g16 g17 gi18 g19 g20 g21 g22 g23 g24 g25 g26 g27 g28 gi29 gi30 (nI mv) gi32 g33 g34 g35 g36 g37 g38 g39 gi40 g41 g42 gi43 g44 g45), (aIc cI g35 8 G35), (aIc cI g36 8 (upd a_g36_18 (Int32.toNatClampNeg (nI i18)) v16))]) hP hD (fun hP hD => ?_)
          refine lv_iload_n hx hb dX8_bySteps_76 rfl (lv_at hl 2 rfl) ?_
          refine lv_iload hx hb dX8_bySteps_77 (lv_at hl 0 rfl) ?_
          refine lv_if_eq (tgt := 86) hx hb dX8_bySteps_79 (by decide) (fun _ => ?_) (fun c17 => absurd (by decide) c17)
          refine lv_iconst (v := 0) hx hb dX8_bySteps_86 (by decide) ?_
          refine lv_isub hx hb dX8_bySteps_87 ?_
          refine lv_topi (fun v18 ev18 => ?_)
          refine lv_istore_n (lv' := [(3, .int v18), (5, .int 0), (4, .int (nI i18)), (2, .int (nI z3)), (0, .ref g), (1, .int du)]) hx hb dX8_bySteps_88 rfl hl (by decide) rfl (fun ls hl => ?_)
          refine lv_iinc (v := (nI (i18 + 1))) (lv' := [(4, .int (nI (i18 + 1))), (3, .int v18), (5, .int 0), (2, .int (nI z3)), (0, .ref g), (1, .int du)]) hx hb dX8_bySteps_89 hl (k := 2) rfl (nI_1 _) (by decide) rfl (fun ls hl => ?_)
          refine lv_goto (tgt := 18) hx hb dX8_bySteps_92 (by decide) ?_
          exact ih18 (i18 + 1) v18 (upd a_g36_18 (Int32.toNatClampNeg (nI i18)) v16) (by omega) (by omega) _ _ _ hP hD hS (lv_sub hl [0, 1, 3, 4, 5] rfl)
        · skip
          refine lv_iload_n hx hb dX8_bySteps_36 rfl (lv_at hl 1 rfl) ?_
          refine lv_if_le (tgt := 44) hx hb dX8_bySteps_37 (by decide) (fun c19 => ?_) (fun c19 => ?_)
          · skip
            refine lv_iconst (v := 0) hx hb dX8_bySteps_44 (by decide) ?_
            refine lv_istore (lv' := [(5, .int 0), (4, .int (nI i18)), (3, .int h3_18), (2, .int (nI z3)), (0, .ref g), (1, .int du)]) hx hb dX8_bySteps_45 hl (by decide) rfl (fun ls hl => ?_)
            refine lv_aload_n hx hb dX8_bySteps_47 rfl (lv_at hl 4 rfl) ?_
            refine va_get (D := D) (ci := 8) (v := .ref g36) (C := RX8) (T := TX8) (N := 46) hx hb hts hiX8 hown hE.1 hP 0 rfl rfl 36 (by decide) (hts _ (List.mem_cons_of_mem _ wd_143)) (fun _ h9 => h9) rfl dX8_bySteps_48 ?_
            refine lv_iload hx hb dX8_bySteps_51 (lv_at hl 1 rfl) ?_
            refine lv_aload_n hx hb dX8_bySteps_53 rfl (lv_at hl 4 rfl) ?_
            refine va_get (D := D) (ci := 8) (v := .ref g35) (C := RX8) (T := TX8) (N := 46) hx hb hts hiX8 hown hE.1 hP 0 rfl rfl 35 (by decide) (hts _ (List.mem_cons_of_mem _ wd_142)) (fun _ h9 => h9) rfl dX8_bySteps_54 ?_
            refine lv_iload hx hb dX8_bySteps_57 (lv_at hl 1 rfl) ?_
            refine va_iald hx hb hE.1 hP 1 0 rfl rfl (vp_in_nI (n := i18) (by omega) (by decide)) dX8_bySteps_59 ?_
            refine lv_topi (fun v20 ev20 => ?_)
            refine lv_iload_n hx hb dX8_bySteps_60 rfl (lv_at hl 3 rfl) ?_
            refine k_iS (va_runS (As := [.int v20, .int (nI z3)]) (rest := [.int (nI i18), .ref g36]) ⟨hx, hb, hml, hown, hts⟩ (k_X8_least l D cI cJ H.size v20 (nI z3)) (va_cwS 2 hts gX8_bySteps_X8_least rfl rfl rfl (by decide +kernel) ⟨Nat.le_of_ble_eq_true rfl, Nat.le_of_ble_eq_true rfl⟩) (k_pre hE hP hD [] (by decide +kernel) rfl) rfl rfl hl.1 rfl (lv_room (Nat.le_of_ble_eq_true rfl)) dX8_bySteps_61 ⟨Nat.le_of_ble_eq_true rfl, Nat.le_of_ble_eq_true rfl⟩) hP hD hS hA [] rfl (fun _ _ h9 => h9) (fun r21 H locs hw22 hP hD hS => ?_)
            refine lv_iload hx hb dX8_bySteps_64 (lv_at hl 0 rfl) ?_
            refine lv_if_eq (tgt := 73) hx hb dX8_bySteps_66 (by decide) (fun _ => ?_) (fun c23 => absurd (by decide) c23)
            refine lv_iconst (v := 0) hx hb dX8_bySteps_73 (by decide) ?_
            refine lv_iadd hx hb dX8_bySteps_74 ?_
            refine lv_topi (fun v24 ev24 => ?_)
            refine va_iast hx hb hE.1 hP hD hS 2 0 rfl rfl (vp_in_nI (n := i18) (by omega) (by decide)) dX8_bySteps_75 (fun H locs hP hD hS => ?_)
            refine k_re (w := [(oX8 g gi0 (nI mn) g2 g3 g4 g5 g6 g7 g8 g9 g10 (nI ml) g12 g13 gi14 g15 g16 g17 gi18 g19 g20 g21 g22 g23 g24 g25 g26 g27 g28 gi29 gi30 (nI mv) gi32 g33 g34 g35 g36 g37 g38 g39 gi40 g41 g42 gi43 g44 g45), (aIc cI g35 8 G35), (aIc cI g36 8 (upd a_g36_18 (Int32.toNatClampNeg (nI i18)) v24))]) hP hD (fun hP hD => ?_)
            refine lv_iload_n hx hb dX8_bySteps_76 rfl (lv_at hl 2 rfl) ?_
            refine lv_iload hx hb dX8_bySteps_77 (lv_at hl 0 rfl) ?_
            refine lv_if_eq (tgt := 86) hx hb dX8_bySteps_79 (by decide) (fun _ => ?_) (fun c25 => absurd (by decide) c25)
            refine lv_iconst (v := 0) hx hb dX8_bySteps_86 (by decide) ?_
            refine lv_isub hx hb dX8_bySteps_87 ?_
            refine lv_topi (fun v26 ev26 => ?_)
            refine lv_istore_n (lv' := [(3, .int v26), (5, .int 0), (4, .int (nI i18)), (2, .int (nI z3)), (0, .ref g), (1, .int du)]) hx hb dX8_bySteps_88 rfl hl (by decide) rfl (fun ls hl => ?_)
            refine lv_iinc (v := (nI (i18 + 1))) (lv' := [(4, .int (nI (i18 + 1))), (3, .int v26), (5, .int 0), (2, .int (nI z3)), (0, .ref g), (1, .int du)]) hx hb dX8_bySteps_89 hl (k := 2) rfl (nI_1 _) (by decide) rfl (fun ls hl => ?_)
            refine lv_goto (tgt := 18) hx hb dX8_bySteps_92 (by decide) ?_
            exact ih18 (i18 + 1) v26 (upd a_g36_18 (Int32.toNatClampNeg (nI i18)) v24) (by omega) (by omega) _ _ _ hP hD hS (lv_sub hl [0, 1, 3, 4, 5] rfl)
          · skip
            refine lv_iconst (v := 1) hx hb dX8_bySteps_40 (by decide) ?_
            refine lv_goto (tgt := 45) hx hb dX8_bySteps_41 (by decide) ?_
            refine lv_istore (lv' := [(5, .int 1), (4, .int (nI i18)), (3, .int h3_18), (2, .int (nI z3)), (0, .ref g), (1, .int du)]) hx hb dX8_bySteps_45 hl (by decide) rfl (fun ls hl => ?_)
            refine lv_aload_n hx hb dX8_bySteps_47 rfl (lv_at hl 4 rfl) ?_
            refine va_get (D := D) (ci := 8) (v := .ref g36) (C := RX8) (T := TX8) (N := 46) hx hb hts hiX8 hown hE.1 hP 0 rfl rfl 36 (by decide) (hts _ (List.mem_cons_of_mem _ wd_143)) (fun _ h9 => h9) rfl dX8_bySteps_48 ?_
            refine lv_iload hx hb dX8_bySteps_51 (lv_at hl 1 rfl) ?_
            refine lv_aload_n hx hb dX8_bySteps_53 rfl (lv_at hl 4 rfl) ?_
            refine va_get (D := D) (ci := 8) (v := .ref g35) (C := RX8) (T := TX8) (N := 46) hx hb hts hiX8 hown hE.1 hP 0 rfl rfl 35 (by decide) (hts _ (List.mem_cons_of_mem _ wd_142)) (fun _ h9 => h9) rfl dX8_bySteps_54 ?_
            refine lv_iload hx hb dX8_bySteps_57 (lv_at hl 1 rfl) ?_
            refine va_iald hx hb hE.1 hP 1 0 rfl rfl (vp_in_nI (n := i18) (by omega) (by decide)) dX8_bySteps_59 ?_
            refine lv_topi (fun v27 ev27 => ?_)
            refine lv_iload_n hx hb dX8_bySteps_60 rfl (lv_at hl 3 rfl) ?_
            refine k_iS (va_runS (As := [.int v27, .int (nI z3)]) (rest := [.int (nI i18), .ref g36]) ⟨hx, hb, hml, hown, hts⟩ (k_X8_least l D cI cJ H.size v27 (nI z3)) (va_cwS 2 hts gX8_bySteps_X8_least rfl rfl rfl (by decide +kernel) ⟨Nat.le_of_ble_eq_true rfl, Nat.le_of_ble_eq_true rfl⟩) (k_pre hE hP hD [] (by decide +kernel) rfl) rfl rfl hl.1 rfl (lv_room (Nat.le_of_ble_eq_true rfl)) dX8_bySteps_61 ⟨Nat.le_of_ble_eq_true rfl, Nat.le_of_ble_eq_true rfl⟩) hP hD hS hA [] rfl (fun _ _ h9 => h9) (fun r28 H locs hw29 hP hD hS => ?_)
            refine lv_iload hx hb dX8_bySteps_64 (lv_at hl 0 rfl) ?_
            refine lv_if_eq (tgt := 73) hx hb dX8_bySteps_66 (by decide) (fun c30 => absurd c30 (by decide)) (fun _ => ?_)
            refine lv_iconst (v := 1) hx hb dX8_bySteps_69 (by decide) ?_
            refine lv_goto (tgt := 74) hx hb dX8_bySteps_70 (by decide) ?_
            refine lv_iadd hx hb dX8_bySteps_74 ?_
            refine lv_topi (fun v31 ev31 => ?_)
            refine va_iast hx hb hE.1 hP hD hS 2 0 rfl rfl (vp_in_nI (n := i18) (by omega) (by decide)) dX8_bySteps_75 (fun H locs hP hD hS => ?_)
            refine k_re (w := [(oX8 g gi0 (nI mn) g2 g3 g4 g5 g6 g7 g8 g9 g10 (nI ml) g12 g13 gi14 g15 g16 g17 gi18 g19 g20 g21 g22 g23 g24 g25 g26 g27 g28 gi29 gi30 (nI mv) gi32 g33 g34 g35 g36 g37 g38 g39 gi40 g41 g42 gi43 g44 g45), (aIc cI g35 8 G35), (aIc cI g36 8 (upd a_g36_18 (Int32.toNatClampNeg (nI i18)) v31))]) hP hD (fun hP hD => ?_)
            refine lv_iload_n hx hb dX8_bySteps_76 rfl (lv_at hl 2 rfl) ?_
            refine lv_iload hx hb dX8_bySteps_77 (lv_at hl 0 rfl) ?_
            refine lv_if_eq (tgt := 86) hx hb dX8_bySteps_79 (by decide) (fun c32 => absurd c32 (by decide)) (fun _ => ?_)
            refine lv_iconst (v := 1) hx hb dX8_bySteps_82 (by decide) ?_
            refine lv_goto (tgt := 87) hx hb dX8_bySteps_83 (by decide) ?_
            refine lv_isub hx hb dX8_bySteps_87 ?_
            refine lv_topi (fun v33 ev33 => ?_)
            refine lv_istore_n (lv' := [(3, .int v33), (5, .int 1), (4, .int (nI i18)), (2, .int (nI z3)), (0, .ref g), (1, .int du)]) hx hb dX8_bySteps_88 rfl hl (by decide) rfl (fun ls hl => ?_)
            refine lv_iinc (v := (nI (i18 + 1))) (lv' := [(4, .int (nI (i18 + 1))), (3, .int v33), (5, .int 1), (2, .int (nI z3)), (0, .ref g), (1, .int du)]) hx hb dX8_bySteps_89 hl (k := 2) rfl (nI_1 _) (by decide) rfl (fun ls hl => ?_)
            refine lv_goto (tgt := 18) hx hb dX8_bySteps_92 (by decide) ?_
            exact ih18 (i18 + 1) v33 (upd a_g36_18 (Int32.toNatClampNeg (nI i18)) v31) (by omega) (by omega) _ _ _ hP hD hS (lv_sub hl [0, 1, 3, 4, 5] rfl)
  exact J18 _ 0 v8 G36 (by omega) (Nat.lt_succ_self _) _ _ _ hP hD hS (lv_sub hl [0, 1, 2, 3, 4] rfl)
set_option maxHeartbeats 4000000 in
set_option maxRecDepth 100000 in
theorem k_X8_byCaps (l : Launch) (D : va_G) (cI cJ : ClassId) (sz : Nat) (g g2 g3 g4 g5 g6 g7 g8 g9 g10 g12 g13 g15 g16 g17 g19 g20 g21 g22 g23 g24 g25 g26 g27 g28 g33 g34 g35 g36 g37 g38 g39 g41 g42 g44 g45 mn ml mv : Nat) (gi0 gi14 gi18 gi29 gi30 gi32 gi40 gi43 du : Int32) (su : Int64) (G35 G36 : Nat → Int32) (G37 : Nat → Int64) (hsn : ¬ su = 0) : Met l yX8_byCaps wtX8_byCaps { frames := 0, cells := 0, slots := 0, locals := 0 } (cPc D cI cJ [.ref g, .int du, .long su] sz [(oX8 g gi0 (nI mn) g2 g3 g4 g5 g6 g7 g8 g9 g10 (nI ml) g12 g13 gi14 g15 g16 g17 gi18 g19 g20 g21 g22 g23 g24 g25 g26 g27 g28 gi29 gi30 (nI mv) gi32 g33 g34 g35 g36 g37 g38 g39 gi40 g41 g42 gi43 g44 g45), (aIc cI g35 8 G35), (aIc cI g36 8 G36), (aJc cJ g37 8 G37)]) (cQv D (fun u => ∃ (G36p : Nat → Int32) (G37p : Nat → Int64), u = [(oX8 g gi0 (nI mn) g2 g3 g4 g5 g6 g7 g8 g9 g10 (nI ml) g12 g13 gi14 g15 g16 g17 gi18 g19 g20 g21 g22 g23 g24 g25 g26 g27 g28 gi29 gi30 (nI mv) gi32 g33 g34 g35 g36 g37 g38 g39 gi40 g41 g42 gi43 g44 g45), (aIc cI g35 8 G35), (aIc cI g36 8 G36p), (aJc cJ g37 8 G37p)]) (va_A [(oX8 g gi0 (nI mn) g2 g3 g4 g5 g6 g7 g8 g9 g10 (nI ml) g12 g13 gi14 g15 g16 g17 gi18 g19 g20 g21 g22 g23 g24 g25 g26 g27 g28 gi29 gi30 (nI mv) gi32 g33 g34 g35 g36 g37 g38 g39 gi40 g41 g42 gi43 g44 g45), (aIc cI g35 8 G35), (aIc cI g36 8 G36), (aJc cJ g37 8 G37)] sz)) 0 0 (va_A [(oX8 g gi0 (nI mn) g2 g3 g4 g5 g6 g7 g8 g9 g10 (nI ml) g12 g13 gi14 g15 g16 g17 gi18 g19 g20 g21 g22 g23 g24 g25 g26 g27 g28 gi29 gi30 (nI mv) gi32 g33 g34 g35 g36 g37 g38 g39 gi40 g41 g42 gi43 g44 g45), (aIc cI g35 8 G35), (aIc cI g36 8 G36), (aJc cJ g37 8 G37)] sz) := by
  refine k_ofW (Qc := cQv D (fun u => ∃ (G36p : Nat → Int32) (G37p : Nat → Int64), u = [(oX8 g gi0 (nI mn) g2 g3 g4 g5 g6 g7 g8 g9 g10 (nI ml) g12 g13 gi14 g15 g16 g17 gi18 g19 g20 g21 g22 g23 g24 g25 g26 g27 g28 gi29 gi30 (nI mv) gi32 g33 g34 g35 g36 g37 g38 g39 gi40 g41 g42 gi43 g44 g45), (aIc cI g35 8 G35), (aIc cI g36 8 G36p), (aJc cJ g37 8 G37p)])) (by decide) rfl (Nat.le_of_ble_eq_true rfl) ?_
  intro p e s m below meth c A ls hx hb hr hml hts hown hlk hnm hsz hE hP hD hS hA hl
  have hown : s.vm.findClass RX8 = some m.cls := hown
  have hiX8 : ∀ w ∈ u_ws RX8 TX8 46, w ∈ wtX8_byCaps := fun w h => List.mem_cons_of_mem _ (iuX8 w h)
  have hl : lv_has ls 7 [(0, .ref g), (1, .int du), (2, .long su)] := hl
  refine lv_iload_n hx hb dX8_byCaps_0 rfl (lv_at hl 1 rfl) ?_
  refine lv_istore (lv' := [(4, .int du), (0, .ref g), (1, .int du), (2, .long su)]) hx hb dX8_byCaps_1 hl (by decide) rfl (fun ls hl => ?_)
  refine lv_iconst (v := 0) hx hb dX8_byCaps_3 (by decide) ?_
  refine lv_istore (lv' := [(5, .int 0), (4, .int du), (0, .ref g), (1, .int du), (2, .long su)]) hx hb dX8_byCaps_4 hl (by decide) rfl (fun ls hl => ?_)
  have J6 : ∀ (zz : Nat) (i6 : Nat) (h4_6 : Int32) (a_g36_6 : Nat → Int32) (a_g37_6 : Nat → Int64), (i6 ≤ 8) → (8 - i6) < zz → ∀ (H : Heap) (locs : List Loc) (ls : Array Slot), va_P D vwCl [(oX8 g gi0 (nI mn) g2 g3 g4 g5 g6 g7 g8 g9 g10 (nI ml) g12 g13 gi14 g15 g16 g17 gi18 g19 g20 g21 g22 g23 g24 g25 g26 g27 g28 gi29 gi30 (nI mv) gi32 g33 g34 g35 g36 g37 g38 g39 gi40 g41 g42 gi43 g44 g45), (aIc cI g35 8 G35), (aIc cI g36 8 a_g36_6), (aJc cJ g37 8 a_g37_6)] H → va_D A [(oX8 g gi0 (nI mn) g2 g3 g4 g5 g6 g7 g8 g9 g10 (nI ml) g12 g13 gi14 g15 g16 g17 gi18 g19 g20 g21 g22 g23 g24 g25 g26 g27 g28 gi29 gi30 (nI mv) gi32 g33 g34 g35 g36 g37 g38 g39 gi40 g41 g42 gi43 g44 g45), (aIc cI g35 8 G35), (aIc cI g36 8 a_g36_6), (aJc cJ g37 8 a_g37_6)] → va_S A s.heap H locs → lv_has ls 7 [(5, .int (nI i6)), (4, .int h4_6), (0, .ref g), (1, .int du), (2, .long su)] → W p l e { frames := 0, cells := 0, slots := 0, locals := 0 } s m [.ref g, .int du, .long su].toArray below meth c H locs 0 0 (MQ below (cQv D (fun u => ∃ (G36p : Nat → Int32) (G37p : Nat → Int64), u = [(oX8 g gi0 (nI mn) g2 g3 g4 g5 g6 g7 g8 g9 g10 (nI ml) g12 g13 gi14 g15 g16 g17 gi18 g19 g20 g21 g22 g23 g24 g25 g26 g27 g28 gi29 gi30 (nI mv) gi32 g33 g34 g35 g36 g37 g38 g39 gi40 g41 g42 gi43 g44 g45), (aIc cI g35 8 G35), (aIc cI g36 8 G36p), (aJc cJ g37 8 G37p)]) A) [.ref g, .int du, .long su].toArray s 0 0 A) (F0 m 6 ls []) := by
    intro zz
    induction zz with
    | zero => intro i6 h4_6 a_g36_6 a_g37_6 _; exact fun h => absurd h (Nat.not_lt_zero _)
    | succ zz ih6 =>
      intro i6 h4_6 a_g36_6 a_g37_6 hc5_6 hmu6 H locs ls hP hD hS hl
      refine lv_iload hx hb dX8_byCaps_6 (lv_at hl 0 rfl) ?_
      refine lv_bipush (v := 8) hx hb dX8_byCaps_8 (by decide) ?_
      refine lv_icmp_ge (tgt := 72) hx hb dX8_byCaps_10 (by decide) (fun c1 => ?_) (fun c1 => ?_)
      · skip
        have nc1 : 8 ≤ i6 := (nI_leI (a := 8) (b := i6) (by omega) (by omega)).mp c1
        have J72 : ∀ (zz : Nat) (h4_72 : Int32) (a_g36_72 : Nat → Int32) (a_g37_72 : Nat → Int64), (Int32.toInt h4_72).toNat < zz → ∀ (H : Heap) (locs : List Loc) (ls : Array Slot), va_P D vwCl [(oX8 g gi0 (nI mn) g2 g3 g4 g5 g6 g7 g8 g9 g10 (nI ml) g12 g13 gi14 g15 g16 g17 gi18 g19 g20 g21 g22 g23 g24 g25 g26 g27 g28 gi29 gi30 (nI mv) gi32 g33 g34 g35 g36 g37 g38 g39 gi40 g41 g42 gi43 g44 g45), (aIc cI g35 8 G35), (aIc cI g36 8 a_g36_72), (aJc cJ g37 8 a_g37_72)] H → va_D A [(oX8 g gi0 (nI mn) g2 g3 g4 g5 g6 g7 g8 g9 g10 (nI ml) g12 g13 gi14 g15 g16 g17 gi18 g19 g20 g21 g22 g23 g24 g25 g26 g27 g28 gi29 gi30 (nI mv) gi32 g33 g34 g35 g36 g37 g38 g39 gi40 g41 g42 gi43 g44 g45), (aIc cI g35 8 G35), (aIc cI g36 8 a_g36_72), (aJc cJ g37 8 a_g37_72)] → va_S A s.heap H locs → lv_has ls 7 [(4, .int h4_72), (0, .ref g), (1, .int du), (2, .long su)] → W p l e { frames := 0, cells := 0, slots := 0, locals := 0 } s m [.ref g, .int du, .long su].toArray below meth c H locs 0 0 (MQ below (cQv D (fun u => ∃ (G36p : Nat → Int32) (G37p : Nat → Int64), u = [(oX8 g gi0 (nI mn) g2 g3 g4 g5 g6 g7 g8 g9 g10 (nI ml) g12 g13 gi14 g15 g16 g17 gi18 g19 g20 g21 g22 g23 g24 g25 g26 g27 g28 gi29 gi30 (nI mv) gi32 g33 g34 g35 g36 g37 g38 g39 gi40 g41 g42 gi43 g44 g45), (aIc cI g35 8 G35), (aIc cI g36 8 G36p), (aJc cJ g37 8 G37p)]) A) [.ref g, .int du, .long su].toArray s 0 0 A) (F0 m 72 ls []) := by
          intro zz
          induction zz with
          | zero => intro h4_72 a_g36_72 a_g37_72; exact fun h => absurd h (Nat.not_lt_zero _)
          | succ zz ih72 =>
            intro h4_72 a_g36_72 a_g37_72 hmu72 H locs ls hP hD hS hl
            refine lv_iload hx hb dX8_byCaps_72 (lv_at hl 0 rfl) ?_
            refine lv_if_le (tgt := 150) hx hb dX8_byCaps_74 (by decide) (fun c2 => ?_) (fun c2 => ?_)
            · skip
              refine k_vret (u := [(oX8 g gi0 (nI mn) g2 g3 g4 g5 g6 g7 g8 g9 g10 (nI ml) g12 g13 gi14 g15 g16 g17 gi18 g19 g20 g21 g22 g23 g24 g25 g26 g27 g28 gi29 gi30 (nI mv) gi32 g33 g34 g35 g36 g37 g38 g39 gi40 g41 g42 gi43 g44 g45), (aIc cI g35 8 G35), (aIc cI g36 8 a_g36_72), (aJc cJ g37 8 a_g37_72)]) hx hb hr hlk hP hD hS dX8_byCaps_150 ?_
              exact ⟨a_g36_72, a_g37_72, rfl⟩
            · skip
              refine lv_iconst (v := 0) hx hb dX8_byCaps_77 (by decide) ?_
              refine lv_istore (lv' := [(5, .int 0), (4, .int h4_72), (0, .ref g), (1, .int du), (2, .long su)]) hx hb dX8_byCaps_78 hl (by decide) rfl (fun ls hl => ?_)
              refine lv_iconst (v := 1) hx hb dX8_byCaps_80 (by decide) ?_
              refine lv_istore (lv' := [(6, .int 1), (5, .int 0), (4, .int h4_72), (0, .ref g), (1, .int du), (2, .long su)]) hx hb dX8_byCaps_81 hl (by decide) rfl (fun ls hl => ?_)
              have J83 : ∀ (zz : Nat) (j83 h5_83 : Nat), (j83 ≤ 8) → (h5_83 < 8) → (8 - j83) < zz → ∀ (H : Heap) (locs : List Loc) (ls : Array Slot), va_P D vwCl [(oX8 g gi0 (nI mn) g2 g3 g4 g5 g6 g7 g8 g9 g10 (nI ml) g12 g13 gi14 g15 g16 g17 gi18 g19 g20 g21 g22 g23 g24 g25 g26 g27 g28 gi29 gi30 (nI mv) gi32 g33 g34 g35 g36 g37 g38 g39 gi40 g41 g42 gi43 g44 g45), (aIc cI g35 8 G35), (aIc cI g36 8 a_g36_72), (aJc cJ g37 8 a_g37_72)] H → va_D A [(oX8 g gi0 (nI mn) g2 g3 g4 g5 g6 g7 g8 g9 g10 (nI ml) g12 g13 gi14 g15 g16 g17 gi18 g19 g20 g21 g22 g23 g24 g25 g26 g27 g28 gi29 gi30 (nI mv) gi32 g33 g34 g35 g36 g37 g38 g39 gi40 g41 g42 gi43 g44 g45), (aIc cI g35 8 G35), (aIc cI g36 8 a_g36_72), (aJc cJ g37 8 a_g37_72)] → va_S A s.heap H locs → lv_has ls 7 [(6, .int (nI j83)), (5, .int (nI h5_83)), (4, .int h4_72), (0, .ref g), (1, .int du), (2, .long su)] → W p l e { frames := 0, cells := 0, slots := 0, locals := 0 } s m [.ref g, .int du, .long su].toArray below meth c H locs 0 0 (MQ below (cQv D (fun u => ∃ (G36p : Nat → Int32) (G37p : Nat → Int64), u = [(oX8 g gi0 (nI mn) g2 g3 g4 g5 g6 g7 g8 g9 g10 (nI ml) g12 g13 gi14 g15 g16 g17 gi18 g19 g20 g21 g22 g23 g24 g25 g26 g27 g28 gi29 gi30 (nI mv) gi32 g33 g34 g35 g36 g37 g38 g39 gi40 g41 g42 gi43 g44 g45), (aIc cI g35 8 G35), (aIc cI g36 8 G36p), (aJc cJ g37 8 G37p)]) A) [.ref g, .int du, .long su].toArray s 0 0 A) (F0 m 83 ls []) := by
                intro zz
                induction zz with
                | zero => intro j83 h5_83 _ _; exact fun h => absurd h (Nat.not_lt_zero _)
                | succ zz ih83 =>
                  intro j83 h5_83 hc6_83 hbe_83 hmu83 H locs ls hP hD hS hl
                  refine lv_iload hx hb dX8_byCaps_83 (lv_at hl 0 rfl) ?_
                  refine lv_bipush (v := 8) hx hb dX8_byCaps_85 (by decide) ?_
                  refine lv_icmp_ge (tgt := 123) hx hb dX8_byCaps_87 (by decide) (fun c3 => ?_) (fun c3 => ?_)
                  · skip
                    have nc3 : 8 ≤ j83 := (nI_leI (a := 8) (b := j83) (by omega) (by omega)).mp c3
                    refine lv_aload_n hx hb dX8_byCaps_123 rfl (lv_at hl 3 rfl) ?_
                    refine va_get (D := D) (ci := 8) (v := .ref g36) (C := RX8) (T := TX8) (N := 46) hx hb hts hiX8 hown hE.1 hP 0 rfl rfl 36 (by decide) (hts _ (List.mem_cons_of_mem _ wd_143)) (fun _ h9 => h9) rfl dX8_byCaps_124 ?_
                    refine lv_iload hx hb dX8_byCaps_127 (lv_at hl 1 rfl) ?_
                    refine lv_dup2_11 hx hb dX8_byCaps_129 rfl rfl ?_
                    refine va_iald hx hb hE.1 hP 2 0 rfl rfl (vp_in_nI (n := h5_83) (by omega) (by decide)) dX8_byCaps_130 ?_
                    refine lv_topi (fun v4 ev4 => ?_)
                    refine lv_iconst (v := 1) hx hb dX8_byCaps_131 (by decide) ?_
                    refine lv_iadd hx hb dX8_byCaps_132 ?_
                    refine lv_topi (fun v5 ev5 => ?_)
                    refine va_iast hx hb hE.1 hP hD hS 2 0 rfl rfl (vp_in_nI (n := h5_83) (by omega) (by decide)) dX8_byCaps_133 (fun H locs hP hD hS => ?_)
                    refine k_re (w := [(oX8 g gi0 (nI mn) g2 g3 g4 g5 g6 g7 g8 g9 g10 (nI ml) g12 g13 gi14 g15 g16 g17 gi18 g19 g20 g21 g22 g23 g24 g25 g26 g27 g28 gi29 gi30 (nI mv) gi32 g33 g34 g35 g36 g37 g38 g39 gi40 g41 g42 gi43 g44 g45), (aIc cI g35 8 G35), (aIc cI g36 8 (upd a_g36_72 (Int32.toNatClampNeg (nI h5_83)) v5)), (aJc cJ g37 8 a_g37_72)]) hP hD (fun hP hD => ?_)
                    refine lv_aload_n hx hb dX8_byCaps_134 rfl (lv_at hl 3 rfl) ?_
                    refine va_get (D := D) (ci := 8) (v := .ref g37) (C := RX8) (T := TX8) (N := 46) hx hb hts hiX8 hown hE.1 hP 0 rfl rfl 37 (by decide) (hts _ (List.mem_cons_of_mem _ wd_144)) (fun _ h9 => h9) rfl dX8_byCaps_135 ?_
                    refine lv_iload hx hb dX8_byCaps_138 (lv_at hl 1 rfl) ?_
                    refine lv_ldc2 (v := (-1)) hx hb hown (hts _ (List.mem_cons_of_mem _ wd_225)) dX8_byCaps_140 ?_
                    refine va_last hx hb hE.1 hP hD hS 3 1 rfl rfl (vp_in_nI (n := h5_83) (by omega) (by decide)) dX8_byCaps_143 (fun H locs hP hD hS => ?_)
                    refine k_re (w := [(oX8 g gi0 (nI mn) g2 g3 g4 g5 g6 g7 g8 g9 g10 (nI ml) g12 g13 gi14 g15 g16 g17 gi18 g19 g20 g21 g22 g23 g24 g25 g26 g27 g28 gi29 gi30 (nI mv) gi32 g33 g34 g35 g36 g37 g38 g39 gi40 g41 g42 gi43 g44 g45), (aIc cI g35 8 G35), (aIc cI g36 8 (upd a_g36_72 (Int32.toNatClampNeg (nI h5_83)) v5)), (aJc cJ g37 8 (vp_updL a_g37_72 (Int32.toNatClampNeg (nI h5_83)) (-1)))]) hP hD (fun hP hD => ?_)
                    obtain ⟨v6, ev6⟩ : ∃ y : Int32, y = h4_72 + (-1) := ⟨_, rfl⟩
                    refine lv_iinc (v := v6) (lv' := [(4, .int v6), (6, .int (nI j83)), (5, .int (nI h5_83)), (0, .ref g), (1, .int du), (2, .long su)]) hx hb dX8_byCaps_144 hl (k := 2) rfl (by rw [ev6]; rfl) (by decide) rfl (fun ls hl => ?_)
                    refine lv_goto (tgt := 72) hx hb dX8_byCaps_147 (by decide) ?_
                    have hdec := ov_dec c2 ev6
                    exact ih72 v6 (upd a_g36_72 (Int32.toNatClampNeg (nI h5_83)) v5) (vp_updL a_g37_72 (Int32.toNatClampNeg (nI h5_83)) (-1))  (by omega) _ _ _ hP hD hS (lv_sub hl [0, 3, 4, 5] rfl)
                  · skip
                    have nc3 : ¬ 8 ≤ j83 := fun q9 => c3 ((nI_leI (a := 8) (b := j83) (by omega) (by omega)).mpr q9)
                    refine lv_aload_n hx hb dX8_byCaps_90 rfl (lv_at hl 3 rfl) ?_
                    refine va_get (D := D) (ci := 8) (v := .ref g37) (C := RX8) (T := TX8) (N := 46) hx hb hts hiX8 hown hE.1 hP 0 rfl rfl 37 (by decide) (hts _ (List.mem_cons_of_mem _ wd_144)) (fun _ h9 => h9) rfl dX8_byCaps_91 ?_
                    refine lv_iload hx hb dX8_byCaps_94 (lv_at hl 0 rfl) ?_
                    refine va_lald hx hb hE.1 hP 3 1 rfl rfl (vp_in_nI (n := j83) (by omega) (by decide)) dX8_byCaps_96 ?_
                    refine lv_topl (fun v7 ev7 => ?_)
                    refine lv_aload_n hx hb dX8_byCaps_97 rfl (lv_at hl 3 rfl) ?_
                    refine va_get (D := D) (ci := 8) (v := .ref g37) (C := RX8) (T := TX8) (N := 46) hx hb hts hiX8 hown hE.1 hP 0 rfl rfl 37 (by decide) (hts _ (List.mem_cons_of_mem _ wd_144)) (fun _ h9 => h9) rfl dX8_byCaps_98 ?_
                    refine lv_iload hx hb dX8_byCaps_101 (lv_at hl 1 rfl) ?_
                    refine va_lald hx hb hE.1 hP 3 1 rfl rfl (vp_in_nI (n := h5_83) (by omega) (by decide)) dX8_byCaps_103 ?_
                    refine lv_topl (fun v8 ev8 => ?_)
                    refine k_lcmp_le (tgt := 113) hx hb dX8_byCaps_104 dX8_byCaps_105 (by decide) (fun c9 => ?_) (fun c9 => ?_)
                    · skip
                      refine lv_iload hx hb dX8_byCaps_113 (lv_at hl 1 rfl) ?_
                      refine lv_istore (lv' := [(5, .int (nI h5_83)), (6, .int (nI j83)), (4, .int h4_72), (0, .ref g), (1, .int du), (2, .long su)]) hx hb dX8_byCaps_115 hl (by decide) rfl (fun ls hl => ?_)
                      refine lv_iinc (v := (nI (j83 + 1))) (lv' := [(6, .int (nI (j83 + 1))), (5, .int (nI h5_83)), (4, .int h4_72), (0, .ref g), (1, .int du), (2, .long su)]) hx hb dX8_byCaps_117 hl (k := 1) rfl (nI_1 _) (by decide) rfl (fun ls hl => ?_)
                      refine lv_goto (tgt := 83) hx hb dX8_byCaps_120 (by decide) ?_
                      exact ih83 (j83 + 1) h5_83 (by omega) hbe_83 (by omega) _ _ _ hP hD hS (lv_sub hl [0, 1, 2, 3, 4, 5] rfl)
                    · skip
                      refine lv_iload hx hb dX8_byCaps_108 (lv_at hl 0 rfl) ?_
                      refine lv_goto (tgt := 115) hx hb dX8_byCaps_110 (by decide) ?_
                      refine lv_istore (lv' := [(5, .int (nI j83)), (6, .int (nI j83)), (4, .int h4_72), (0, .ref g), (1, .int du), (2, .long su)]) hx hb dX8_byCaps_115 hl (by decide) rfl (fun ls hl => ?_)
                      refine lv_iinc (v := (nI (j83 + 1))) (lv' := [(6, .int (nI (j83 + 1))), (5, .int (nI j83)), (4, .int h4_72), (0, .ref g), (1, .int du), (2, .long su)]) hx hb dX8_byCaps_117 hl (k := 1) rfl (nI_1 _) (by decide) rfl (fun ls hl => ?_)
                      refine lv_goto (tgt := 83) hx hb dX8_byCaps_120 (by decide) ?_
                      exact ih83 (j83 + 1) j83 (by omega) (by omega) (by omega) _ _ _ hP hD hS (lv_sub hl [0, 1, 2, 3, 4, 5] rfl)
              exact J83 _ 1 0 (by omega) (by omega) (Nat.lt_succ_self _) _ _ _ hP hD hS (lv_sub hl [0, 1, 2, 3, 4, 5] rfl)
        exact J72 _ h4_6 a_g36_6 a_g37_6  (Nat.lt_succ_self _) _ _ _ hP hD hS (lv_sub hl [1, 2, 3, 4] rfl)
      · skip
        have nc1 : ¬ 8 ≤ i6 := fun q9 => c1 ((nI_leI (a := 8) (b := i6) (by omega) (by omega)).mpr q9)
        refine lv_aload_n hx hb dX8_byCaps_13 rfl (lv_at hl 2 rfl) ?_
        refine va_get (D := D) (ci := 8) (v := .ref g36) (C := RX8) (T := TX8) (N := 46) hx hb hts hiX8 hown hE.1 hP 0 rfl rfl 36 (by decide) (hts _ (List.mem_cons_of_mem _ wd_143)) (fun _ h9 => h9) rfl dX8_byCaps_14 ?_
        refine lv_iload hx hb dX8_byCaps_17 (lv_at hl 0 rfl) ?_
        refine lv_iload_n hx hb dX8_byCaps_19 rfl (lv_at hl 3 rfl) ?_
        refine lv_i2l hx hb dX8_byCaps_20 rfl ?_
        refine lv_aload_n hx hb dX8_byCaps_21 rfl (lv_at hl 2 rfl) ?_
        refine va_get (D := D) (ci := 8) (v := .ref g35) (C := RX8) (T := TX8) (N := 46) hx hb hts hiX8 hown hE.1 hP 0 rfl rfl 35 (by decide) (hts _ (List.mem_cons_of_mem _ wd_142)) (fun _ h9 => h9) rfl dX8_byCaps_22 ?_
        refine lv_iload hx hb dX8_byCaps_25 (lv_at hl 0 rfl) ?_
        refine va_iald hx hb hE.1 hP 1 0 rfl rfl (vp_in_nI (n := i6) (by omega) (by decide)) dX8_byCaps_27 ?_
        refine lv_topi (fun v10 ev10 => ?_)
        refine lv_i2l hx hb dX8_byCaps_28 rfl ?_
        refine lv_lmul hx hb dX8_byCaps_29 ?_
        refine lv_topl (fun v11 ev11 => ?_)
        refine lv_lload_n hx hb dX8_byCaps_30 rfl (lv_at hl 4 rfl) ?_
        refine lv_ldiv hx hb dX8_byCaps_31 hsn ?_
        refine lv_topl (fun v12 ev12 => ?_)
        refine lv_l2i hx hb dX8_byCaps_32 rfl ?_
        refine lv_topi (fun v13 ev13 => ?_)
        refine va_iast hx hb hE.1 hP hD hS 2 0 rfl rfl (vp_in_nI (n := i6) (by omega) (by decide)) dX8_byCaps_33 (fun H locs hP hD hS => ?_)
        refine k_re (w := [(oX8 g gi0 (nI mn) g2 g3 g4 g5 g6 g7 g8 g9 g10 (nI ml) g12 g13 gi14 g15 g16 g17 gi18 g19 g20 g21 g22 g23 g24 g25 g26 g27 g28 gi29 gi30 (nI mv) gi32 g33 g34 g35 g36 g37 g38 g39 gi40 g41 g42 gi43 g44 g45), (aIc cI g35 8 G35), (aIc cI g36 8 (upd a_g36_6 (Int32.toNatClampNeg (nI i6)) v13)), (aJc cJ g37 8 a_g37_6)]) hP hD (fun hP hD => ?_)
        refine lv_aload_n hx hb dX8_byCaps_34 rfl (lv_at hl 2 rfl) ?_
        refine va_get (D := D) (ci := 8) (v := .ref g37) (C := RX8) (T := TX8) (N := 46) hx hb hts hiX8 hown hE.1 hP 0 rfl rfl 37 (by decide) (hts _ (List.mem_cons_of_mem _ wd_144)) (fun _ h9 => h9) rfl dX8_byCaps_35 ?_
        refine lv_iload hx hb dX8_byCaps_38 (lv_at hl 0 rfl) ?_
        refine lv_iload_n hx hb dX8_byCaps_40 rfl (lv_at hl 3 rfl) ?_
        refine lv_i2l hx hb dX8_byCaps_41 rfl ?_
        refine lv_aload_n hx hb dX8_byCaps_42 rfl (lv_at hl 2 rfl) ?_
        refine va_get (D := D) (ci := 8) (v := .ref g35) (C := RX8) (T := TX8) (N := 46) hx hb hts hiX8 hown hE.1 hP 0 rfl rfl 35 (by decide) (hts _ (List.mem_cons_of_mem _ wd_142)) (fun _ h9 => h9) rfl dX8_byCaps_43 ?_
        refine lv_iload hx hb dX8_byCaps_46 (lv_at hl 0 rfl) ?_
        refine va_iald hx hb hE.1 hP 1 0 rfl rfl (vp_in_nI (n := i6) (by omega) (by decide)) dX8_byCaps_48 ?_
        refine lv_topi (fun v14 ev14 => ?_)
        refine lv_i2l hx hb dX8_byCaps_49 rfl ?_
        refine lv_lmul hx hb dX8_byCaps_50 ?_
        refine lv_topl (fun v15 ev15 => ?_)
        refine lv_lload_n hx hb dX8_byCaps_51 rfl (lv_at hl 4 rfl) ?_
        refine lv_lrem hx hb dX8_byCaps_52 hsn ?_
        refine lv_topl (fun v16 ev16 => ?_)
        refine va_last hx hb hE.1 hP hD hS 3 1 rfl rfl (vp_in_nI (n := i6) (by omega) (by decide)) dX8_byCaps_53 (fun H locs hP hD hS => ?_)
        refine k_re (w := [(oX8 g gi0 (nI mn) g2 g3 g4 g5 g6 g7 g8 g9 g10 (nI ml) g12 g13 gi14 g15 g16 g17 gi18 g19 g20 g21 g22 g23 g24 g25 g26 g27 g28 gi29 gi30 (nI mv) gi32 g33 g34 g35 g36 g37 g38 g39 gi40 g41 g42 gi43 g44 g45), (aIc cI g35 8 G35), (aIc cI g36 8 (upd a_g36_6 (Int32.toNatClampNeg (nI i6)) v13)), (aJc cJ g37 8 (vp_updL a_g37_6 (Int32.toNatClampNeg (nI i6)) v16))]) hP hD (fun hP hD => ?_)
        refine lv_iload hx hb dX8_byCaps_54 (lv_at hl 1 rfl) ?_
        refine lv_aload_n hx hb dX8_byCaps_56 rfl (lv_at hl 2 rfl) ?_
        refine va_get (D := D) (ci := 8) (v := .ref g36) (C := RX8) (T := TX8) (N := 46) hx hb hts hiX8 hown hE.1 hP 0 rfl rfl 36 (by decide) (hts _ (List.mem_cons_of_mem _ wd_143)) (fun _ h9 => h9) rfl dX8_byCaps_57 ?_
        refine lv_iload hx hb dX8_byCaps_60 (lv_at hl 0 rfl) ?_
        refine va_iald hx hb hE.1 hP 2 0 rfl rfl (vp_in_nI (n := i6) (by omega) (by decide)) dX8_byCaps_62 ?_
        refine lv_topi (fun v17 ev17 => ?_)
        refine lv_isub hx hb dX8_byCaps_63 ?_
        refine lv_topi (fun v18 ev18 => ?_)
        refine lv_istore (lv' := [(4, .int v18), (5, .int (nI i6)), (0, .ref g), (1, .int du), (2, .long su)]) hx hb dX8_byCaps_64 hl (by decide) rfl (fun ls hl => ?_)
        refine lv_iinc (v := (nI (i6 + 1))) (lv' := [(5, .int (nI (i6 + 1))), (4, .int v18), (0, .ref g), (1, .int du), (2, .long su)]) hx hb dX8_byCaps_66 hl (k := 1) rfl (nI_1 _) (by decide) rfl (fun ls hl => ?_)
        refine lv_goto (tgt := 6) hx hb dX8_byCaps_69 (by decide) ?_
        exact ih6 (i6 + 1) v18 (upd a_g36_6 (Int32.toNatClampNeg (nI i6)) v13) (vp_updL a_g37_6 (Int32.toNatClampNeg (nI i6)) v16) (by omega) (by omega) _ _ _ hP hD hS (lv_sub hl [0, 1, 2, 3, 4] rfl)
  exact J6 _ 0 du G36 G37 (by omega) (Nat.lt_succ_self _) _ _ _ hP hD hS (lv_sub hl [0, 1, 2, 3, 4] rfl)
set_option maxHeartbeats 4000000 in
set_option maxRecDepth 100000 in
theorem k_X8_shares (l : Launch) (D : va_G) (cI cJ : ClassId) (sz : Nat) (g g2 g3 g4 g5 g6 g7 g8 g9 g10 g12 g13 g15 g16 g17 g19 g20 g21 g22 g23 g24 g25 g26 g27 g28 g33 g34 g35 g36 g37 g38 g39 g41 g42 g44 g45 mn ml mv : Nat) (gi0 gi14 gi18 gi29 gi30 gi32 gi40 gi43 mu0 : Int32) (G35 G36 : Nat → Int32) (G37 : Nat → Int64) (hci : ∀ k, k < 8 → -1000000 ≤ (G35 k).toInt ∧ (G35 k).toInt ≤ 1000000) : Met l yX8_shares wtX8_shares { frames := 4, cells := 0, slots := 0, locals := 94 } (cPc D cI cJ [.ref g, .int mu0] sz [(oX8 g gi0 (nI mn) g2 g3 g4 g5 g6 g7 g8 g9 g10 (nI ml) g12 g13 gi14 g15 g16 g17 gi18 g19 g20 g21 g22 g23 g24 g25 g26 g27 g28 gi29 gi30 (nI mv) gi32 g33 g34 g35 g36 g37 g38 g39 gi40 g41 g42 gi43 g44 g45), (aIc cI g35 8 G35), (aIc cI g36 8 G36), (aJc cJ g37 8 G37)]) (cQi D (fun r u => ∃ (G36p : Nat → Int32) (G37p : Nat → Int64), u = [(oX8 g gi0 (nI mn) g2 g3 g4 g5 g6 g7 g8 g9 g10 (nI ml) g12 g13 gi14 g15 g16 g17 gi18 g19 g20 g21 g22 g23 g24 g25 g26 g27 g28 gi29 gi30 (nI mv) gi32 g33 g34 g35 g36 g37 g38 g39 gi40 g41 g42 gi43 g44 g45), (aIc cI g35 8 G35), (aIc cI g36 8 G36p), (aJc cJ g37 8 G37p)]) (va_A [(oX8 g gi0 (nI mn) g2 g3 g4 g5 g6 g7 g8 g9 g10 (nI ml) g12 g13 gi14 g15 g16 g17 gi18 g19 g20 g21 g22 g23 g24 g25 g26 g27 g28 gi29 gi30 (nI mv) gi32 g33 g34 g35 g36 g37 g38 g39 gi40 g41 g42 gi43 g44 g45), (aIc cI g35 8 G35), (aIc cI g36 8 G36), (aJc cJ g37 8 G37)] sz)) 0 0 (va_A [(oX8 g gi0 (nI mn) g2 g3 g4 g5 g6 g7 g8 g9 g10 (nI ml) g12 g13 gi14 g15 g16 g17 gi18 g19 g20 g21 g22 g23 g24 g25 g26 g27 g28 gi29 gi30 (nI mv) gi32 g33 g34 g35 g36 g37 g38 g39 gi40 g41 g42 gi43 g44 g45), (aIc cI g35 8 G35), (aIc cI g36 8 G36), (aJc cJ g37 8 G37)] sz) := by
  refine k_ofW (Qc := cQi D (fun r u => ∃ (G36p : Nat → Int32) (G37p : Nat → Int64), u = [(oX8 g gi0 (nI mn) g2 g3 g4 g5 g6 g7 g8 g9 g10 (nI ml) g12 g13 gi14 g15 g16 g17 gi18 g19 g20 g21 g22 g23 g24 g25 g26 g27 g28 gi29 gi30 (nI mv) gi32 g33 g34 g35 g36 g37 g38 g39 gi40 g41 g42 gi43 g44 g45), (aIc cI g35 8 G35), (aIc cI g36 8 G36p), (aJc cJ g37 8 G37p)])) (by decide) rfl (Nat.le_of_ble_eq_true rfl) ?_
  intro p e s m below meth c A ls hx hb hr hml hts hown hlk hnm hsz hE hP hD hS hA hl
  have hown : s.vm.findClass RX8 = some m.cls := hown
  have hiX8 : ∀ w ∈ u_ws RX8 TX8 46, w ∈ wtX8_shares := fun w h => List.mem_cons_of_mem _ (iuX8 w h)
  have hl : lv_has ls 6 [(0, .ref g), (1, .int mu0)] := hl
  refine lv_aload_n hx hb dX8_shares_0 rfl (lv_at hl 0 rfl) ?_
  refine k_lS (va_runV (As := []) (rest := []) ⟨hx, hb, hml, hown, hts⟩ (k_X8_capSum l D cI cJ (s.heap).size g g2 g3 g4 g5 g6 g7 g8 g9 g10 g12 g13 g15 g16 g17 g19 g20 g21 g22 g23 g24 g25 g26 g27 g28 g33 g34 g35 g36 g37 g38 g39 g41 g42 g44 g45 mn ml mv gi0 gi14 gi18 gi29 gi30 gi32 gi40 gi43 G35) (cwV 0 hts gX8_shares_X8_capSum rfl rfl rfl (by decide +kernel) ⟨Nat.le_of_ble_eq_true rfl, Nat.le_of_ble_eq_true rfl⟩) (k_preV hE hP hD [0, 1] (by decide +kernel) rfl 0 rfl rfl) rfl rfl hl.1 rfl (lv_room (Nat.le_of_ble_eq_true rfl)) dX8_shares_1 ⟨Nat.le_of_ble_eq_true rfl, Nat.le_of_ble_eq_true rfl⟩) hP hD hS hA [0, 1] rfl (fun _ _ h9 => h9) (fun r1 H locs hw2 hP hD hS => ?_)
  refine lv_lstore_n (lv' := [(2, .long r1), (0, .ref g), (1, .int mu0)]) hx hb dX8_shares_4 rfl hl (by decide) rfl (fun ls hl => ?_)
  refine lv_lload_n hx hb dX8_shares_5 rfl (lv_at hl 0 rfl) ?_
  refine lv_iload_n hx hb dX8_shares_6 rfl (lv_at hl 2 rfl) ?_
  refine lv_i2l hx hb dX8_shares_7 rfl ?_
  refine k_lcmp_ge (tgt := 17) hx hb dX8_shares_8 dX8_shares_9 (by decide) (fun c3 => ?_) (fun c3 => ?_)
  · skip
    refine lv_iload_n hx hb dX8_shares_17 rfl (lv_at hl 2 rfl) ?_
    refine lv_istore (lv' := [(4, .int mu0), (2, .long r1), (0, .ref g), (1, .int mu0)]) hx hb dX8_shares_18 hl (by decide) rfl (fun ls hl => ?_)
    refine lv_iconst (v := 0) hx hb dX8_shares_20 (by decide) ?_
    refine lv_istore (lv' := [(5, .int 0), (4, .int mu0), (2, .long r1), (0, .ref g), (1, .int mu0)]) hx hb dX8_shares_21 hl (by decide) rfl (fun ls hl => ?_)
    have J23 : ∀ (zz : Nat) (i23 : Nat) (a_g36_23 : Nat → Int32), (i23 ≤ 8) → (8 - i23) < zz → ∀ (H : Heap) (locs : List Loc) (ls : Array Slot), va_P D vwCl [(oX8 g gi0 (nI mn) g2 g3 g4 g5 g6 g7 g8 g9 g10 (nI ml) g12 g13 gi14 g15 g16 g17 gi18 g19 g20 g21 g22 g23 g24 g25 g26 g27 g28 gi29 gi30 (nI mv) gi32 g33 g34 g35 g36 g37 g38 g39 gi40 g41 g42 gi43 g44 g45), (aIc cI g35 8 G35), (aIc cI g36 8 a_g36_23), (aJc cJ g37 8 G37)] H → va_D A [(oX8 g gi0 (nI mn) g2 g3 g4 g5 g6 g7 g8 g9 g10 (nI ml) g12 g13 gi14 g15 g16 g17 gi18 g19 g20 g21 g22 g23 g24 g25 g26 g27 g28 gi29 gi30 (nI mv) gi32 g33 g34 g35 g36 g37 g38 g39 gi40 g41 g42 gi43 g44 g45), (aIc cI g35 8 G35), (aIc cI g36 8 a_g36_23), (aJc cJ g37 8 G37)] → va_S A s.heap H locs → lv_has ls 6 [(5, .int (nI i23)), (4, .int mu0), (2, .long r1), (0, .ref g), (1, .int mu0)] → W p l e { frames := 4, cells := 0, slots := 0, locals := 94 } s m [.ref g, .int mu0].toArray below meth c H locs 0 0 (MQ below (cQi D (fun r u => ∃ (G36p : Nat → Int32) (G37p : Nat → Int64), u = [(oX8 g gi0 (nI mn) g2 g3 g4 g5 g6 g7 g8 g9 g10 (nI ml) g12 g13 gi14 g15 g16 g17 gi18 g19 g20 g21 g22 g23 g24 g25 g26 g27 g28 gi29 gi30 (nI mv) gi32 g33 g34 g35 g36 g37 g38 g39 gi40 g41 g42 gi43 g44 g45), (aIc cI g35 8 G35), (aIc cI g36 8 G36p), (aJc cJ g37 8 G37p)]) A) [.ref g, .int mu0].toArray s 0 0 A) (F0 m 23 ls []) := by
      intro zz
      induction zz with
      | zero => intro i23 a_g36_23 _; exact fun h => absurd h (Nat.not_lt_zero _)
      | succ zz ih23 =>
        intro i23 a_g36_23 hc5_23 hmu23 H locs ls hP hD hS hl
        refine lv_iload hx hb dX8_shares_23 (lv_at hl 0 rfl) ?_
        refine lv_bipush (v := 8) hx hb dX8_shares_25 (by decide) ?_
        refine lv_icmp_ge (tgt := 44) hx hb dX8_shares_27 (by decide) (fun c4 => ?_) (fun c4 => ?_)
        · skip
          have nc4 : 8 ≤ i23 := (nI_leI (a := 8) (b := i23) (by omega) (by omega)).mp c4
          refine lv_lload_n hx hb dX8_shares_44 rfl (lv_at hl 2 rfl) ?_
          refine lv_lconst (v := 0) hx hb dX8_shares_45 (by decide) ?_
          refine k_lcmp_le (tgt := 67) hx hb dX8_shares_46 dX8_shares_47 (by decide) (fun c5 => ?_) (fun c5 => ?_)
          · skip
            refine lv_lload_n hx hb dX8_shares_67 rfl (lv_at hl 2 rfl) ?_
            refine lv_lconst (v := 0) hx hb dX8_shares_68 (by decide) ?_
            refine k_lcmp_le (tgt := 79) hx hb dX8_shares_69 dX8_shares_70 (by decide) (fun c6 => ?_) (fun c6 => ?_)
            · skip
              refine lv_iload hx hb dX8_shares_79 (lv_at hl 1 rfl) ?_
              refine k_iret (u := [(oX8 g gi0 (nI mn) g2 g3 g4 g5 g6 g7 g8 g9 g10 (nI ml) g12 g13 gi14 g15 g16 g17 gi18 g19 g20 g21 g22 g23 g24 g25 g26 g27 g28 gi29 gi30 (nI mv) gi32 g33 g34 g35 g36 g37 g38 g39 gi40 g41 g42 gi43 g44 g45), (aIc cI g35 8 G35), (aIc cI g36 8 a_g36_23), (aJc cJ g37 8 G37)]) hx hb hr hlk hP hD hS dX8_shares_81 ?_
              exact ⟨a_g36_23, G37, rfl⟩
            · skip
              refine lv_aload_n hx hb dX8_shares_73 rfl (lv_at hl 3 rfl) ?_
              refine lv_iload hx hb dX8_shares_74 (lv_at hl 1 rfl) ?_
              refine k_v (va_runV (As := [.int mu0]) (rest := []) ⟨hx, hb, hml, hown, hts⟩ (k_X8_bySteps l D cI cJ H.size g g2 g3 g4 g5 g6 g7 g8 g9 g10 g12 g13 g15 g16 g17 g19 g20 g21 g22 g23 g24 g25 g26 g27 g28 g33 g34 g35 g36 g37 g38 g39 g41 g42 g44 g45 mn ml mv gi0 gi14 gi18 gi29 gi30 gi32 gi40 gi43 mu0 G35 a_g36_23 hci) (cwV 1 hts gX8_shares_X8_bySteps rfl rfl rfl (by decide +kernel) ⟨Nat.le_of_ble_eq_true rfl, Nat.le_of_ble_eq_true rfl⟩) (k_preV hE hP hD [0, 1, 2] (by decide +kernel) rfl 0 rfl rfl) rfl rfl hl.1 rfl (lv_room (Nat.le_of_ble_eq_true rfl)) dX8_shares_76 ⟨Nat.le_of_ble_eq_true rfl, Nat.le_of_ble_eq_true rfl⟩) hP hD hS hA [0, 1, 2] [3] rfl (wr := [(aJc cJ g37 8 G37)]) rfl (by decide +kernel) (by decide +kernel) (fun u H locs hw7 hP hD hS => ?_)
              obtain ⟨z8, rfl⟩ := hw7
              refine k_re (w := [(aJc cJ g37 8 G37), (oX8 g gi0 (nI mn) g2 g3 g4 g5 g6 g7 g8 g9 g10 (nI ml) g12 g13 gi14 g15 g16 g17 gi18 g19 g20 g21 g22 g23 g24 g25 g26 g27 g28 gi29 gi30 (nI mv) gi32 g33 g34 g35 g36 g37 g38 g39 gi40 g41 g42 gi43 g44 g45), (aIc cI g35 8 G35), (aIc cI g36 8 z8)]) hP hD (fun hP hD => ?_)
              refine lv_iload hx hb dX8_shares_79 (lv_at hl 1 rfl) ?_
              refine k_iret (u := [(oX8 g gi0 (nI mn) g2 g3 g4 g5 g6 g7 g8 g9 g10 (nI ml) g12 g13 gi14 g15 g16 g17 gi18 g19 g20 g21 g22 g23 g24 g25 g26 g27 g28 gi29 gi30 (nI mv) gi32 g33 g34 g35 g36 g37 g38 g39 gi40 g41 g42 gi43 g44 g45), (aIc cI g35 8 G35), (aIc cI g36 8 z8), (aJc cJ g37 8 G37)]) hx hb hr hlk (k_sub hP [1, 2, 3, 0] rfl) (hD.sub [1, 2, 3, 0] (by decide +kernel) rfl) hS dX8_shares_81 ?_
              exact ⟨z8, G37, rfl⟩
          · skip
            refine lv_aload_n hx hb dX8_shares_50 rfl (lv_at hl 3 rfl) ?_
            refine va_get (D := D) (ci := 8) (v := .int gi14) (C := RX8) (T := TX8) (N := 46) hx hb hts hiX8 hown hE.1 hP 0 rfl rfl 14 (by decide) (hts _ (List.mem_cons_of_mem _ wd_269)) (fun _ h9 => h9) rfl dX8_shares_51 ?_
            refine lv_if_ne (tgt := 67) hx hb dX8_shares_54 (by decide) (fun c9 => ?_) (fun c9 => ?_)
            · skip
              refine lv_lload_n hx hb dX8_shares_67 rfl (lv_at hl 2 rfl) ?_
              refine lv_lconst (v := 0) hx hb dX8_shares_68 (by decide) ?_
              refine k_lcmp_le (tgt := 79) hx hb dX8_shares_69 dX8_shares_70 (by decide) (fun c10 => ?_) (fun c10 => ?_)
              · skip
                refine lv_iload hx hb dX8_shares_79 (lv_at hl 1 rfl) ?_
                refine k_iret (u := [(oX8 g gi0 (nI mn) g2 g3 g4 g5 g6 g7 g8 g9 g10 (nI ml) g12 g13 gi14 g15 g16 g17 gi18 g19 g20 g21 g22 g23 g24 g25 g26 g27 g28 gi29 gi30 (nI mv) gi32 g33 g34 g35 g36 g37 g38 g39 gi40 g41 g42 gi43 g44 g45), (aIc cI g35 8 G35), (aIc cI g36 8 a_g36_23), (aJc cJ g37 8 G37)]) hx hb hr hlk hP hD hS dX8_shares_81 ?_
                exact ⟨a_g36_23, G37, rfl⟩
              · skip
                refine lv_aload_n hx hb dX8_shares_73 rfl (lv_at hl 3 rfl) ?_
                refine lv_iload hx hb dX8_shares_74 (lv_at hl 1 rfl) ?_
                refine k_v (va_runV (As := [.int mu0]) (rest := []) ⟨hx, hb, hml, hown, hts⟩ (k_X8_bySteps l D cI cJ H.size g g2 g3 g4 g5 g6 g7 g8 g9 g10 g12 g13 g15 g16 g17 g19 g20 g21 g22 g23 g24 g25 g26 g27 g28 g33 g34 g35 g36 g37 g38 g39 g41 g42 g44 g45 mn ml mv gi0 gi14 gi18 gi29 gi30 gi32 gi40 gi43 mu0 G35 a_g36_23 hci) (cwV 1 hts gX8_shares_X8_bySteps rfl rfl rfl (by decide +kernel) ⟨Nat.le_of_ble_eq_true rfl, Nat.le_of_ble_eq_true rfl⟩) (k_preV hE hP hD [0, 1, 2] (by decide +kernel) rfl 0 rfl rfl) rfl rfl hl.1 rfl (lv_room (Nat.le_of_ble_eq_true rfl)) dX8_shares_76 ⟨Nat.le_of_ble_eq_true rfl, Nat.le_of_ble_eq_true rfl⟩) hP hD hS hA [0, 1, 2] [3] rfl (wr := [(aJc cJ g37 8 G37)]) rfl (by decide +kernel) (by decide +kernel) (fun u H locs hw11 hP hD hS => ?_)
                obtain ⟨z12, rfl⟩ := hw11
                refine k_re (w := [(aJc cJ g37 8 G37), (oX8 g gi0 (nI mn) g2 g3 g4 g5 g6 g7 g8 g9 g10 (nI ml) g12 g13 gi14 g15 g16 g17 gi18 g19 g20 g21 g22 g23 g24 g25 g26 g27 g28 gi29 gi30 (nI mv) gi32 g33 g34 g35 g36 g37 g38 g39 gi40 g41 g42 gi43 g44 g45), (aIc cI g35 8 G35), (aIc cI g36 8 z12)]) hP hD (fun hP hD => ?_)
                refine lv_iload hx hb dX8_shares_79 (lv_at hl 1 rfl) ?_
                refine k_iret (u := [(oX8 g gi0 (nI mn) g2 g3 g4 g5 g6 g7 g8 g9 g10 (nI ml) g12 g13 gi14 g15 g16 g17 gi18 g19 g20 g21 g22 g23 g24 g25 g26 g27 g28 gi29 gi30 (nI mv) gi32 g33 g34 g35 g36 g37 g38 g39 gi40 g41 g42 gi43 g44 g45), (aIc cI g35 8 G35), (aIc cI g36 8 z12), (aJc cJ g37 8 G37)]) hx hb hr hlk (k_sub hP [1, 2, 3, 0] rfl) (hD.sub [1, 2, 3, 0] (by decide +kernel) rfl) hS dX8_shares_81 ?_
                exact ⟨z12, G37, rfl⟩
            · skip
              refine lv_aload_n hx hb dX8_shares_57 rfl (lv_at hl 3 rfl) ?_
              refine lv_iload hx hb dX8_shares_58 (lv_at hl 1 rfl) ?_
              refine lv_lload_n hx hb dX8_shares_60 rfl (lv_at hl 2 rfl) ?_
              refine k_v (va_runV (As := [.int mu0, .long r1]) (rest := []) ⟨hx, hb, hml, hown, hts⟩ (k_X8_byCaps l D cI cJ H.size g g2 g3 g4 g5 g6 g7 g8 g9 g10 g12 g13 g15 g16 g17 g19 g20 g21 g22 g23 g24 g25 g26 g27 g28 g33 g34 g35 g36 g37 g38 g39 g41 g42 g44 g45 mn ml mv gi0 gi14 gi18 gi29 gi30 gi32 gi40 gi43 mu0 r1 G35 a_g36_23 G37 (ls_ne c5)) (cwV 2 hts gX8_shares_X8_byCaps rfl rfl rfl (by decide +kernel) ⟨Nat.le_of_ble_eq_true rfl, Nat.le_of_ble_eq_true rfl⟩) (k_preV hE hP hD [0, 1, 2, 3] (by decide +kernel) rfl 0 rfl rfl) rfl rfl hl.1 rfl (lv_room (Nat.le_of_ble_eq_true rfl)) dX8_shares_61 ⟨Nat.le_of_ble_eq_true rfl, Nat.le_of_ble_eq_true rfl⟩) hP hD hS hA [0, 1, 2, 3] [] rfl (wr := []) rfl (by decide +kernel) (by decide +kernel) (fun u H locs hw13 hP hD hS => ?_)
              obtain ⟨z14, z15, rfl⟩ := hw13
              refine k_re (w := [(oX8 g gi0 (nI mn) g2 g3 g4 g5 g6 g7 g8 g9 g10 (nI ml) g12 g13 gi14 g15 g16 g17 gi18 g19 g20 g21 g22 g23 g24 g25 g26 g27 g28 gi29 gi30 (nI mv) gi32 g33 g34 g35 g36 g37 g38 g39 gi40 g41 g42 gi43 g44 g45), (aIc cI g35 8 G35), (aIc cI g36 8 z14), (aJc cJ g37 8 z15)]) hP hD (fun hP hD => ?_)
              refine lv_goto (tgt := 79) hx hb dX8_shares_64 (by decide) ?_
              refine lv_iload hx hb dX8_shares_79 (lv_at hl 1 rfl) ?_
              refine k_iret (u := [(oX8 g gi0 (nI mn) g2 g3 g4 g5 g6 g7 g8 g9 g10 (nI ml) g12 g13 gi14 g15 g16 g17 gi18 g19 g20 g21 g22 g23 g24 g25 g26 g27 g28 gi29 gi30 (nI mv) gi32 g33 g34 g35 g36 g37 g38 g39 gi40 g41 g42 gi43 g44 g45), (aIc cI g35 8 G35), (aIc cI g36 8 z14), (aJc cJ g37 8 z15)]) hx hb hr hlk hP hD hS dX8_shares_81 ?_
              exact ⟨z14, z15, rfl⟩
        · skip
          have nc4 : ¬ 8 ≤ i23 := fun q9 => c4 ((nI_leI (a := 8) (b := i23) (by omega) (by omega)).mpr q9)
          refine lv_aload_n hx hb dX8_shares_30 rfl (lv_at hl 3 rfl) ?_
          refine va_get (D := D) (ci := 8) (v := .ref g36) (C := RX8) (T := TX8) (N := 46) hx hb hts hiX8 hown hE.1 hP 0 rfl rfl 36 (by decide) (hts _ (List.mem_cons_of_mem _ wd_143)) (fun _ h9 => h9) rfl dX8_shares_31 ?_
          refine lv_iload hx hb dX8_shares_34 (lv_at hl 0 rfl) ?_
          refine lv_iconst (v := 0) hx hb dX8_shares_36 (by decide) ?_
          refine va_iast hx hb hE.1 hP hD hS 2 0 rfl rfl (vp_in_nI (n := i23) (by omega) (by decide)) dX8_shares_37 (fun H locs hP hD hS => ?_)
          refine k_re (w := [(oX8 g gi0 (nI mn) g2 g3 g4 g5 g6 g7 g8 g9 g10 (nI ml) g12 g13 gi14 g15 g16 g17 gi18 g19 g20 g21 g22 g23 g24 g25 g26 g27 g28 gi29 gi30 (nI mv) gi32 g33 g34 g35 g36 g37 g38 g39 gi40 g41 g42 gi43 g44 g45), (aIc cI g35 8 G35), (aIc cI g36 8 (upd a_g36_23 (Int32.toNatClampNeg (nI i23)) 0)), (aJc cJ g37 8 G37)]) hP hD (fun hP hD => ?_)
          refine lv_iinc (v := (nI (i23 + 1))) (lv' := [(5, .int (nI (i23 + 1))), (4, .int mu0), (2, .long r1), (0, .ref g), (1, .int mu0)]) hx hb dX8_shares_38 hl (k := 0) rfl (nI_1 _) (by decide) rfl (fun ls hl => ?_)
          refine lv_goto (tgt := 23) hx hb dX8_shares_41 (by decide) ?_
          exact ih23 (i23 + 1) (upd a_g36_23 (Int32.toNatClampNeg (nI i23)) 0) (by omega) (by omega) _ _ _ hP hD hS (lv_sub hl [0, 1, 2, 3, 4] rfl)
    exact J23 _ 0 G36 (by omega) (Nat.lt_succ_self _) _ _ _ hP hD hS (lv_sub hl [0, 1, 2, 3, 4] rfl)
  · skip
    refine lv_lload_n hx hb dX8_shares_12 rfl (lv_at hl 0 rfl) ?_
    refine lv_l2i hx hb dX8_shares_13 rfl ?_
    refine lv_topi (fun v16 ev16 => ?_)
    refine lv_goto (tgt := 18) hx hb dX8_shares_14 (by decide) ?_
    refine lv_istore (lv' := [(4, .int v16), (2, .long r1), (0, .ref g), (1, .int mu0)]) hx hb dX8_shares_18 hl (by decide) rfl (fun ls hl => ?_)
    refine lv_iconst (v := 0) hx hb dX8_shares_20 (by decide) ?_
    refine lv_istore (lv' := [(5, .int 0), (4, .int v16), (2, .long r1), (0, .ref g), (1, .int mu0)]) hx hb dX8_shares_21 hl (by decide) rfl (fun ls hl => ?_)
    have J23 : ∀ (zz : Nat) (i23 : Nat) (a_g36_23 : Nat → Int32), (i23 ≤ 8) → (8 - i23) < zz → ∀ (H : Heap) (locs : List Loc) (ls : Array Slot), va_P D vwCl [(oX8 g gi0 (nI mn) g2 g3 g4 g5 g6 g7 g8 g9 g10 (nI ml) g12 g13 gi14 g15 g16 g17 gi18 g19 g20 g21 g22 g23 g24 g25 g26 g27 g28 gi29 gi30 (nI mv) gi32 g33 g34 g35 g36 g37 g38 g39 gi40 g41 g42 gi43 g44 g45), (aIc cI g35 8 G35), (aIc cI g36 8 a_g36_23), (aJc cJ g37 8 G37)] H → va_D A [(oX8 g gi0 (nI mn) g2 g3 g4 g5 g6 g7 g8 g9 g10 (nI ml) g12 g13 gi14 g15 g16 g17 gi18 g19 g20 g21 g22 g23 g24 g25 g26 g27 g28 gi29 gi30 (nI mv) gi32 g33 g34 g35 g36 g37 g38 g39 gi40 g41 g42 gi43 g44 g45), (aIc cI g35 8 G35), (aIc cI g36 8 a_g36_23), (aJc cJ g37 8 G37)] → va_S A s.heap H locs → lv_has ls 6 [(5, .int (nI i23)), (4, .int v16), (2, .long r1), (0, .ref g), (1, .int mu0)] → W p l e { frames := 4, cells := 0, slots := 0, locals := 94 } s m [.ref g, .int mu0].toArray below meth c H locs 0 0 (MQ below (cQi D (fun r u => ∃ (G36p : Nat → Int32) (G37p : Nat → Int64), u = [(oX8 g gi0 (nI mn) g2 g3 g4 g5 g6 g7 g8 g9 g10 (nI ml) g12 g13 gi14 g15 g16 g17 gi18 g19 g20 g21 g22 g23 g24 g25 g26 g27 g28 gi29 gi30 (nI mv) gi32 g33 g34 g35 g36 g37 g38 g39 gi40 g41 g42 gi43 g44 g45), (aIc cI g35 8 G35), (aIc cI g36 8 G36p), (aJc cJ g37 8 G37p)]) A) [.ref g, .int mu0].toArray s 0 0 A) (F0 m 23 ls []) := by
      intro zz
      induction zz with
      | zero => intro i23 a_g36_23 _; exact fun h => absurd h (Nat.not_lt_zero _)
      | succ zz ih23 =>
        intro i23 a_g36_23 hc5_23 hmu23 H locs ls hP hD hS hl
        refine lv_iload hx hb dX8_shares_23 (lv_at hl 0 rfl) ?_
        refine lv_bipush (v := 8) hx hb dX8_shares_25 (by decide) ?_
        refine lv_icmp_ge (tgt := 44) hx hb dX8_shares_27 (by decide) (fun c17 => ?_) (fun c17 => ?_)
        · skip
          have nc17 : 8 ≤ i23 := (nI_leI (a := 8) (b := i23) (by omega) (by omega)).mp c17
          refine lv_lload_n hx hb dX8_shares_44 rfl (lv_at hl 2 rfl) ?_
          refine lv_lconst (v := 0) hx hb dX8_shares_45 (by decide) ?_
          refine k_lcmp_le (tgt := 67) hx hb dX8_shares_46 dX8_shares_47 (by decide) (fun c18 => ?_) (fun c18 => ?_)
          · skip
            refine lv_lload_n hx hb dX8_shares_67 rfl (lv_at hl 2 rfl) ?_
            refine lv_lconst (v := 0) hx hb dX8_shares_68 (by decide) ?_
            refine k_lcmp_le (tgt := 79) hx hb dX8_shares_69 dX8_shares_70 (by decide) (fun c19 => ?_) (fun c19 => ?_)
            · skip
              refine lv_iload hx hb dX8_shares_79 (lv_at hl 1 rfl) ?_
              refine k_iret (u := [(oX8 g gi0 (nI mn) g2 g3 g4 g5 g6 g7 g8 g9 g10 (nI ml) g12 g13 gi14 g15 g16 g17 gi18 g19 g20 g21 g22 g23 g24 g25 g26 g27 g28 gi29 gi30 (nI mv) gi32 g33 g34 g35 g36 g37 g38 g39 gi40 g41 g42 gi43 g44 g45), (aIc cI g35 8 G35), (aIc cI g36 8 a_g36_23), (aJc cJ g37 8 G37)]) hx hb hr hlk hP hD hS dX8_shares_81 ?_
              exact ⟨a_g36_23, G37, rfl⟩
            · skip
              refine lv_aload_n hx hb dX8_shares_73 rfl (lv_at hl 3 rfl) ?_
              refine lv_iload hx hb dX8_shares_74 (lv_at hl 1 rfl) ?_
              refine k_v (va_runV (As := [.int v16]) (rest := []) ⟨hx, hb, hml, hown, hts⟩ (k_X8_bySteps l D cI cJ H.size g g2 g3 g4 g5 g6 g7 g8 g9 g10 g12 g13 g15 g16 g17 g19 g20 g21 g22 g23 g24 g25 g26 g27 g28 g33 g34 g35 g36 g37 g38 g39 g41 g42 g44 g45 mn ml mv gi0 gi14 gi18 gi29 gi30 gi32 gi40 gi43 v16 G35 a_g36_23 hci) (cwV 1 hts gX8_shares_X8_bySteps rfl rfl rfl (by decide +kernel) ⟨Nat.le_of_ble_eq_true rfl, Nat.le_of_ble_eq_true rfl⟩) (k_preV hE hP hD [0, 1, 2] (by decide +kernel) rfl 0 rfl rfl) rfl rfl hl.1 rfl (lv_room (Nat.le_of_ble_eq_true rfl)) dX8_shares_76 ⟨Nat.le_of_ble_eq_true rfl, Nat.le_of_ble_eq_true rfl⟩) hP hD hS hA [0, 1, 2] [3] rfl (wr := [(aJc cJ g37 8 G37)]) rfl (by decide +kernel) (by decide +kernel) (fun u H locs hw20 hP hD hS => ?_)
              obtain ⟨z21, rfl⟩ := hw20
              refine k_re (w := [(aJc cJ g37 8 G37), (oX8 g gi0 (nI mn) g2 g3 g4 g5 g6 g7 g8 g9 g10 (nI ml) g12 g13 gi14 g15 g16 g17 gi18 g19 g20 g21 g22 g23 g24 g25 g26 g27 g28 gi29 gi30 (nI mv) gi32 g33 g34 g35 g36 g37 g38 g39 gi40 g41 g42 gi43 g44 g45), (aIc cI g35 8 G35), (aIc cI g36 8 z21)]) hP hD (fun hP hD => ?_)
              refine lv_iload hx hb dX8_shares_79 (lv_at hl 1 rfl) ?_
              refine k_iret (u := [(oX8 g gi0 (nI mn) g2 g3 g4 g5 g6 g7 g8 g9 g10 (nI ml) g12 g13 gi14 g15 g16 g17 gi18 g19 g20 g21 g22 g23 g24 g25 g26 g27 g28 gi29 gi30 (nI mv) gi32 g33 g34 g35 g36 g37 g38 g39 gi40 g41 g42 gi43 g44 g45), (aIc cI g35 8 G35), (aIc cI g36 8 z21), (aJc cJ g37 8 G37)]) hx hb hr hlk (k_sub hP [1, 2, 3, 0] rfl) (hD.sub [1, 2, 3, 0] (by decide +kernel) rfl) hS dX8_shares_81 ?_
              exact ⟨z21, G37, rfl⟩
          · skip
            refine lv_aload_n hx hb dX8_shares_50 rfl (lv_at hl 3 rfl) ?_
            refine va_get (D := D) (ci := 8) (v := .int gi14) (C := RX8) (T := TX8) (N := 46) hx hb hts hiX8 hown hE.1 hP 0 rfl rfl 14 (by decide) (hts _ (List.mem_cons_of_mem _ wd_269)) (fun _ h9 => h9) rfl dX8_shares_51 ?_
            refine lv_if_ne (tgt := 67) hx hb dX8_shares_54 (by decide) (fun c22 => ?_) (fun c22 => ?_)
            · skip
              refine lv_lload_n hx hb dX8_shares_67 rfl (lv_at hl 2 rfl) ?_
              refine lv_lconst (v := 0) hx hb dX8_shares_68 (by decide) ?_
              refine k_lcmp_le (tgt := 79) hx hb dX8_shares_69 dX8_shares_70 (by decide) (fun c23 => ?_) (fun c23 => ?_)
              · skip
                refine lv_iload hx hb dX8_shares_79 (lv_at hl 1 rfl) ?_
                refine k_iret (u := [(oX8 g gi0 (nI mn) g2 g3 g4 g5 g6 g7 g8 g9 g10 (nI ml) g12 g13 gi14 g15 g16 g17 gi18 g19 g20 g21 g22 g23 g24 g25 g26 g27 g28 gi29 gi30 (nI mv) gi32 g33 g34 g35 g36 g37 g38 g39 gi40 g41 g42 gi43 g44 g45), (aIc cI g35 8 G35), (aIc cI g36 8 a_g36_23), (aJc cJ g37 8 G37)]) hx hb hr hlk hP hD hS dX8_shares_81 ?_
                exact ⟨a_g36_23, G37, rfl⟩
              · skip
                refine lv_aload_n hx hb dX8_shares_73 rfl (lv_at hl 3 rfl) ?_
                refine lv_iload hx hb dX8_shares_74 (lv_at hl 1 rfl) ?_
                refine k_v (va_runV (As := [.int v16]) (rest := []) ⟨hx, hb, hml, hown, hts⟩ (k_X8_bySteps l D cI cJ H.size g g2 g3 g4 g5 g6 g7 g8 g9 g10 g12 g13 g15 g16 g17 g19 g20 g21 g22 g23 g24 g25 g26 g27 g28 g33 g34 g35 g36 g37 g38 g39 g41 g42 g44 g45 mn ml mv gi0 gi14 gi18 gi29 gi30 gi32 gi40 gi43 v16 G35 a_g36_23 hci) (cwV 1 hts gX8_shares_X8_bySteps rfl rfl rfl (by decide +kernel) ⟨Nat.le_of_ble_eq_true rfl, Nat.le_of_ble_eq_true rfl⟩) (k_preV hE hP hD [0, 1, 2] (by decide +kernel) rfl 0 rfl rfl) rfl rfl hl.1 rfl (lv_room (Nat.le_of_ble_eq_true rfl)) dX8_shares_76 ⟨Nat.le_of_ble_eq_true rfl, Nat.le_of_ble_eq_true rfl⟩) hP hD hS hA [0, 1, 2] [3] rfl (wr := [(aJc cJ g37 8 G37)]) rfl (by decide +kernel) (by decide +kernel) (fun u H locs hw24 hP hD hS => ?_)
                obtain ⟨z25, rfl⟩ := hw24
                refine k_re (w := [(aJc cJ g37 8 G37), (oX8 g gi0 (nI mn) g2 g3 g4 g5 g6 g7 g8 g9 g10 (nI ml) g12 g13 gi14 g15 g16 g17 gi18 g19 g20 g21 g22 g23 g24 g25 g26 g27 g28 gi29 gi30 (nI mv) gi32 g33 g34 g35 g36 g37 g38 g39 gi40 g41 g42 gi43 g44 g45), (aIc cI g35 8 G35), (aIc cI g36 8 z25)]) hP hD (fun hP hD => ?_)
                refine lv_iload hx hb dX8_shares_79 (lv_at hl 1 rfl) ?_
                refine k_iret (u := [(oX8 g gi0 (nI mn) g2 g3 g4 g5 g6 g7 g8 g9 g10 (nI ml) g12 g13 gi14 g15 g16 g17 gi18 g19 g20 g21 g22 g23 g24 g25 g26 g27 g28 gi29 gi30 (nI mv) gi32 g33 g34 g35 g36 g37 g38 g39 gi40 g41 g42 gi43 g44 g45), (aIc cI g35 8 G35), (aIc cI g36 8 z25), (aJc cJ g37 8 G37)]) hx hb hr hlk (k_sub hP [1, 2, 3, 0] rfl) (hD.sub [1, 2, 3, 0] (by decide +kernel) rfl) hS dX8_shares_81 ?_
                exact ⟨z25, G37, rfl⟩
            · skip
              refine lv_aload_n hx hb dX8_shares_57 rfl (lv_at hl 3 rfl) ?_
              refine lv_iload hx hb dX8_shares_58 (lv_at hl 1 rfl) ?_
              refine lv_lload_n hx hb dX8_shares_60 rfl (lv_at hl 2 rfl) ?_
              refine k_v (va_runV (As := [.int v16, .long r1]) (rest := []) ⟨hx, hb, hml, hown, hts⟩ (k_X8_byCaps l D cI cJ H.size g g2 g3 g4 g5 g6 g7 g8 g9 g10 g12 g13 g15 g16 g17 g19 g20 g21 g22 g23 g24 g25 g26 g27 g28 g33 g34 g35 g36 g37 g38 g39 g41 g42 g44 g45 mn ml mv gi0 gi14 gi18 gi29 gi30 gi32 gi40 gi43 v16 r1 G35 a_g36_23 G37 (ls_ne c18)) (cwV 2 hts gX8_shares_X8_byCaps rfl rfl rfl (by decide +kernel) ⟨Nat.le_of_ble_eq_true rfl, Nat.le_of_ble_eq_true rfl⟩) (k_preV hE hP hD [0, 1, 2, 3] (by decide +kernel) rfl 0 rfl rfl) rfl rfl hl.1 rfl (lv_room (Nat.le_of_ble_eq_true rfl)) dX8_shares_61 ⟨Nat.le_of_ble_eq_true rfl, Nat.le_of_ble_eq_true rfl⟩) hP hD hS hA [0, 1, 2, 3] [] rfl (wr := []) rfl (by decide +kernel) (by decide +kernel) (fun u H locs hw26 hP hD hS => ?_)
              obtain ⟨z27, z28, rfl⟩ := hw26
              refine k_re (w := [(oX8 g gi0 (nI mn) g2 g3 g4 g5 g6 g7 g8 g9 g10 (nI ml) g12 g13 gi14 g15 g16 g17 gi18 g19 g20 g21 g22 g23 g24 g25 g26 g27 g28 gi29 gi30 (nI mv) gi32 g33 g34 g35 g36 g37 g38 g39 gi40 g41 g42 gi43 g44 g45), (aIc cI g35 8 G35), (aIc cI g36 8 z27), (aJc cJ g37 8 z28)]) hP hD (fun hP hD => ?_)
              refine lv_goto (tgt := 79) hx hb dX8_shares_64 (by decide) ?_
              refine lv_iload hx hb dX8_shares_79 (lv_at hl 1 rfl) ?_
              refine k_iret (u := [(oX8 g gi0 (nI mn) g2 g3 g4 g5 g6 g7 g8 g9 g10 (nI ml) g12 g13 gi14 g15 g16 g17 gi18 g19 g20 g21 g22 g23 g24 g25 g26 g27 g28 gi29 gi30 (nI mv) gi32 g33 g34 g35 g36 g37 g38 g39 gi40 g41 g42 gi43 g44 g45), (aIc cI g35 8 G35), (aIc cI g36 8 z27), (aJc cJ g37 8 z28)]) hx hb hr hlk hP hD hS dX8_shares_81 ?_
              exact ⟨z27, z28, rfl⟩
        · skip
          have nc17 : ¬ 8 ≤ i23 := fun q9 => c17 ((nI_leI (a := 8) (b := i23) (by omega) (by omega)).mpr q9)
          refine lv_aload_n hx hb dX8_shares_30 rfl (lv_at hl 3 rfl) ?_
          refine va_get (D := D) (ci := 8) (v := .ref g36) (C := RX8) (T := TX8) (N := 46) hx hb hts hiX8 hown hE.1 hP 0 rfl rfl 36 (by decide) (hts _ (List.mem_cons_of_mem _ wd_143)) (fun _ h9 => h9) rfl dX8_shares_31 ?_
          refine lv_iload hx hb dX8_shares_34 (lv_at hl 0 rfl) ?_
          refine lv_iconst (v := 0) hx hb dX8_shares_36 (by decide) ?_
          refine va_iast hx hb hE.1 hP hD hS 2 0 rfl rfl (vp_in_nI (n := i23) (by omega) (by decide)) dX8_shares_37 (fun H locs hP hD hS => ?_)
          refine k_re (w := [(oX8 g gi0 (nI mn) g2 g3 g4 g5 g6 g7 g8 g9 g10 (nI ml) g12 g13 gi14 g15 g16 g17 gi18 g19 g20 g21 g22 g23 g24 g25 g26 g27 g28 gi29 gi30 (nI mv) gi32 g33 g34 g35 g36 g37 g38 g39 gi40 g41 g42 gi43 g44 g45), (aIc cI g35 8 G35), (aIc cI g36 8 (upd a_g36_23 (Int32.toNatClampNeg (nI i23)) 0)), (aJc cJ g37 8 G37)]) hP hD (fun hP hD => ?_)
          refine lv_iinc (v := (nI (i23 + 1))) (lv' := [(5, .int (nI (i23 + 1))), (4, .int v16), (2, .long r1), (0, .ref g), (1, .int mu0)]) hx hb dX8_shares_38 hl (k := 0) rfl (nI_1 _) (by decide) rfl (fun ls hl => ?_)
          refine lv_goto (tgt := 23) hx hb dX8_shares_41 (by decide) ?_
          exact ih23 (i23 + 1) (upd a_g36_23 (Int32.toNatClampNeg (nI i23)) 0) (by omega) (by omega) _ _ _ hP hD hS (lv_sub hl [0, 1, 2, 3, 4] rfl)
    exact J23 _ 0 G36 (by omega) (Nat.lt_succ_self _) _ _ _ hP hD hS (lv_sub hl [0, 1, 2, 3, 4] rfl)

