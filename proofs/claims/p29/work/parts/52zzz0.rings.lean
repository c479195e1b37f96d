set_option maxHeartbeats 4000000 in
set_option maxRecDepth 100000 in
theorem e_X8_bits (l : Launch) (D : va_G) (cI cJ : ClassId) (sz : Nat) (se : Int32) : Met l yX8_bits wtX8_bits { frames := 0, cells := 0, slots := 0, locals := 0 } (cPc D cI cJ [.int se] sz []) (cQi D (fun r u => r = (nI (NB se)) ∧ u = []) (va_A [] sz)) 0 0 (va_A [] sz) := by
  refine k_ofW (Qc := cQi D (fun r u => r = (nI (NB se)) ∧ u = [])) (by decide) rfl (Nat.le_of_ble_eq_true rfl) ?_
  intro p e s m below meth c A ls hx hb hr hml hts hown hlk hnm hsz hE hP hD hS hA hl
  have hown : s.vm.findClass RX8 = some m.cls := hown
  have hl : lv_has ls 3 [(0, .int se)] := hl
  refine lv_iconst (v := 0) hx hb dX8_bits_0 (by decide) ?_
  refine lv_istore_n (lv' := [(1, .int 0), (0, .int se)]) hx hb dX8_bits_1 rfl hl (by decide) rfl (fun ls hl => ?_)
  refine lv_iconst (v := 0) hx hb dX8_bits_2 (by decide) ?_
  refine lv_istore_n (lv' := [(2, .int 0), (1, .int 0), (0, .int se)]) hx hb dX8_bits_3 rfl hl (by decide) rfl (fun ls hl => ?_)
  have J4 : ∀ (zz : Nat) (i4 h1_4 : Nat), (i4 ≤ 8) → (h1_4 = sm (fun k => if bt se k = true then 1 else 0) i4) → (8 - i4) < zz → ∀ (H : Heap) (locs : List Loc) (ls : Array Slot), va_P D vwCl [] H → va_D A [] → va_S A s.heap H locs → lv_has ls 3 [(2, .int (nI i4)), (1, .int (nI h1_4)), (0, .int se)] → W p l e { frames := 0, cells := 0, slots := 0, locals := 0 } s m [.int se].toArray below meth c H locs 0 0 (MQ below (cQi D (fun r u => r = (nI (NB se)) ∧ u = []) A) [.int se].toArray s 0 0 A) (F0 m 4 ls []) := by
    intro zz
    induction zz with
    | zero => intro i4 h1_4 _ _; exact fun h => absurd h (Nat.not_lt_zero _)
    | succ zz ih4 =>
      intro i4 h1_4 hc2_4 hs_4 hmu4 H locs ls hP hD hS hl
      refine lv_iload_n hx hb dX8_bits_4 rfl (lv_at hl 0 rfl) ?_
      refine lv_bipush (v := 8) hx hb dX8_bits_5 (by decide) ?_
      refine lv_icmp_ge (tgt := 24) hx hb dX8_bits_7 (by decide) (fun c1 => ?_) (fun c1 => ?_)
      · skip
        have nc1 : 8 ≤ i4 := (nI_leI (a := 8) (b := i4) (by omega) (by omega)).mp c1
        refine lv_iload_n hx hb dX8_bits_24 rfl (lv_at hl 1 rfl) ?_
        refine k_iret (u := []) hx hb hr hlk hP hD hS dX8_bits_25 ?_
        exact ⟨(congrArg nI (by obtain rfl : i4 = 8 := (by omega); exact hs_4)), rfl⟩
      · skip
        have nc1 : ¬ 8 ≤ i4 := fun q9 => c1 ((nI_leI (a := 8) (b := i4) (by omega) (by omega)).mpr q9)
        refine lv_iload_n hx hb dX8_bits_10 rfl (lv_at hl 1 rfl) ?_
        refine lv_iload_n hx hb dX8_bits_11 rfl (lv_at hl 2 rfl) ?_
        refine lv_iload_n hx hb dX8_bits_12 rfl (lv_at hl 0 rfl) ?_
        refine lv_ishr hx hb dX8_bits_13 ?_
        refine lv_topi (fun v2 ev2 => ?_)
        refine lv_iconst (v := 1) hx hb dX8_bits_14 (by decide) ?_
        refine lv_iand hx hb dX8_bits_15 ?_
        refine lv_topi (fun v3 ev3 => ?_)
        obtain rfl : v3 = nI (if bt se i4 = true then 1 else 0) := nb_bit (by omega) (by rw [ev3, ev2])
        refine lv_iadd hx hb dX8_bits_16 ?_
        refine lv_topi (fun v4 ev4 => ?_)
        obtain rfl : v4 = (nI (h1_4 + (if bt se i4 = true then 1 else 0))) := by rw [ev4]; exact nI_add h1_4 (if bt se i4 = true then 1 else 0)
        refine lv_istore_n (lv' := [(1, .int (nI (h1_4 + (if bt se i4 = true then 1 else 0)))), (2, .int (nI i4)), (0, .int se)]) hx hb dX8_bits_17 rfl hl (by decide) rfl (fun ls hl => ?_)
        refine lv_iinc (v := (nI (i4 + 1))) (lv' := [(2, .int (nI (i4 + 1))), (1, .int (nI (h1_4 + (if bt se i4 = true then 1 else 0)))), (0, .int se)]) hx hb dX8_bits_18 hl (k := 1) rfl (nI_1 _) (by decide) rfl (fun ls hl => ?_)
        refine lv_goto (tgt := 4) hx hb dX8_bits_21 (by decide) ?_
        exact ih4 (i4 + 1) (h1_4 + (if bt se i4 = true then 1 else 0)) (by omega) (sm_at (F := fun k => if bt se k = true then 1 else 0) hs_4 rfl) (by omega) _ _ _ hP hD hS (lv_sub hl [0, 1, 2] rfl)
  exact J4 _ 0 0 (by omega) rfl (Nat.lt_succ_self _) _ _ _ hP hD hS (lv_sub hl [0, 1, 2] rfl)
