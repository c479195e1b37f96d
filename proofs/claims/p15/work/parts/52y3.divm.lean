set_option maxHeartbeats 4000000 in
set_option maxRecDepth 100000 in
theorem e_X8_heightFor (l : Launch) (D : va_G) (cI cJ : ClassId) (sz : Nat) (g g2 g3 g4 g5 g6 g7 g8 g9 g10 g12 g13 g15 g16 g17 g19 g20 g21 g22 g23 g24 g25 g26 g27 g28 g33 g34 g35 g36 g37 g38 g39 g41 g42 g44 g45 du mn ml mv : Nat) (gi0 gi14 gi18 gi29 gi30 gi32 gi40 gi43 : Int32) (G35 : Nat → Int32) (c0 : Nat → Nat) (hcv : nv G35 c0) (hcb : ∀ k, k < 8 → c0 k ≤ 1000000) (hdu : du ≤ 100000000) : Met l yX8_heightFor wtX8_heightFor { frames := 2, cells := 0, slots := 0, locals := 45 } (cPc D cI cJ [.ref g, .int (nI du)] sz [(oX8 g gi0 (nI mn) g2 g3 g4 g5 g6 g7 g8 g9 g10 (nI ml) g12 g13 gi14 g15 g16 g17 gi18 g19 g20 g21 g22 g23 g24 g25 g26 g27 g28 gi29 gi30 (nI mv) gi32 g33 g34 g35 g36 g37 g38 g39 gi40 g41 g42 gi43 g44 g45), (aIc cI g35 8 G35)]) (cQi D (fun r u => r = (nI (HGT c0 du)) ∧ u = [(oX8 g gi0 (nI mn) g2 g3 g4 g5 g6 g7 g8 g9 g10 (nI ml) g12 g13 gi14 g15 g16 g17 gi18 g19 g20 g21 g22 g23 g24 g25 g26 g27 g28 gi29 gi30 (nI mv) gi32 g33 g34 g35 g36 g37 g38 g39 gi40 g41 g42 gi43 g44 g45), (aIc cI g35 8 G35)]) (va_A [(oX8 g gi0 (nI mn) g2 g3 g4 g5 g6 g7 g8 g9 g10 (nI ml) g12 g13 gi14 g15 g16 g17 gi18 g19 g20 g21 g22 g23 g24 g25 g26 g27 g28 gi29 gi30 (nI mv) gi32 g33 g34 g35 g36 g37 g38 g39 gi40 g41 g42 gi43 g44 g45), (aIc cI g35 8 G35)] sz)) 0 0 (va_A [(oX8 g gi0 (nI mn) g2 g3 g4 g5 g6 g7 g8 g9 g10 (nI ml) g12 g13 gi14 g15 g16 g17 gi18 g19 g20 g21 g22 g23 g24 g25 g26 g27 g28 gi29 gi30 (nI mv) gi32 g33 g34 g35 g36 g37 g38 g39 gi40 g41 g42 gi43 g44 g45), (aIc cI g35 8 G35)] sz) := by
  refine k_ofW (Qc := cQi D (fun r u => r = (nI (HGT c0 du)) ∧ u = [(oX8 g gi0 (nI mn) g2 g3 g4 g5 g6 g7 g8 g9 g10 (nI ml) g12 g13 gi14 g15 g16 g17 gi18 g19 g20 g21 g22 g23 g24 g25 g26 g27 g28 gi29 gi30 (nI mv) gi32 g33 g34 g35 g36 g37 g38 g39 gi40 g41 g42 gi43 g44 g45), (aIc cI g35 8 G35)])) (by decide) rfl (Nat.le_of_ble_eq_true rfl) ?_
  intro p e s m below meth c A ls hx hb hr hml hts hown hlk hnm hsz hE hP hD hS hA hl
  have hown : s.vm.findClass RX8 = some m.cls := hown
  have hiX8 : ∀ w ∈ u_ws RX8 TX8 46, w ∈ wtX8_heightFor := fun w h => List.mem_cons_of_mem _ (iuX8 w h)
  have hl : lv_has ls 5 [(0, .ref g), (1, .int (nI du))] := hl
  refine lv_iconst (v := 0) hx hb dX8_heightFor_0 (by decide) ?_
  refine lv_istore_n (lv' := [(2, .int 0), (0, .ref g), (1, .int (nI du))]) hx hb dX8_heightFor_1 rfl hl (by decide) rfl (fun ls hl => ?_)
  refine lv_iconst (v := 0) hx hb dX8_heightFor_2 (by decide) ?_
  refine lv_istore_n (lv' := [(3, .int 0), (2, .int 0), (0, .ref g), (1, .int (nI du))]) hx hb dX8_heightFor_3 rfl hl (by decide) rfl (fun ls hl => ?_)
  refine lv_iconst (v := 0) hx hb dX8_heightFor_4 (by decide) ?_
  refine lv_istore (lv' := [(4, .int 0), (3, .int 0), (2, .int 0), (0, .ref g), (1, .int (nI du))]) hx hb dX8_heightFor_5 hl (by decide) rfl (fun ls hl => ?_)
  have J7 : ∀ (zz : Nat) (i7 h3_7 : Nat), (i7 ≤ 8) → (h3_7 = mx c0 i7) → (h3_7 ≤ 1000000) → (8 - i7) < zz → ∀ (H : Heap) (locs : List Loc) (ls : Array Slot), va_P D vwCl [(oX8 g gi0 (nI mn) g2 g3 g4 g5 g6 g7 g8 g9 g10 (nI ml) g12 g13 gi14 g15 g16 g17 gi18 g19 g20 g21 g22 g23 g24 g25 g26 g27 g28 gi29 gi30 (nI mv) gi32 g33 g34 g35 g36 g37 g38 g39 gi40 g41 g42 gi43 g44 g45), (aIc cI g35 8 G35)] H → va_D A [(oX8 g gi0 (nI mn) g2 g3 g4 g5 g6 g7 g8 g9 g10 (nI ml) g12 g13 gi14 g15 g16 g17 gi18 g19 g20 g21 g22 g23 g24 g25 g26 g27 g28 gi29 gi30 (nI mv) gi32 g33 g34 g35 g36 g37 g38 g39 gi40 g41 g42 gi43 g44 g45), (aIc cI g35 8 G35)] → va_S A s.heap H locs → lv_has ls 5 [(4, .int (nI i7)), (3, .int (nI h3_7)), (2, .int 0), (0, .ref g), (1, .int (nI du))] → W p l e { frames := 2, cells := 0, slots := 0, locals := 45 } s m [.ref g, .int (nI du)].toArray below meth c H locs 0 0 (MQ below (cQi D (fun r u => r = (nI (HGT c0 du)) ∧ u = [(oX8 g gi0 (nI mn) g2 g3 g4 g5 g6 g7 g8 g9 g10 (nI ml) g12 g13 gi14 g15 g16 g17 gi18 g19 g20 g21 g22 g23 g24 g25 g26 g27 g28 gi29 gi30 (nI mv) gi32 g33 g34 g35 g36 g37 g38 g39 gi40 g41 g42 gi43 g44 g45), (aIc cI g35 8 G35)]) A) [.ref g, .int (nI du)].toArray s 0 0 A) (F0 m 7 ls []) := by
    intro zz
    induction zz with
    | zero => intro i7 h3_7 _ _ _; exact fun h => absurd h (Nat.not_lt_zero _)
    | succ zz ih7 =>
      intro i7 h3_7 hc4_7 hmx_7 hm6_7 hmu7 H locs ls hP hD hS hl
      refine lv_iload hx hb dX8_heightFor_7 (lv_at hl 0 rfl) ?_
      refine lv_bipush (v := 8) hx hb dX8_heightFor_9 (by decide) ?_
      refine lv_icmp_ge (tgt := 43) hx hb dX8_heightFor_11 (by decide) (fun c1 => ?_) (fun c1 => ?_)
      · skip
        have nc1 : 8 ≤ i7 := (nI_leI (a := 8) (b := i7) (by omega) (by omega)).mp c1
        have J43 : ∀ (zz : Nat) (h2_43 h3_43 : Nat), (h2_43 ≤ h3_43) → (h3_43 ≤ h3_7) → (sm (fun k => min (c0 k) h2_43) 8 ≤ du) → (h3_43 = h3_7 ∨ du < sm (fun k => min (c0 k) (h3_43 + 1)) 8) → h3_43 - h2_43 < zz → ∀ (H : Heap) (locs : List Loc) (ls : Array Slot), va_P D vwCl [(oX8 g gi0 (nI mn) g2 g3 g4 g5 g6 g7 g8 g9 g10 (nI ml) g12 g13 gi14 g15 g16 g17 gi18 g19 g20 g21 g22 g23 g24 g25 g26 g27 g28 gi29 gi30 (nI mv) gi32 g33 g34 g35 g36 g37 g38 g39 gi40 g41 g42 gi43 g44 g45), (aIc cI g35 8 G35)] H → va_D A [(oX8 g gi0 (nI mn) g2 g3 g4 g5 g6 g7 g8 g9 g10 (nI ml) g12 g13 gi14 g15 g16 g17 gi18 g19 g20 g21 g22 g23 g24 g25 g26 g27 g28 gi29 gi30 (nI mv) gi32 g33 g34 g35 g36 g37 g38 g39 gi40 g41 g42 gi43 g44 g45), (aIc cI g35 8 G35)] → va_S A s.heap H locs → lv_has ls 5 [(3, .int (nI h3_43)), (2, .int (nI h2_43)), (0, .ref g), (1, .int (nI du))] → W p l e { frames := 2, cells := 0, slots := 0, locals := 45 } s m [.ref g, .int (nI du)].toArray below meth c H locs 0 0 (MQ below (cQi D (fun r u => r = (nI (HGT c0 du)) ∧ u = [(oX8 g gi0 (nI mn) g2 g3 g4 g5 g6 g7 g8 g9 g10 (nI ml) g12 g13 gi14 g15 g16 g17 gi18 g19 g20 g21 g22 g23 g24 g25 g26 g27 g28 gi29 gi30 (nI mv) gi32 g33 g34 g35 g36 g37 g38 g39 gi40 g41 g42 gi43 g44 g45), (aIc cI g35 8 G35)]) A) [.ref g, .int (nI du)].toArray s 0 0 A) (F0 m 43 ls []) := by
          intro zz
          induction zz with
          | zero => intro h2_43 h3_43 _ _ _ _; exact fun h => absurd h (Nat.not_lt_zero _)
          | succ zz ih43 =>
            intro h2_43 h3_43 hlo_43 hhi_43 hS_43 hT_43 hmu43 H locs ls hP hD hS hl
            refine lv_iload_n hx hb dX8_heightFor_43 rfl (lv_at hl 1 rfl) ?_
            refine lv_iload_n hx hb dX8_heightFor_44 rfl (lv_at hl 0 rfl) ?_
            refine lv_icmp_ge (tgt := 83) hx hb dX8_heightFor_45 (by decide) (fun c2 => ?_) (fun c2 => ?_)
            · skip
              have nc2 : h3_43 ≤ h2_43 := (nI_leI (a := h3_43) (b := h2_43) (by omega) (by omega)).mp c2
              refine lv_iload_n hx hb dX8_heightFor_83 rfl (lv_at hl 1 rfl) ?_
              refine k_iret (u := [(oX8 g gi0 (nI mn) g2 g3 g4 g5 g6 g7 g8 g9 g10 (nI ml) g12 g13 gi14 g15 g16 g17 gi18 g19 g20 g21 g22 g23 g24 g25 g26 g27 g28 gi29 gi30 (nI mv) gi32 g33 g34 g35 g36 g37 g38 g39 gi40 g41 g42 gi43 g44 g45), (aIc cI g35 8 G35)]) hx hb hr hlk hP hD hS dX8_heightFor_84 ?_
              exact ⟨(by have h8 : i7 = 8 := (by omega); subst h8; exact congrArg nI (hgt_u (by rw [← hmx_7]; omega) hS_43 (hT_43.elim (fun q => Or.inl (by rw [← hmx_7]; omega)) (fun q => Or.inr (by rw [show h2_43 + 1 = h3_43 + 1 from by omega]; exact q))))), rfl⟩
            · skip
              have nc2 : ¬ h3_43 ≤ h2_43 := fun q9 => c2 ((nI_leI (a := h3_43) (b := h2_43) (by omega) (by omega)).mpr q9)
              refine lv_iload_n hx hb dX8_heightFor_48 rfl (lv_at hl 1 rfl) ?_
              refine lv_iload_n hx hb dX8_heightFor_49 rfl (lv_at hl 0 rfl) ?_
              refine lv_iadd hx hb dX8_heightFor_50 ?_
              refine lv_topi (fun v3 ev3 => ?_)
              obtain rfl : v3 = (nI (h2_43 + h3_43)) := by rw [ev3]; exact nI_add h2_43 h3_43
              refine lv_iconst (v := 1) hx hb dX8_heightFor_51 (by decide) ?_
              refine lv_iadd hx hb dX8_heightFor_52 ?_
              refine lv_topi (fun v4 ev4 => ?_)
              obtain rfl : v4 = (nI ((h2_43 + h3_43) + 1)) := by rw [ev4]; exact nI_add (h2_43 + h3_43) 1
              refine lv_iconst (v := 2) hx hb dX8_heightFor_53 (by decide) ?_
              refine lv_idiv hx hb dX8_heightFor_54 (by decide) ?_
              refine lv_topi (fun v5 ev5 => ?_)
              obtain ⟨at0, eat⟩ : ∃ z : Nat, z = (h2_43 + h3_43 + 1) / 2 := ⟨_, rfl⟩
              obtain rfl : v5 = nI at0 := by rw [ev5, eat]; exact pk_div (by omega) (by decide) (by decide)
              refine lv_istore (lv' := [(4, .int (nI at0)), (3, .int (nI h3_43)), (2, .int (nI h2_43)), (0, .ref g), (1, .int (nI du))]) hx hb dX8_heightFor_55 hl (by decide) rfl (fun ls hl => ?_)
              refine lv_aload_n hx hb dX8_heightFor_57 rfl (lv_at hl 3 rfl) ?_
              refine lv_iload hx hb dX8_heightFor_58 (lv_at hl 0 rfl) ?_
              refine k_lS (va_runV (As := [.int (nI at0)]) (rest := []) ⟨hx, hb, hml, hown, hts⟩ (m_X8_byHeight l D cI cJ H.size g g2 g3 g4 g5 g6 g7 g8 g9 g10 g12 g13 g15 g16 g17 g19 g20 g21 g22 g23 g24 g25 g26 g27 g28 g33 g34 g35 g36 g37 g38 g39 g41 g42 g44 g45 at0 mn ml mv gi0 gi14 gi18 gi29 gi30 gi32 gi40 gi43 G35 c0 hcv hcb (by omega)) (cwV 1 hts gX8_heightFor_X8_byHeight rfl rfl rfl (by decide +kernel) ⟨Nat.le_of_ble_eq_true rfl, Nat.le_of_ble_eq_true rfl⟩) (k_preV hE hP hD [0, 1] (by decide +kernel) rfl 0 rfl rfl) rfl rfl hl.1 rfl (lv_room (Nat.le_of_ble_eq_true rfl)) dX8_heightFor_60 ⟨Nat.le_of_ble_eq_true rfl, Nat.le_of_ble_eq_true rfl⟩) hP hD hS hA [0, 1] rfl (fun _ _ ⟨_, h9⟩ => h9) (fun r6 H locs hw7 hP hD hS => ?_)
              obtain ⟨rfl, -⟩ := hw7
              refine lv_iload_n hx hb dX8_heightFor_63 rfl (lv_at hl 4 rfl) ?_
              refine lv_i2l hx hb dX8_heightFor_64 rfl ?_
              refine k_lcmp_gt (tgt := 75) hx hb dX8_heightFor_65 dX8_heightFor_66 (by decide) (fun c8 => ?_) (fun c8 => ?_)
              · skip
                have hgt : du < sm (fun k => min (c0 k) at0) 8 := (lcv (by omega) (by have := sm_minb hcb at0; omega)).mp c8
                refine lv_iload hx hb dX8_heightFor_75 (lv_at hl 0 rfl) ?_
                refine lv_iconst (v := 1) hx hb dX8_heightFor_77 (by decide) ?_
                refine lv_isub hx hb dX8_heightFor_78 ?_
                refine lv_topi (fun v9 ev9 => ?_)
                obtain rfl : v9 = nI (at0 - 1) := by rw [ev9]; exact pk_sub (a := at0) (b := 1) (by omega)
                refine lv_istore_n (lv' := [(3, .int (nI (at0 - 1))), (4, .int (nI at0)), (2, .int (nI h2_43)), (0, .ref g), (1, .int (nI du))]) hx hb dX8_heightFor_79 rfl hl (by decide) rfl (fun ls hl => ?_)
                refine lv_goto (tgt := 43) hx hb dX8_heightFor_80 (by decide) ?_
                exact ih43 h2_43 (at0 - 1) (by omega) (by omega) hS_43 (Or.inr (by rw [show at0 - 1 + 1 = at0 from by omega]; exact hgt)) (by omega) _ _ _ hP hD hS (lv_sub hl [0, 2, 3, 4] rfl)
              · skip
                have hle : sm (fun k => min (c0 k) at0) 8 ≤ du := Nat.le_of_not_lt (fun q => c8 ((lcv (by omega) (by have := sm_minb hcb at0; omega)).mpr q))
                refine lv_iload hx hb dX8_heightFor_69 (lv_at hl 0 rfl) ?_
                refine lv_istore_n (lv' := [(2, .int (nI at0)), (4, .int (nI at0)), (3, .int (nI h3_43)), (0, .ref g), (1, .int (nI du))]) hx hb dX8_heightFor_71 rfl hl (by decide) rfl (fun ls hl => ?_)
                refine lv_goto (tgt := 80) hx hb dX8_heightFor_72 (by decide) ?_
                refine lv_goto (tgt := 43) hx hb dX8_heightFor_80 (by decide) ?_
                exact ih43 at0 h3_43 (by omega) hhi_43 hle hT_43 (by omega) _ _ _ hP hD hS (lv_sub hl [2, 0, 3, 4] rfl)
        exact J43 _ 0 h3_7 (by omega) (by omega) (by rw [sm_min0]; exact Nat.zero_le _) (Or.inl rfl) (Nat.lt_succ_self _) _ _ _ hP hD hS (lv_sub hl [1, 2, 3, 4] rfl)
      · skip
        have nc1 : ¬ 8 ≤ i7 := fun q9 => c1 ((nI_leI (a := 8) (b := i7) (by omega) (by omega)).mpr q9)
        refine lv_aload_n hx hb dX8_heightFor_14 rfl (lv_at hl 3 rfl) ?_
        refine va_get (D := D) (ci := 8) (v := .ref g35) (C := RX8) (T := TX8) (N := 46) hx hb hts hiX8 hown hE.1 hP 0 rfl rfl 35 (by decide) (hts _ (List.mem_cons_of_mem _ wd_142)) (fun _ h9 => h9) rfl dX8_heightFor_15 ?_
        refine lv_iload hx hb dX8_heightFor_18 (lv_at hl 0 rfl) ?_
        refine va_iald hx hb hE.1 hP 1 0 rfl rfl (vp_in_nI (n := i7) (by omega) (by decide)) dX8_heightFor_20 ?_
        refine lv_topi (fun v10 ev10 => ?_)
        have hcb_ := hcb i7 (by omega)
        obtain rfl : v10 = nI (c0 i7) := ev10.trans (nv_at hcv (by omega))
        refine lv_iload_n hx hb dX8_heightFor_21 rfl (lv_at hl 1 rfl) ?_
        refine lv_icmp_le (tgt := 35) hx hb dX8_heightFor_22 (by decide) (fun c11 => ?_) (fun c11 => ?_)
        · skip
          have nc11 : c0 i7 ≤ h3_7 := (nI_leI (a := (c0 i7)) (b := h3_7) (by omega) (by omega)).mp c11
          refine lv_iload_n hx hb dX8_heightFor_35 rfl (lv_at hl 1 rfl) ?_
          refine lv_istore_n (lv' := [(3, .int (nI h3_7)), (4, .int (nI i7)), (2, .int 0), (0, .ref g), (1, .int (nI du))]) hx hb dX8_heightFor_36 rfl hl (by decide) rfl (fun ls hl => ?_)
          refine lv_iinc (v := (nI (i7 + 1))) (lv' := [(4, .int (nI (i7 + 1))), (3, .int (nI h3_7)), (2, .int 0), (0, .ref g), (1, .int (nI du))]) hx hb dX8_heightFor_37 hl (k := 1) rfl (nI_1 _) (by decide) rfl (fun ls hl => ?_)
          refine lv_goto (tgt := 7) hx hb dX8_heightFor_40 (by decide) ?_
          exact ih7 (i7 + 1) h3_7 (by omega) (by show h3_7 = max (mx c0 i7) (c0 i7); rw [← hmx_7]; omega) hm6_7 (by omega) _ _ _ hP hD hS (lv_sub hl [0, 1, 2, 3, 4] rfl)
        · skip
          have nc11 : ¬ c0 i7 ≤ h3_7 := fun q9 => c11 ((nI_leI (a := (c0 i7)) (b := h3_7) (by omega) (by omega)).mpr q9)
          refine lv_aload_n hx hb dX8_heightFor_25 rfl (lv_at hl 3 rfl) ?_
          refine va_get (D := D) (ci := 8) (v := .ref g35) (C := RX8) (T := TX8) (N := 46) hx hb hts hiX8 hown hE.1 hP 0 rfl rfl 35 (by decide) (hts _ (List.mem_cons_of_mem _ wd_142)) (fun _ h9 => h9) rfl dX8_heightFor_26 ?_
          refine lv_iload hx hb dX8_heightFor_29 (lv_at hl 0 rfl) ?_
          refine va_iald hx hb hE.1 hP 1 0 rfl rfl (vp_in_nI (n := i7) (by omega) (by decide)) dX8_heightFor_31 ?_
          refine lv_topi (fun v12 ev12 => ?_)
          have hcb_ := hcb i7 (by omega)
          obtain rfl : v12 = nI (c0 i7) := ev12.trans (nv_at hcv (by omega))
          refine lv_goto (tgt := 36) hx hb dX8_heightFor_32 (by decide) ?_
          refine lv_istore_n (lv' := [(3, .int (nI (c0 i7))), (4, .int (nI i7)), (2, .int 0), (0, .ref g), (1, .int (nI du))]) hx hb dX8_heightFor_36 rfl hl (by decide) rfl (fun ls hl => ?_)
          refine lv_iinc (v := (nI (i7 + 1))) (lv' := [(4, .int (nI (i7 + 1))), (3, .int (nI (c0 i7))), (2, .int 0), (0, .ref g), (1, .int (nI du))]) hx hb dX8_heightFor_37 hl (k := 1) rfl (nI_1 _) (by decide) rfl (fun ls hl => ?_)
          refine lv_goto (tgt := 7) hx hb dX8_heightFor_40 (by decide) ?_
          exact ih7 (i7 + 1) (c0 i7) (by omega) (by show c0 i7 = max (mx c0 i7) (c0 i7); rw [← hmx_7]; omega) (by omega) (by omega) _ _ _ hP hD hS (lv_sub hl [0, 1, 2, 3, 4] rfl)
  exact J7 _ 0 0 (by omega) rfl (by omega) (Nat.lt_succ_self _) _ _ _ hP hD hS (lv_sub hl [0, 1, 2, 3, 4] rfl)
set_option maxHeartbeats 4000000 in
set_option maxRecDepth 100000 in
theorem e_X8_bySteps (l : Launch) (D : va_G) (cI cJ : ClassId) (sz : Nat) (g g2 g3 g4 g5 g6 g7 g8 g9 g10 g12 g13 g15 g16 g17 g19 g20 g21 g22 g23 g24 g25 g26 g27 g28 g33 g34 g35 g36 g37 g38 g39 g41 g42 g44 g45 du mn ml mv : Nat) (gi0 gi14 gi18 gi29 gi30 gi32 gi40 gi43 : Int32) (G35 G36 : Nat → Int32) (c0 : Nat → Nat) (hcv : nv G35 c0) (hcb : ∀ k, k < 8 → c0 k ≤ 1000000) (hdu : du ≤ 100000000) : Met l yX8_bySteps wtX8_bySteps { frames := 3, cells := 0, slots := 0, locals := 69 } (cPc D cI cJ [.ref g, .int (nI du)] sz [(oX8 g gi0 (nI mn) g2 g3 g4 g5 g6 g7 g8 g9 g10 (nI ml) g12 g13 gi14 g15 g16 g17 gi18 g19 g20 g21 g22 g23 g24 g25 g26 g27 g28 gi29 gi30 (nI mv) gi32 g33 g34 g35 g36 g37 g38 g39 gi40 g41 g42 gi43 g44 g45), (aIc cI g35 8 G35), (aIc cI g36 8 G36)]) (cQv D (fun u => ∃ (G36p : Nat → Int32), (∀ k, k < 8 → G36p k = nI (DS c0 du k)) ∧ u = [(oX8 g gi0 (nI mn) g2 g3 g4 g5 g6 g7 g8 g9 g10 (nI ml) g12 g13 gi14 g15 g16 g17 gi18 g19 g20 g21 g22 g23 g24 g25 g26 g27 g28 gi29 gi30 (nI mv) gi32 g33 g34 g35 g36 g37 g38 g39 gi40 g41 g42 gi43 g44 g45), (aIc cI g35 8 G35), (aIc cI g36 8 G36p)]) (va_A [(oX8 g gi0 (nI mn) g2 g3 g4 g5 g6 g7 g8 g9 g10 (nI ml) g12 g13 gi14 g15 g16 g17 gi18 g19 g20 g21 g22 g23 g24 g25 g26 g27 g28 gi29 gi30 (nI mv) gi32 g33 g34 g35 g36 g37 g38 g39 gi40 g41 g42 gi43 g44 g45), (aIc cI g35 8 G35), (aIc cI g36 8 G36)] sz)) 0 0 (va_A [(oX8 g gi0 (nI mn) g2 g3 g4 g5 g6 g7 g8 g9 g10 (nI ml) g12 g13 gi14 g15 g16 g17 gi18 g19 g20 g21 g22 g23 g24 g25 g26 g27 g28 gi29 gi30 (nI mv) gi32 g33 g34 g35 g36 g37 g38 g39 gi40 g41 g42 gi43 g44 g45), (aIc cI g35 8 G35), (aIc cI g36 8 G36)] sz) := by
  refine k_ofW (Qc := cQv D (fun u => ∃ (G36p : Nat → Int32), (∀ k, k < 8 → G36p k = nI (DS c0 du k)) ∧ u = [(oX8 g gi0 (nI mn) g2 g3 g4 g5 g6 g7 g8 g9 g10 (nI ml) g12 g13 gi14 g15 g16 g17 gi18 g19 g20 g21 g22 g23 g24 g25 g26 g27 g28 gi29 gi30 (nI mv) gi32 g33 g34 g35 g36 g37 g38 g39 gi40 g41 g42 gi43 g44 g45), (aIc cI g35 8 G35), (aIc cI g36 8 G36p)])) (by decide) rfl (Nat.le_of_ble_eq_true rfl) ?_
  intro p e s m below meth c A ls hx hb hr hml hts hown hlk hnm hsz hE hP hD hS hA hl
  have hown : s.vm.findClass RX8 = some m.cls := hown
  have hiX8 : ∀ w ∈ u_ws RX8 TX8 46, w ∈ wtX8_bySteps := fun w h => List.mem_cons_of_mem _ (iuX8 w h)
  have hl : lv_has ls 6 [(0, .ref g), (1, .int (nI du))] := hl
  refine lv_aload_n hx hb dX8_bySteps_0 rfl (lv_at hl 0 rfl) ?_
  refine lv_iload_n hx hb dX8_bySteps_1 rfl (lv_at hl 1 rfl) ?_
  refine k_iS (va_runV (As := [.int (nI du)]) (rest := []) ⟨hx, hb, hml, hown, hts⟩ (e_X8_heightFor l D cI cJ (s.heap).size g g2 g3 g4 g5 g6 g7 g8 g9 g10 g12 g13 g15 g16 g17 g19 g20 g21 g22 g23 g24 g25 g26 g27 g28 g33 g34 g35 g36 g37 g38 g39 g41 g42 g44 g45 du mn ml mv gi0 gi14 gi18 gi29 gi30 gi32 gi40 gi43 G35 c0 hcv hcb hdu) (cwV 1 hts gX8_bySteps_X8_heightFor rfl rfl rfl (by decide +kernel) ⟨Nat.le_of_ble_eq_true rfl, Nat.le_of_ble_eq_true rfl⟩) (k_preV hE hP hD [0, 1] (by decide +kernel) rfl 0 rfl rfl) rfl rfl hl.1 rfl (lv_room (Nat.le_of_ble_eq_true rfl)) dX8_bySteps_2 ⟨Nat.le_of_ble_eq_true rfl, Nat.le_of_ble_eq_true rfl⟩) hP hD hS hA [0, 1] rfl (fun _ _ ⟨_, h9⟩ => h9) (fun r1 H locs hw2 hP hD hS => ?_)
  obtain ⟨rfl, -⟩ := hw2
  refine lv_istore_n (lv' := [(2, .int (nI (HGT c0 du))), (0, .ref g), (1, .int (nI du))]) hx hb dX8_bySteps_5 rfl hl (by decide) rfl (fun ls hl => ?_)
  have hhs : sm (fun k => min (c0 k) (HGT c0 du)) 8 ≤ du := hgt_s (c := c0) (du := du)
  have hhb : HGT c0 du ≤ 1000000 := Nat.le_trans hgt_mx (mx_bound hcb)
  refine lv_iload_n hx hb dX8_bySteps_6 rfl (lv_at hl 2 rfl) ?_
  refine lv_aload_n hx hb dX8_bySteps_7 rfl (lv_at hl 1 rfl) ?_
  refine lv_iload_n hx hb dX8_bySteps_8 rfl (lv_at hl 0 rfl) ?_
  refine k_lS (va_runV (As := [.int (nI (HGT c0 du))]) (rest := [.int (nI du)]) ⟨hx, hb, hml, hown, hts⟩ (m_X8_byHeight l D cI cJ H.size g g2 g3 g4 g5 g6 g7 g8 g9 g10 g12 g13 g15 g16 g17 g19 g20 g21 g22 g23 g24 g25 g26 g27 g28 g33 g34 g35 g36 g37 g38 g39 g41 g42 g44 g45 (HGT c0 du) mn ml mv gi0 gi14 gi18 gi29 gi30 gi32 gi40 gi43 G35 c0 hcv hcb (by omega)) (cwV 1 hts gX8_bySteps_X8_byHeight rfl rfl rfl (by decide +kernel) ⟨Nat.le_of_ble_eq_true rfl, Nat.le_of_ble_eq_true rfl⟩) (k_preV hE hP hD [0, 1] (by decide +kernel) rfl 0 rfl rfl) rfl rfl hl.1 rfl (lv_room (Nat.le_of_ble_eq_true rfl)) dX8_bySteps_9 ⟨Nat.le_of_ble_eq_true rfl, Nat.le_of_ble_eq_true rfl⟩) hP hD hS hA [0, 1] rfl (fun _ _ ⟨_, h9⟩ => h9) (fun r3 H locs hw4 hP hD hS => ?_)
  obtain ⟨rfl, -⟩ := hw4
  refine lv_l2i hx hb dX8_bySteps_12 rfl ?_
  refine lv_topi (fun v5 ev5 => ?_)
  obtain rfl : v5 = nI (sm (fun k => min (c0 k) (HGT c0 du)) 8) := by rw [ev5]; exact lN_i _
  refine lv_isub hx hb dX8_bySteps_13 ?_
  refine lv_topi (fun v6 ev6 => ?_)
  obtain rfl : v6 = nI (du - sm (fun k => min (c0 k) (HGT c0 du)) 8) := by rw [ev6]; exact pk_sub (by omega)
  obtain ⟨ov0, eov⟩ : ∃ z : Nat, z = du - sm (fun k => min (c0 k) (HGT c0 du)) 8 := ⟨_, rfl⟩
  rw [← eov]
  refine lv_istore_n (lv' := [(3, .int (nI ov0)), (2, .int (nI (HGT c0 du))), (0, .ref g), (1, .int (nI du))]) hx hb dX8_bySteps_14 rfl hl (by decide) rfl (fun ls hl => ?_)
  refine lv_iconst (v := 0) hx hb dX8_bySteps_15 (by decide) ?_
  refine lv_istore (lv' := [(4, .int 0), (3, .int (nI ov0)), (2, .int (nI (HGT c0 du))), (0, .ref g), (1, .int (nI du))]) hx hb dX8_bySteps_16 hl (by decide) rfl (fun ls hl => ?_)
  have J18 : ∀ (zz : Nat) (i18 h3_18 : Nat) (a_g36_18 : Nat → Int32), (i18 ≤ 8) → (∀ k, k < i18 → a_g36_18 k = nI (DST c0 (HGT c0 du) ov0 k)) → (h3_18 = ov0 - min ov0 (cnt c0 (HGT c0 du) i18)) → (8 - i18) < zz → ∀ (H : Heap) (locs : List Loc) (ls : Array Slot), va_P D vwCl [(oX8 g gi0 (nI mn) g2 g3 g4 g5 g6 g7 g8 g9 g10 (nI ml) g12 g13 gi14 g15 g16 g17 gi18 g19 g20 g21 g22 g23 g24 g25 g26 g27 g28 gi29 gi30 (nI mv) gi32 g33 g34 g35 g36 g37 g38 g39 gi40 g41 g42 gi43 g44 g45), (aIc cI g35 8 G35), (aIc cI g36 8 a_g36_18)] H → va_D A [(oX8 g gi0 (nI mn) g2 g3 g4 g5 g6 g7 g8 g9 g10 (nI ml) g12 g13 gi14 g15 g16 g17 gi18 g19 g20 g21 g22 g23 g24 g25 g26 g27 g28 gi29 gi30 (nI mv) gi32 g33 g34 g35 g36 g37 g38 g39 gi40 g41 g42 gi43 g44 g45), (aIc cI g35 8 G35), (aIc cI g36 8 a_g36_18)] → va_S A s.heap H locs → lv_has ls 6 [(4, .int (nI i18)), (3, .int (nI h3_18)), (2, .int (nI (HGT c0 du))), (0, .ref g), (1, .int (nI du))] → W p l e { frames := 3, cells := 0, slots := 0, locals := 69 } s m [.ref g, .int (nI du)].toArray below meth c H locs 0 0 (MQ below (cQv D (fun u => ∃ (G36p : Nat → Int32), (∀ k, k < 8 → G36p k = nI (DS c0 du k)) ∧ u = [(oX8 g gi0 (nI mn) g2 g3 g4 g5 g6 g7 g8 g9 g10 (nI ml) g12 g13 gi14 g15 g16 g17 gi18 g19 g20 g21 g22 g23 g24 g25 g26 g27 g28 gi29 gi30 (nI mv) gi32 g33 g34 g35 g36 g37 g38 g39 gi40 g41 g42 gi43 g44 g45), (aIc cI g35 8 G35), (aIc cI g36 8 G36p)]) A) [.ref g, .int (nI du)].toArray s 0 0 A) (F0 m 18 ls []) := by
    intro zz
    induction zz with
    | zero => intro i18 h3_18 a_g36_18 _ _ _; exact fun h => absurd h (Nat.not_lt_zero _)
    | succ zz ih18 =>
      intro i18 h3_18 a_g36_18 hc4_18 hds_18 hrr_18 hmu18 H locs ls hP hD hS hl
      refine lv_iload hx hb dX8_bySteps_18 (lv_at hl 0 rfl) ?_
      refine lv_bipush (v := 8) hx hb dX8_bySteps_20 (by decide) ?_
      refine lv_icmp_ge (tgt := 95) hx hb dX8_bySteps_22 (by decide) (fun c7 => ?_) (fun c7 => ?_)
      · skip
        have nc7 : 8 ≤ i18 := (nI_leI (a := 8) (b := i18) (by omega) (by omega)).mp c7
        refine k_vret (u := [(oX8 g gi0 (nI mn) g2 g3 g4 g5 g6 g7 g8 g9 g10 (nI ml) g12 g13 gi14 g15 g16 g17 gi18 g19 g20 g21 g22 g23 g24 g25 g26 g27 g28 gi29 gi30 (nI mv) gi32 g33 g34 g35 g36 g37 g38 g39 gi40 g41 g42 gi43 g44 g45), (aIc cI g35 8 G35), (aIc cI g36 8 a_g36_18)]) hx hb hr hlk hP hD hS dX8_bySteps_95 ?_
        exact ⟨a_g36_18, (fun k hk => by have h9 := hds_18 k (by omega); rw [eov] at h9; exact h9), rfl⟩
      · skip
        have nc7 : ¬ 8 ≤ i18 := fun q9 => c7 ((nI_leI (a := 8) (b := i18) (by omega) (by omega)).mpr q9)
        refine lv_aload_n hx hb dX8_bySteps_25 rfl (lv_at hl 3 rfl) ?_
        refine va_get (D := D) (ci := 8) (v := .ref g35) (C := RX8) (T := TX8) (N := 46) hx hb hts hiX8 hown hE.1 hP 0 rfl rfl 35 (by decide) (hts _ (List.mem_cons_of_mem _ wd_142)) (fun _ h9 => h9) rfl dX8_bySteps_26 ?_
        refine lv_iload hx hb dX8_bySteps_29 (lv_at hl 0 rfl) ?_
        refine va_iald hx hb hE.1 hP 1 0 rfl rfl (vp_in_nI (n := i18) (by omega) (by decide)) dX8_bySteps_31 ?_
        refine lv_topi (fun v8 ev8 => ?_)
        have hcb_ := hcb i18 (by omega)
        obtain rfl : v8 = nI (c0 i18) := ev8.trans (nv_at hcv (by omega))
        refine lv_iload_n hx hb dX8_bySteps_32 rfl (lv_at hl 2 rfl) ?_
        refine lv_icmp_le (tgt := 44) hx hb dX8_bySteps_33 (by decide) (fun c9 => ?_) (fun c9 => ?_)
        · skip
          have nc9 : c0 i18 ≤ HGT c0 du := (nI_leI (a := (c0 i18)) (b := (HGT c0 du)) (by omega) (by omega)).mp c9
          refine lv_iconst (v := 0) hx hb dX8_bySteps_44 (by decide) ?_
          refine lv_istore (lv' := [(5, .int 0), (4, .int (nI i18)), (3, .int (nI h3_18)), (2, .int (nI (HGT c0 du))), (0, .ref g), (1, .int (nI du))]) hx hb dX8_bySteps_45 hl (by decide) rfl (fun ls hl => ?_)
          refine lv_aload_n hx hb dX8_bySteps_47 rfl (lv_at hl 4 rfl) ?_
          refine va_get (D := D) (ci := 8) (v := .ref g36) (C := RX8) (T := TX8) (N := 46) hx hb hts hiX8 hown hE.1 hP 0 rfl rfl 36 (by decide) (hts _ (List.mem_cons_of_mem _ wd_143)) (fun _ h9 => h9) rfl dX8_bySteps_48 ?_
          refine lv_iload hx hb dX8_bySteps_51 (lv_at hl 1 rfl) ?_
          refine lv_aload_n hx hb dX8_bySteps_53 rfl (lv_at hl 4 rfl) ?_
          refine va_get (D := D) (ci := 8) (v := .ref g35) (C := RX8) (T := TX8) (N := 46) hx hb hts hiX8 hown hE.1 hP 0 rfl rfl 35 (by decide) (hts _ (List.mem_cons_of_mem _ wd_142)) (fun _ h9 => h9) rfl dX8_bySteps_54 ?_
          refine lv_iload hx hb dX8_bySteps_57 (lv_at hl 1 rfl) ?_
          refine va_iald hx hb hE.1 hP 1 0 rfl rfl (vp_in_nI (n := i18) (by omega) (by decide)) dX8_bySteps_59 ?_
          refine lv_topi (fun v10 ev10 => ?_)
          have hcb_ := hcb i18 (by omega)
          obtain rfl : v10 = nI (c0 i18) := ev10.trans (nv_at hcv (by omega))
          refine lv_iload_n hx hb dX8_bySteps_60 rfl (lv_at hl 3 rfl) ?_
          refine k_iS (va_runS (As := [.int (nI (c0 i18)), .int (nI (HGT c0 du))]) (rest := [.int (nI i18), .ref g36]) ⟨hx, hb, hml, hown, hts⟩ (m_X8_least l D cI cJ H.size (c0 i18) (HGT c0 du) (by omega) (by omega)) (va_cwS 2 hts gX8_bySteps_X8_least rfl rfl rfl (by decide +kernel) ⟨Nat.le_of_ble_eq_true rfl, Nat.le_of_ble_eq_true rfl⟩) (k_pre hE hP hD [] (by decide +kernel) rfl) rfl rfl hl.1 rfl (lv_room (Nat.le_of_ble_eq_true rfl)) dX8_bySteps_61 ⟨Nat.le_of_ble_eq_true rfl, Nat.le_of_ble_eq_true rfl⟩) hP hD hS hA [] rfl (fun _ _ ⟨_, h9⟩ => h9) (fun r11 H locs hw12 hP hD hS => ?_)
          obtain ⟨rfl, -⟩ := hw12
          refine lv_iload hx hb dX8_bySteps_64 (lv_at hl 0 rfl) ?_
          refine lv_if_eq (tgt := 73) hx hb dX8_bySteps_66 (by decide) (fun _ => ?_) (fun c13 => absurd (by decide) c13)
          refine lv_iconst (v := 0) hx hb dX8_bySteps_73 (by decide) ?_
          refine lv_iadd hx hb dX8_bySteps_74 ?_
          refine lv_topi (fun v14 ev14 => ?_)
          obtain rfl : v14 = (nI (min (c0 i18) (HGT c0 du))) := by rw [ev14]; exact nI_add (min (c0 i18) (HGT c0 du)) 0
          refine va_iast hx hb hE.1 hP hD hS 2 0 rfl rfl (vp_in_nI (n := i18) (by omega) (by decide)) dX8_bySteps_75 (fun H locs hP hD hS => ?_)
          refine k_re (w := [(oX8 g gi0 (nI mn) g2 g3 g4 g5 g6 g7 g8 g9 g10 (nI ml) g12 g13 gi14 g15 g16 g17 gi18 g19 g20 g21 g22 g23 g24 g25 g26 g27 g28 gi29 gi30 (nI mv) gi32 g33 g34 g35 g36 g37 g38 g39 gi40 g41 g42 gi43 g44 g45), (aIc cI g35 8 G35), (aIc cI g36 8 (upd a_g36_18 (Int32.toNatClampNeg (nI i18)) (nI (min (c0 i18) (HGT c0 du)))))]) hP hD (fun hP hD => ?_)
          refine lv_iload_n hx hb dX8_bySteps_76 rfl (lv_at hl 2 rfl) ?_
          refine lv_iload hx hb dX8_bySteps_77 (lv_at hl 0 rfl) ?_
          refine lv_if_eq (tgt := 86) hx hb dX8_bySteps_79 (by decide) (fun _ => ?_) (fun c15 => absurd (by decide) c15)
          refine lv_iconst (v := 0) hx hb dX8_bySteps_86 (by decide) ?_
          refine lv_isub hx hb dX8_bySteps_87 ?_
          refine lv_topi (fun v16 ev16 => ?_)
          obtain rfl : v16 = nI (h3_18 - 0) := by rw [ev16]; exact pk_sub (a := h3_18) (b := 0) (by omega)
          refine lv_istore_n (lv' := [(3, .int (nI (h3_18 - 0))), (5, .int 0), (4, .int (nI i18)), (2, .int (nI (HGT c0 du))), (0, .ref g), (1, .int (nI du))]) hx hb dX8_bySteps_88 rfl hl (by decide) rfl (fun ls hl => ?_)
          refine lv_iinc (v := (nI (i18 + 1))) (lv' := [(4, .int (nI (i18 + 1))), (3, .int (nI (h3_18 - 0))), (5, .int 0), (2, .int (nI (HGT c0 du))), (0, .ref g), (1, .int (nI du))]) hx hb dX8_bySteps_89 hl (k := 2) rfl (nI_1 _) (by decide) rfl (fun ls hl => ?_)
          refine lv_goto (tgt := 18) hx hb dX8_bySteps_92 (by decide) ?_
          have hcs9 : cnt c0 (HGT c0 du) (i18 + 1) = cnt c0 (HGT c0 du) i18 + (if HGT c0 du < c0 i18 then 1 else 0) := cnt_s
          rw [if_neg (by omega)] at hcs9
          exact ih18 (i18 + 1) (h3_18 - 0) (upd a_g36_18 (Int32.toNatClampNeg (nI i18)) (nI (min (c0 i18) (HGT c0 du)))) (by omega) (row_up (by omega) hds_18 (by rw [dst_n (fun z9 => by omega)])) (by omega) (by omega) _ _ _ hP hD hS (lv_sub hl [0, 1, 3, 4, 5] rfl)
        · skip
          have nc9 : ¬ c0 i18 ≤ HGT c0 du := fun q9 => c9 ((nI_leI (a := (c0 i18)) (b := (HGT c0 du)) (by omega) (by omega)).mpr q9)
          refine lv_iload_n hx hb dX8_bySteps_36 rfl (lv_at hl 1 rfl) ?_
          refine lv_if_le (tgt := 44) hx hb dX8_bySteps_37 (by decide) (fun c17 => ?_) (fun c17 => ?_)
          · skip
            have nc17 : h3_18 ≤ 0 := (nI_leI (a := h3_18) (b := 0) (by omega) (by omega)).mp c17
            refine lv_iconst (v := 0) hx hb dX8_bySteps_44 (by decide) ?_
            refine lv_istore (lv' := [(5, .int 0), (4, .int (nI i18)), (3, .int (nI h3_18)), (2, .int (nI (HGT c0 du))), (0, .ref g), (1, .int (nI du))]) hx hb dX8_bySteps_45 hl (by decide) rfl (fun ls hl => ?_)
            refine lv_aload_n hx hb dX8_bySteps_47 rfl (lv_at hl 4 rfl) ?_
            refine va_get (D := D) (ci := 8) (v := .ref g36) (C := RX8) (T := TX8) (N := 46) hx hb hts hiX8 hown hE.1 hP 0 rfl rfl 36 (by decide) (hts _ (List.mem_cons_of_mem _ wd_143)) (fun _ h9 => h9) rfl dX8_bySteps_48 ?_
            refine lv_iload hx hb dX8_bySteps_51 (lv_at hl 1 rfl) ?_
            refine lv_aload_n hx hb dX8_bySteps_53 rfl (lv_at hl 4 rfl) ?_
            refine va_get (D := D) (ci := 8) (v := .ref g35) (C := RX8) (T := TX8) (N := 46) hx hb hts hiX8 hown hE.1 hP 0 rfl rfl 35 (by decide) (hts _ (List.mem_cons_of_mem _ wd_142)) (fun _ h9 => h9) rfl dX8_bySteps_54 ?_
            refine lv_iload hx hb dX8_bySteps_57 (lv_at hl 1 rfl) ?_
            refine va_iald hx hb hE.1 hP 1 0 rfl rfl (vp_in_nI (n := i18) (by omega) (by decide)) dX8_bySteps_59 ?_
            refine lv_topi (fun v18 ev18 => ?_)
            have hcb_ := hcb i18 (by omega)
            obtain rfl : v18 = nI (c0 i18) := ev18.trans (nv_at hcv (by omega))
            refine lv_iload_n hx hb dX8_bySteps_60 rfl (lv_at hl 3 rfl) ?_
            refine k_iS (va_runS (As := [.int (nI (c0 i18)), .int (nI (HGT c0 du))]) (rest := [.int (nI i18), .ref g36]) ⟨hx, hb, hml, hown, hts⟩ (m_X8_least l D cI cJ H.size (c0 i18) (HGT c0 du) (by omega) (by omega)) (va_cwS 2 hts gX8_bySteps_X8_least rfl rfl rfl (by decide +kernel) ⟨Nat.le_of_ble_eq_true rfl, Nat.le_of_ble_eq_true rfl⟩) (k_pre hE hP hD [] (by decide +kernel) rfl) rfl rfl hl.1 rfl (lv_room (Nat.le_of_ble_eq_true rfl)) dX8_bySteps_61 ⟨Nat.le_of_ble_eq_true rfl, Nat.le_of_ble_eq_true rfl⟩) hP hD hS hA [] rfl (fun _ _ ⟨_, h9⟩ => h9) (fun r19 H locs hw20 hP hD hS => ?_)
            obtain ⟨rfl, -⟩ := hw20
            refine lv_iload hx hb dX8_bySteps_64 (lv_at hl 0 rfl) ?_
            refine lv_if_eq (tgt := 73) hx hb dX8_bySteps_66 (by decide) (fun _ => ?_) (fun c21 => absurd (by decide) c21)
            refine lv_iconst (v := 0) hx hb dX8_bySteps_73 (by decide) ?_
            refine lv_iadd hx hb dX8_bySteps_74 ?_
            refine lv_topi (fun v22 ev22 => ?_)
            obtain rfl : v22 = (nI (min (c0 i18) (HGT c0 du))) := by rw [ev22]; exact nI_add (min (c0 i18) (HGT c0 du)) 0
            refine va_iast hx hb hE.1 hP hD hS 2 0 rfl rfl (vp_in_nI (n := i18) (by omega) (by decide)) dX8_bySteps_75 (fun H locs hP hD hS => ?_)
            refine k_re (w := [(oX8 g gi0 (nI mn) g2 g3 g4 g5 g6 g7 g8 g9 g10 (nI ml) g12 g13 gi14 g15 g16 g17 gi18 g19 g20 g21 g22 g23 g24 g25 g26 g27 g28 gi29 gi30 (nI mv) gi32 g33 g34 g35 g36 g37 g38 g39 gi40 g41 g42 gi43 g44 g45), (aIc cI g35 8 G35), (aIc cI g36 8 (upd a_g36_18 (Int32.toNatClampNeg (nI i18)) (nI (min (c0 i18) (HGT c0 du)))))]) hP hD (fun hP hD => ?_)
            refine lv_iload_n hx hb dX8_bySteps_76 rfl (lv_at hl 2 rfl) ?_
            refine lv_iload hx hb dX8_bySteps_77 (lv_at hl 0 rfl) ?_
            refine lv_if_eq (tgt := 86) hx hb dX8_bySteps_79 (by decide) (fun _ => ?_) (fun c23 => absurd (by decide) c23)
            refine lv_iconst (v := 0) hx hb dX8_bySteps_86 (by decide) ?_
            refine lv_isub hx hb dX8_bySteps_87 ?_
            refine lv_topi (fun v24 ev24 => ?_)
            obtain rfl : v24 = nI (h3_18 - 0) := by rw [ev24]; exact pk_sub (a := h3_18) (b := 0) (by omega)
            refine lv_istore_n (lv' := [(3, .int (nI (h3_18 - 0))), (5, .int 0), (4, .int (nI i18)), (2, .int (nI (HGT c0 du))), (0, .ref g), (1, .int (nI du))]) hx hb dX8_bySteps_88 rfl hl (by decide) rfl (fun ls hl => ?_)
            refine lv_iinc (v := (nI (i18 + 1))) (lv' := [(4, .int (nI (i18 + 1))), (3, .int (nI (h3_18 - 0))), (5, .int 0), (2, .int (nI (HGT c0 du))), (0, .ref g), (1, .int (nI du))]) hx hb dX8_bySteps_89 hl (k := 2) rfl (nI_1 _) (by decide) rfl (fun ls hl => ?_)
            refine lv_goto (tgt := 18) hx hb dX8_bySteps_92 (by decide) ?_
            have hcs9 : cnt c0 (HGT c0 du) (i18 + 1) = cnt c0 (HGT c0 du) i18 + (if HGT c0 du < c0 i18 then 1 else 0) := cnt_s
            rw [if_pos (by omega)] at hcs9
            exact ih18 (i18 + 1) (h3_18 - 0) (upd a_g36_18 (Int32.toNatClampNeg (nI i18)) (nI (min (c0 i18) (HGT c0 du)))) (by omega) (row_up (by omega) hds_18 (by rw [dst_n (fun z9 => by omega)])) (by omega) (by omega) _ _ _ hP hD hS (lv_sub hl [0, 1, 3, 4, 5] rfl)
          · skip
            have nc17 : ¬ h3_18 ≤ 0 := fun q9 => c17 ((nI_leI (a := h3_18) (b := 0) (by omega) (by omega)).mpr q9)
            refine lv_iconst (v := 1) hx hb dX8_bySteps_40 (by decide) ?_
            refine lv_goto (tgt := 45) hx hb dX8_bySteps_41 (by decide) ?_
            refine lv_istore (lv' := [(5, .int 1), (4, .int (nI i18)), (3, .int (nI h3_18)), (2, .int (nI (HGT c0 du))), (0, .ref g), (1, .int (nI du))]) hx hb dX8_bySteps_45 hl (by decide) rfl (fun ls hl => ?_)
            refine lv_aload_n hx hb dX8_bySteps_47 rfl (lv_at hl 4 rfl) ?_
            refine va_get (D := D) (ci := 8) (v := .ref g36) (C := RX8) (T := TX8) (N := 46) hx hb hts hiX8 hown hE.1 hP 0 rfl rfl 36 (by decide) (hts _ (List.mem_cons_of_mem _ wd_143)) (fun _ h9 => h9) rfl dX8_bySteps_48 ?_
            refine lv_iload hx hb dX8_bySteps_51 (lv_at hl 1 rfl) ?_
            refine lv_aload_n hx hb dX8_bySteps_53 rfl (lv_at hl 4 rfl) ?_
            refine va_get (D := D) (ci := 8) (v := .ref g35) (C := RX8) (T := TX8) (N := 46) hx hb hts hiX8 hown hE.1 hP 0 rfl rfl 35 (by decide) (hts _ (List.mem_cons_of_mem _ wd_142)) (fun _ h9 => h9) rfl dX8_bySteps_54 ?_
            refine lv_iload hx hb dX8_bySteps_57 (lv_at hl 1 rfl) ?_
            refine va_iald hx hb hE.1 hP 1 0 rfl rfl (vp_in_nI (n := i18) (by omega) (by decide)) dX8_bySteps_59 ?_
            refine lv_topi (fun v25 ev25 => ?_)
            have hcb_ := hcb i18 (by omega)
            obtain rfl : v25 = nI (c0 i18) := ev25.trans (nv_at hcv (by omega))
            refine lv_iload_n hx hb dX8_bySteps_60 rfl (lv_at hl 3 rfl) ?_
            refine k_iS (va_runS (As := [.int (nI (c0 i18)), .int (nI (HGT c0 du))]) (rest := [.int (nI i18), .ref g36]) ⟨hx, hb, hml, hown, hts⟩ (m_X8_least l D cI cJ H.size (c0 i18) (HGT c0 du) (by omega) (by omega)) (va_cwS 2 hts gX8_bySteps_X8_least rfl rfl rfl (by decide +kernel) ⟨Nat.le_of_ble_eq_true rfl, Nat.le_of_ble_eq_true rfl⟩) (k_pre hE hP hD [] (by decide +kernel) rfl) rfl rfl hl.1 rfl (lv_room (Nat.le_of_ble_eq_true rfl)) dX8_bySteps_61 ⟨Nat.le_of_ble_eq_true rfl, Nat.le_of_ble_eq_true rfl⟩) hP hD hS hA [] rfl (fun _ _ ⟨_, h9⟩ => h9) (fun r26 H locs hw27 hP hD hS => ?_)
            obtain ⟨rfl, -⟩ := hw27
            refine lv_iload hx hb dX8_bySteps_64 (lv_at hl 0 rfl) ?_
            refine lv_if_eq (tgt := 73) hx hb dX8_bySteps_66 (by decide) (fun c28 => absurd c28 (by decide)) (fun _ => ?_)
            refine lv_iconst (v := 1) hx hb dX8_bySteps_69 (by decide) ?_
            refine lv_goto (tgt := 74) hx hb dX8_bySteps_70 (by decide) ?_
            refine lv_iadd hx hb dX8_bySteps_74 ?_
            refine lv_topi (fun v29 ev29 => ?_)
            obtain rfl : v29 = (nI ((min (c0 i18) (HGT c0 du)) + 1)) := by rw [ev29]; exact nI_add (min (c0 i18) (HGT c0 du)) 1
            refine va_iast hx hb hE.1 hP hD hS 2 0 rfl rfl (vp_in_nI (n := i18) (by omega) (by decide)) dX8_bySteps_75 (fun H locs hP hD hS => ?_)
            refine k_re (w := [(oX8 g gi0 (nI mn) g2 g3 g4 g5 g6 g7 g8 g9 g10 (nI ml) g12 g13 gi14 g15 g16 g17 gi18 g19 g20 g21 g22 g23 g24 g25 g26 g27 g28 gi29 gi30 (nI mv) gi32 g33 g34 g35 g36 g37 g38 g39 gi40 g41 g42 gi43 g44 g45), (aIc cI g35 8 G35), (aIc cI g36 8 (upd a_g36_18 (Int32.toNatClampNeg (nI i18)) (nI ((min (c0 i18) (HGT c0 du)) + 1))))]) hP hD (fun hP hD => ?_)
            refine lv_iload_n hx hb dX8_bySteps_76 rfl (lv_at hl 2 rfl) ?_
            refine lv_iload hx hb dX8_bySteps_77 (lv_at hl 0 rfl) ?_
            refine lv_if_eq (tgt := 86) hx hb dX8_bySteps_79 (by decide) (fun c30 => absurd c30 (by decide)) (fun _ => ?_)
            refine lv_iconst (v := 1) hx hb dX8_bySteps_82 (by decide) ?_
            refine lv_goto (tgt := 87) hx hb dX8_bySteps_83 (by decide) ?_
            refine lv_isub hx hb dX8_bySteps_87 ?_
            refine lv_topi (fun v31 ev31 => ?_)
            obtain rfl : v31 = nI (h3_18 - 1) := by rw [ev31]; exact pk_sub (a := h3_18) (b := 1) (by omega)
            refine lv_istore_n (lv' := [(3, .int (nI (h3_18 - 1))), (5, .int 1), (4, .int (nI i18)), (2, .int (nI (HGT c0 du))), (0, .ref g), (1, .int (nI du))]) hx hb dX8_bySteps_88 rfl hl (by decide) rfl (fun ls hl => ?_)
            refine lv_iinc (v := (nI (i18 + 1))) (lv' := [(4, .int (nI (i18 + 1))), (3, .int (nI (h3_18 - 1))), (5, .int 1), (2, .int (nI (HGT c0 du))), (0, .ref g), (1, .int (nI du))]) hx hb dX8_bySteps_89 hl (k := 2) rfl (nI_1 _) (by decide) rfl (fun ls hl => ?_)
            refine lv_goto (tgt := 18) hx hb dX8_bySteps_92 (by decide) ?_
            have hcs9 : cnt c0 (HGT c0 du) (i18 + 1) = cnt c0 (HGT c0 du) i18 + (if HGT c0 du < c0 i18 then 1 else 0) := cnt_s
            rw [if_pos (by omega)] at hcs9
            exact ih18 (i18 + 1) (h3_18 - 1) (upd a_g36_18 (Int32.toNatClampNeg (nI i18)) (nI ((min (c0 i18) (HGT c0 du)) + 1))) (by omega) (row_up (by omega) hds_18 (by rw [dst_y ⟨by omega, by omega⟩])) (by omega) (by omega) _ _ _ hP hD hS (lv_sub hl [0, 1, 3, 4, 5] rfl)
  exact J18 _ 0 ov0 G36 (by omega) (fun k hk => absurd hk (Nat.not_lt_zero k)) (by show ov0 = ov0 - min ov0 0; omega) (Nat.lt_succ_self _) _ _ _ hP hD hS (lv_sub hl [0, 1, 2, 3, 4] rfl)
set_option maxHeartbeats 4000000 in
set_option maxRecDepth 100000 in
theorem e_X8_byCaps (l : Launch) (D : va_G) (cI cJ : ClassId) (sz : Nat) (g g2 g3 g4 g5 g6 g7 g8 g9 g10 g12 g13 g15 g16 g17 g19 g20 g21 g22 g23 g24 g25 g26 g27 g28 g33 g34 g35 g36 g37 g38 g39 g41 g42 g44 g45 du mn ml mv : Nat) (gi0 gi14 gi18 gi29 gi30 gi32 gi40 gi43 : Int32) (G35 G36 : Nat → Int32) (G37 : Nat → Int64) (c0 : Nat → Nat) (hcv : nv G35 c0) (hcb : ∀ k, k < 8 → c0 k ≤ 1000000) (hdu : du ≤ 100000000) (hsum : du ≤ sm c0 8) (hS0 : 0 < sm c0 8) (hSb : sm c0 8 < 2 ^ 31) : Met l yX8_byCaps wtX8_byCaps { frames := 0, cells := 0, slots := 0, locals := 0 } (cPc D cI cJ [.ref g, .int (nI du), .long (lN (sm c0 8))] sz [(oX8 g gi0 (nI mn) g2 g3 g4 g5 g6 g7 g8 g9 g10 (nI ml) g12 g13 gi14 g15 g16 g17 gi18 g19 g20 g21 g22 g23 g24 g25 g26 g27 g28 gi29 gi30 (nI mv) gi32 g33 g34 g35 g36 g37 g38 g39 gi40 g41 g42 gi43 g44 g45), (aIc cI g35 8 G35), (aIc cI g36 8 G36), (aJc cJ g37 8 G37)]) (cQv D (fun u => ∃ (G36p : Nat → Int32) (G37p : Nat → Int64), (∀ k, k < 8 → G36p k = nI (DC c0 du k)) ∧ u = [(oX8 g gi0 (nI mn) g2 g3 g4 g5 g6 g7 g8 g9 g10 (nI ml) g12 g13 gi14 g15 g16 g17 gi18 g19 g20 g21 g22 g23 g24 g25 g26 g27 g28 gi29 gi30 (nI mv) gi32 g33 g34 g35 g36 g37 g38 g39 gi40 g41 g42 gi43 g44 g45), (aIc cI g35 8 G35), (aIc cI g36 8 G36p), (aJc cJ g37 8 G37p)]) (va_A [(oX8 g gi0 (nI mn) g2 g3 g4 g5 g6 g7 g8 g9 g10 (nI ml) g12 g13 gi14 g15 g16 g17 gi18 g19 g20 g21 g22 g23 g24 g25 g26 g27 g28 gi29 gi30 (nI mv) gi32 g33 g34 g35 g36 g37 g38 g39 gi40 g41 g42 gi43 g44 g45), (aIc cI g35 8 G35), (aIc cI g36 8 G36), (aJc cJ g37 8 G37)] sz)) 0 0 (va_A [(oX8 g gi0 (nI mn) g2 g3 g4 g5 g6 g7 g8 g9 g10 (nI ml) g12 g13 gi14 g15 g16 g17 gi18 g19 g20 g21 g22 g23 g24 g25 g26 g27 g28 gi29 gi30 (nI mv) gi32 g33 g34 g35 g36 g37 g38 g39 gi40 g41 g42 gi43 g44 g45), (aIc cI g35 8 G35), (aIc cI g36 8 G36), (aJc cJ g37 8 G37)] sz) := by
  refine k_ofW (Qc := cQv D (fun u => ∃ (G36p : Nat → Int32) (G37p : Nat → Int64), (∀ k, k < 8 → G36p k = nI (DC c0 du k)) ∧ u = [(oX8 g gi0 (nI mn) g2 g3 g4 g5 g6 g7 g8 g9 g10 (nI ml) g12 g13 gi14 g15 g16 g17 gi18 g19 g20 g21 g22 g23 g24 g25 g26 g27 g28 gi29 gi30 (nI mv) gi32 g33 g34 g35 g36 g37 g38 g39 gi40 g41 g42 gi43 g44 g45), (aIc cI g35 8 G35), (aIc cI g36 8 G36p), (aJc cJ g37 8 G37p)])) (by decide) rfl (Nat.le_of_ble_eq_true rfl) ?_
  intro p e s m below meth c A ls hx hb hr hml hts hown hlk hnm hsz hE hP hD hS hA hl
  have hown : s.vm.findClass RX8 = some m.cls := hown
  have hiX8 : ∀ w ∈ u_ws RX8 TX8 46, w ∈ wtX8_byCaps := fun w h => List.mem_cons_of_mem _ (iuX8 w h)
  have hl : lv_has ls 7 [(0, .ref g), (1, .int (nI du)), (2, .long (lN (sm c0 8)))] := hl
  refine lv_iload_n hx hb dX8_byCaps_0 rfl (lv_at hl 1 rfl) ?_
  refine lv_istore (lv' := [(4, .int (nI du)), (0, .ref g), (1, .int (nI du)), (2, .long (lN (sm c0 8)))]) hx hb dX8_byCaps_1 hl (by decide) rfl (fun ls hl => ?_)
  refine lv_iconst (v := 0) hx hb dX8_byCaps_3 (by decide) ?_
  refine lv_istore (lv' := [(5, .int 0), (4, .int (nI du)), (0, .ref g), (1, .int (nI du)), (2, .long (lN (sm c0 8)))]) hx hb dX8_byCaps_4 hl (by decide) rfl (fun ls hl => ?_)
  have J6 : ∀ (zz : Nat) (i6 h4_6 : Nat) (a_g36_6 : Nat → Int32) (a_g37_6 : Nat → Int64), (i6 ≤ 8) → (BL a_g36_6 a_g37_6 c0 du (sm c0 8) i6) → (h4_6 = du - sm (fun k => du * c0 k / sm c0 8) i6) → (8 - i6) < zz → ∀ (H : Heap) (locs : List Loc) (ls : Array Slot), va_P D vwCl [(oX8 g gi0 (nI mn) g2 g3 g4 g5 g6 g7 g8 g9 g10 (nI ml) g12 g13 gi14 g15 g16 g17 gi18 g19 g20 g21 g22 g23 g24 g25 g26 g27 g28 gi29 gi30 (nI mv) gi32 g33 g34 g35 g36 g37 g38 g39 gi40 g41 g42 gi43 g44 g45), (aIc cI g35 8 G35), (aIc cI g36 8 a_g36_6), (aJc cJ g37 8 a_g37_6)] H → va_D A [(oX8 g gi0 (nI mn) g2 g3 g4 g5 g6 g7 g8 g9 g10 (nI ml) g12 g13 gi14 g15 g16 g17 gi18 g19 g20 g21 g22 g23 g24 g25 g26 g27 g28 gi29 gi30 (nI mv) gi32 g33 g34 g35 g36 g37 g38 g39 gi40 g41 g42 gi43 g44 g45), (aIc cI g35 8 G35), (aIc cI g36 8 a_g36_6), (aJc cJ g37 8 a_g37_6)] → va_S A s.heap H locs → lv_has ls 7 [(5, .int (nI i6)), (4, .int (nI h4_6)), (0, .ref g), (1, .int (nI du)), (2, .long (lN (sm c0 8)))] → W p l e { frames := 0, cells := 0, slots := 0, locals := 0 } s m [.ref g, .int (nI du), .long (lN (sm c0 8))].toArray below meth c H locs 0 0 (MQ below (cQv D (fun u => ∃ (G36p : Nat → Int32) (G37p : Nat → Int64), (∀ k, k < 8 → G36p k = nI (DC c0 du k)) ∧ u = [(oX8 g gi0 (nI mn) g2 g3 g4 g5 g6 g7 g8 g9 g10 (nI ml) g12 g13 gi14 g15 g16 g17 gi18 g19 g20 g21 g22 g23 g24 g25 g26 g27 g28 gi29 gi30 (nI mv) gi32 g33 g34 g35 g36 g37 g38 g39 gi40 g41 g42 gi43 g44 g45), (aIc cI g35 8 G35), (aIc cI g36 8 G36p), (aJc cJ g37 8 G37p)]) A) [.ref g, .int (nI du), .long (lN (sm c0 8))].toArray s 0 0 A) (F0 m 6 ls []) := by
    intro zz
    induction zz with
    | zero => intro i6 h4_6 a_g36_6 a_g37_6 _ _ _; exact fun h => absurd h (Nat.not_lt_zero _)
    | succ zz ih6 =>
      intro i6 h4_6 a_g36_6 a_g37_6 hc5_6 hbl_6 hov_6 hmu6 H locs ls hP hD hS hl
      refine lv_iload hx hb dX8_byCaps_6 (lv_at hl 0 rfl) ?_
      refine lv_bipush (v := 8) hx hb dX8_byCaps_8 (by decide) ?_
      refine lv_icmp_ge (tgt := 72) hx hb dX8_byCaps_10 (by decide) (fun c1 => ?_) (fun c1 => ?_)
      · skip
        have nc1 : 8 ≤ i6 := (nI_leI (a := 8) (b := i6) (by omega) (by omega)).mp c1
        have J72 : ∀ (zz : Nat) (h4_72 : Nat) (a_g36_72 : Nat → Int32) (a_g37_72 : Nat → Int64), (∀ k, k < 8 → a_g36_72 k = nI (dcp (rmz c0 du) (flz c0 du) (h4_6 - h4_72) k)) → (∀ k, k < 8 → a_g37_72 k = dcs (rmz c0 du) (h4_6 - h4_72) k) → (h4_72 ≤ h4_6) → h4_72 < zz → ∀ (H : Heap) (locs : List Loc) (ls : Array Slot), va_P D vwCl [(oX8 g gi0 (nI mn) g2 g3 g4 g5 g6 g7 g8 g9 g10 (nI ml) g12 g13 gi14 g15 g16 g17 gi18 g19 g20 g21 g22 g23 g24 g25 g26 g27 g28 gi29 gi30 (nI mv) gi32 g33 g34 g35 g36 g37 g38 g39 gi40 g41 g42 gi43 g44 g45), (aIc cI g35 8 G35), (aIc cI g36 8 a_g36_72), (aJc cJ g37 8 a_g37_72)] H → va_D A [(oX8 g gi0 (nI mn) g2 g3 g4 g5 g6 g7 g8 g9 g10 (nI ml) g12 g13 gi14 g15 g16 g17 gi18 g19 g20 g21 g22 g23 g24 g25 g26 g27 g28 gi29 gi30 (nI mv) gi32 g33 g34 g35 g36 g37 g38 g39 gi40 g41 g42 gi43 g44 g45), (aIc cI g35 8 G35), (aIc cI g36 8 a_g36_72), (aJc cJ g37 8 a_g37_72)] → va_S A s.heap H locs → lv_has ls 7 [(4, .int (nI h4_72)), (0, .ref g), (1, .int (nI du)), (2, .long (lN (sm c0 8)))] → W p l e { frames := 0, cells := 0, slots := 0, locals := 0 } s m [.ref g, .int (nI du), .long (lN (sm c0 8))].toArray below meth c H locs 0 0 (MQ below (cQv D (fun u => ∃ (G36p : Nat → Int32) (G37p : Nat → Int64), (∀ k, k < 8 → G36p k = nI (DC c0 du k)) ∧ u = [(oX8 g gi0 (nI mn) g2 g3 g4 g5 g6 g7 g8 g9 g10 (nI ml) g12 g13 gi14 g15 g16 g17 gi18 g19 g20 g21 g22 g23 g24 g25 g26 g27 g28 gi29 gi30 (nI mv) gi32 g33 g34 g35 g36 g37 g38 g39 gi40 g41 g42 gi43 g44 g45), (aIc cI g35 8 G35), (aIc cI g36 8 G36p), (aJc cJ g37 8 G37p)]) A) [.ref g, .int (nI du), .long (lN (sm c0 8))].toArray s 0 0 A) (F0 m 72 ls []) := by
          intro zz
          induction zz with
          | zero => intro h4_72 a_g36_72 a_g37_72 _ _ _; exact fun h => absurd h (Nat.not_lt_zero _)
          | succ zz ih72 =>
            intro h4_72 a_g36_72 a_g37_72 hpp_72 hrr_72 hov2_72 hmu72 H locs ls hP hD hS hl
            refine lv_iload hx hb dX8_byCaps_72 (lv_at hl 0 rfl) ?_
            refine lv_if_le (tgt := 150) hx hb dX8_byCaps_74 (by decide) (fun c2 => ?_) (fun c2 => ?_)
            · skip
              have nc2 : h4_72 ≤ 0 := (nI_leI (a := h4_72) (b := 0) (by omega) (by omega)).mp c2
              refine k_vret (u := [(oX8 g gi0 (nI mn) g2 g3 g4 g5 g6 g7 g8 g9 g10 (nI ml) g12 g13 gi14 g15 g16 g17 gi18 g19 g20 g21 g22 g23 g24 g25 g26 g27 g28 gi29 gi30 (nI mv) gi32 g33 g34 g35 g36 g37 g38 g39 gi40 g41 g42 gi43 g44 g45), (aIc cI g35 8 G35), (aIc cI g36 8 a_g36_72), (aJc cJ g37 8 a_g37_72)]) hx hb hr hlk hP hD hS dX8_byCaps_150 ?_
              exact ⟨a_g36_72, a_g37_72, (fun k hk => by have h9 := hpp_72 k hk; rw [show h4_6 - h4_72 = du - sm (flz c0 du) 8 from by have h8 : i6 = 8 := (by omega); rw [h8] at hov_6; have h7 : h4_6 = du - sm (flz c0 du) 8 := hov_6; omega] at h9; exact h9), rfl⟩
            · skip
              have nc2 : ¬ h4_72 ≤ 0 := fun q9 => c2 ((nI_leI (a := h4_72) (b := 0) (by omega) (by omega)).mpr q9)
              refine lv_iconst (v := 0) hx hb dX8_byCaps_77 (by decide) ?_
              refine lv_istore (lv' := [(5, .int 0), (4, .int (nI h4_72)), (0, .ref g), (1, .int (nI du)), (2, .long (lN (sm c0 8)))]) hx hb dX8_byCaps_78 hl (by decide) rfl (fun ls hl => ?_)
              refine lv_iconst (v := 1) hx hb dX8_byCaps_80 (by decide) ?_
              refine lv_istore (lv' := [(6, .int 1), (5, .int 0), (4, .int (nI h4_72)), (0, .ref g), (1, .int (nI du)), (2, .long (lN (sm c0 8)))]) hx hb dX8_byCaps_81 hl (by decide) rfl (fun ls hl => ?_)
              have J83 : ∀ (zz : Nat) (j83 h5_83 : Nat), (j83 ≤ 8) → (h5_83 = fm a_g37_72 j83) → (h5_83 < 8) → (1 ≤ j83) → (8 - j83) < zz → ∀ (H : Heap) (locs : List Loc) (ls : Array Slot), va_P D vwCl [(oX8 g gi0 (nI mn) g2 g3 g4 g5 g6 g7 g8 g9 g10 (nI ml) g12 g13 gi14 g15 g16 g17 gi18 g19 g20 g21 g22 g23 g24 g25 g26 g27 g28 gi29 gi30 (nI mv) gi32 g33 g34 g35 g36 g37 g38 g39 gi40 g41 g42 gi43 g44 g45), (aIc cI g35 8 G35), (aIc cI g36 8 a_g36_72), (aJc cJ g37 8 a_g37_72)] H → va_D A [(oX8 g gi0 (nI mn) g2 g3 g4 g5 g6 g7 g8 g9 g10 (nI ml) g12 g13 gi14 g15 g16 g17 gi18 g19 g20 g21 g22 g23 g24 g25 g26 g27 g28 gi29 gi30 (nI mv) gi32 g33 g34 g35 g36 g37 g38 g39 gi40 g41 g42 gi43 g44 g45), (aIc cI g35 8 G35), (aIc cI g36 8 a_g36_72), (aJc cJ g37 8 a_g37_72)] → va_S A s.heap H locs → lv_has ls 7 [(6, .int (nI j83)), (5, .int (nI h5_83)), (4, .int (nI h4_72)), (0, .ref g), (1, .int (nI du)), (2, .long (lN (sm c0 8)))] → W p l e { frames := 0, cells := 0, slots := 0, locals := 0 } s m [.ref g, .int (nI du), .long (lN (sm c0 8))].toArray below meth c H locs 0 0 (MQ below (cQv D (fun u => ∃ (G36p : Nat → Int32) (G37p : Nat → Int64), (∀ k, k < 8 → G36p k = nI (DC c0 du k)) ∧ u = [(oX8 g gi0 (nI mn) g2 g3 g4 g5 g6 g7 g8 g9 g10 (nI ml) g12 g13 gi14 g15 g16 g17 gi18 g19 g20 g21 g22 g23 g24 g25 g26 g27 g28 gi29 gi30 (nI mv) gi32 g33 g34 g35 g36 g37 g38 g39 gi40 g41 g42 gi43 g44 g45), (aIc cI g35 8 G35), (aIc cI g36 8 G36p), (aJc cJ g37 8 G37p)]) A) [.ref g, .int (nI du), .long (lN (sm c0 8))].toArray s 0 0 A) (F0 m 83 ls []) := by
                intro zz
                induction zz with
                | zero => intro j83 h5_83 _ _ _ _; exact fun h => absurd h (Nat.not_lt_zero _)
                | succ zz ih83 =>
                  intro j83 h5_83 hc6_83 hm_83 hb8_83 hj1_83 hmu83 H locs ls hP hD hS hl
                  refine lv_iload hx hb dX8_byCaps_83 (lv_at hl 0 rfl) ?_
                  refine lv_bipush (v := 8) hx hb dX8_byCaps_85 (by decide) ?_
                  refine lv_icmp_ge (tgt := 123) hx hb dX8_byCaps_87 (by decide) (fun c3 => ?_) (fun c3 => ?_)
                  · skip
                    have nc3 : 8 ≤ j83 := (nI_leI (a := 8) (b := j83) (by omega) (by omega)).mp c3
                    refine lv_aload_n hx hb dX8_byCaps_123 rfl (lv_at hl 3 rfl) ?_
                    refine va_get (D := D) (ci := 8) (v := .ref g36) (C := RX8) (T := TX8) (N := 46) hx hb hts hiX8 hown hE.1 hP 0 rfl rfl 36 (by decide) (hts _ (List.mem_cons_of_mem _ wd_143)) (fun _ h9 => h9) rfl dX8_byCaps_124 ?_
                    refine lv_iload hx hb dX8_byCaps_127 (lv_at hl 1 rfl) ?_
                    refine lv_dup2_11 hx hb dX8_byCaps_129 rfl rfl ?_
                    refine va_iald hx hb hE.1 hP 2 0 rfl rfl (vp_in_nI (n := h5_83) (by omega) (by decide)) dX8_byCaps_130 ?_
                    refine lv_topi (fun v4 ev4 => ?_)
                    refine lv_iconst (v := 1) hx hb dX8_byCaps_131 (by decide) ?_
                    refine lv_iadd hx hb dX8_byCaps_132 ?_
                    refine lv_topi (fun v5 ev5 => ?_)
                    refine va_iast hx hb hE.1 hP hD hS 2 0 rfl rfl (vp_in_nI (n := h5_83) (by omega) (by decide)) dX8_byCaps_133 (fun H locs hP hD hS => ?_)
                    refine k_re (w := [(oX8 g gi0 (nI mn) g2 g3 g4 g5 g6 g7 g8 g9 g10 (nI ml) g12 g13 gi14 g15 g16 g17 gi18 g19 g20 g21 g22 g23 g24 g25 g26 g27 g28 gi29 gi30 (nI mv) gi32 g33 g34 g35 g36 g37 g38 g39 gi40 g41 g42 gi43 g44 g45), (aIc cI g35 8 G35), (aIc cI g36 8 (upd a_g36_72 (Int32.toNatClampNeg (nI h5_83)) v5)), (aJc cJ g37 8 a_g37_72)]) hP hD (fun hP hD => ?_)
                    refine lv_aload_n hx hb dX8_byCaps_134 rfl (lv_at hl 3 rfl) ?_
                    refine va_get (D := D) (ci := 8) (v := .ref g37) (C := RX8) (T := TX8) (N := 46) hx hb hts hiX8 hown hE.1 hP 0 rfl rfl 37 (by decide) (hts _ (List.mem_cons_of_mem _ wd_144)) (fun _ h9 => h9) rfl dX8_byCaps_135 ?_
                    refine lv_iload hx hb dX8_byCaps_138 (lv_at hl 1 rfl) ?_
                    refine lv_ldc2 (v := (-1)) hx hb hown (hts _ (List.mem_cons_of_mem _ wd_225)) dX8_byCaps_140 ?_
                    refine va_last hx hb hE.1 hP hD hS 3 1 rfl rfl (vp_in_nI (n := h5_83) (by omega) (by decide)) dX8_byCaps_143 (fun H locs hP hD hS => ?_)
                    refine k_re (w := [(oX8 g gi0 (nI mn) g2 g3 g4 g5 g6 g7 g8 g9 g10 (nI ml) g12 g13 gi14 g15 g16 g17 gi18 g19 g20 g21 g22 g23 g24 g25 g26 g27 g28 gi29 gi30 (nI mv) gi32 g33 g34 g35 g36 g37 g38 g39 gi40 g41 g42 gi43 g44 g45), (aIc cI g35 8 G35), (aIc cI g36 8 (upd a_g36_72 (Int32.toNatClampNeg (nI h5_83)) v5)), (aJc cJ g37 8 (vp_updL a_g37_72 (Int32.toNatClampNeg (nI h5_83)) (-1)))]) hP hD (fun hP hD => ?_)
                    obtain ⟨v6, ev6⟩ : ∃ y : Int32, y = (nI h4_72) + (-1) := ⟨_, rfl⟩
                    refine lv_iinc (v := v6) (lv' := [(4, .int v6), (6, .int (nI j83)), (5, .int (nI h5_83)), (0, .ref g), (1, .int (nI du)), (2, .long (lN (sm c0 8)))]) hx hb dX8_byCaps_144 hl (k := 2) rfl (by rw [ev6]; rfl) (by decide) rfl (fun ls hl => ?_)
                    obtain rfl : v6 = nI (h4_72 - 1) := by rw [ev6]; exact pm1 (by omega)
                    refine lv_goto (tgt := 72) hx hb dX8_byCaps_147 (by decide) ?_
                    have hj8 : j83 = 8 := by omega
                    have hst9 := dcr_step hpp_72 hrr_72 (m := h5_83) (by rw [hm_83, hj8]) ev4 ev5
                    have hii : h4_6 - (h4_72 - 1) = h4_6 - h4_72 + 1 := by omega
                    exact ih72 (h4_72 - 1) (upd a_g36_72 (Int32.toNatClampNeg (nI h5_83)) v5) (vp_updL a_g37_72 (Int32.toNatClampNeg (nI h5_83)) (-1)) (by rw [hii]; exact hst9.1) (by rw [hii]; exact hst9.2) (by omega) (by omega) _ _ _ hP hD hS (lv_sub hl [0, 3, 4, 5] rfl)
                  · skip
                    have nc3 : ¬ 8 ≤ j83 := fun q9 => c3 ((nI_leI (a := 8) (b := j83) (by omega) (by omega)).mpr q9)
                    refine lv_aload_n hx hb dX8_byCaps_90 rfl (lv_at hl 3 rfl) ?_
                    refine va_get (D := D) (ci := 8) (v := .ref g37) (C := RX8) (T := TX8) (N := 46) hx hb hts hiX8 hown hE.1 hP 0 rfl rfl 37 (by decide) (hts _ (List.mem_cons_of_mem _ wd_144)) (fun _ h9 => h9) rfl dX8_byCaps_91 ?_
                    refine lv_iload hx hb dX8_byCaps_94 (lv_at hl 0 rfl) ?_
                    refine va_lald hx hb hE.1 hP 3 1 rfl rfl (vp_in_nI (n := j83) (by omega) (by decide)) dX8_byCaps_96 ?_
                    refine lv_topl (fun v7 ev7 => ?_)
                    refine lv_aload_n hx hb dX8_byCaps_97 rfl (lv_at hl 3 rfl) ?_
                    refine va_get (D := D) (ci := 8) (v := .ref g37) (C := RX8) (T := TX8) (N := 46) hx hb hts hiX8 hown hE.1 hP 0 rfl rfl 37 (by decide) (hts _ (List.mem_cons_of_mem _ wd_144)) (fun _ h9 => h9) rfl dX8_byCaps_98 ?_
                    refine lv_iload hx hb dX8_byCaps_101 (lv_at hl 1 rfl) ?_
                    refine va_lald hx hb hE.1 hP 3 1 rfl rfl (vp_in_nI (n := h5_83) (by omega) (by decide)) dX8_byCaps_103 ?_
                    refine lv_topl (fun v8 ev8 => ?_)
                    refine k_lcmp_le (tgt := 113) hx hb dX8_byCaps_104 dX8_byCaps_105 (by decide) (fun c9 => ?_) (fun c9 => ?_)
                    · skip
                      refine lv_iload hx hb dX8_byCaps_113 (lv_at hl 1 rfl) ?_
                      refine lv_istore (lv' := [(5, .int (nI h5_83)), (6, .int (nI j83)), (4, .int (nI h4_72)), (0, .ref g), (1, .int (nI du)), (2, .long (lN (sm c0 8)))]) hx hb dX8_byCaps_115 hl (by decide) rfl (fun ls hl => ?_)
                      refine lv_iinc (v := (nI (j83 + 1))) (lv' := [(6, .int (nI (j83 + 1))), (5, .int (nI h5_83)), (4, .int (nI h4_72)), (0, .ref g), (1, .int (nI du)), (2, .long (lN (sm c0 8)))]) hx hb dX8_byCaps_117 hl (k := 1) rfl (nI_1 _) (by decide) rfl (fun ls hl => ?_)
                      refine lv_goto (tgt := 83) hx hb dX8_byCaps_120 (by decide) ?_
                      exact ih83 (j83 + 1) h5_83 (by omega) (fm_keep (by omega) hm_83 hb8_83 ev7 ev8 c9) hb8_83 (by omega) (by omega) _ _ _ hP hD hS (lv_sub hl [0, 1, 2, 3, 4, 5] rfl)
                    · skip
                      refine lv_iload hx hb dX8_byCaps_108 (lv_at hl 0 rfl) ?_
                      refine lv_goto (tgt := 115) hx hb dX8_byCaps_110 (by decide) ?_
                      refine lv_istore (lv' := [(5, .int (nI j83)), (6, .int (nI j83)), (4, .int (nI h4_72)), (0, .ref g), (1, .int (nI du)), (2, .long (lN (sm c0 8)))]) hx hb dX8_byCaps_115 hl (by decide) rfl (fun ls hl => ?_)
                      refine lv_iinc (v := (nI (j83 + 1))) (lv' := [(6, .int (nI (j83 + 1))), (5, .int (nI j83)), (4, .int (nI h4_72)), (0, .ref g), (1, .int (nI du)), (2, .long (lN (sm c0 8)))]) hx hb dX8_byCaps_117 hl (k := 1) rfl (nI_1 _) (by decide) rfl (fun ls hl => ?_)
                      refine lv_goto (tgt := 83) hx hb dX8_byCaps_120 (by decide) ?_
                      exact ih83 (j83 + 1) j83 (by omega) (fm_new (by omega) hm_83 hb8_83 ev7 ev8 c9) (by omega) (by omega) (by omega) _ _ _ hP hD hS (lv_sub hl [0, 1, 2, 3, 4, 5] rfl)
              exact J83 _ 1 0 (by omega) fm_1.symm (by omega) (by omega) (Nat.lt_succ_self _) _ _ _ hP hD hS (lv_sub hl [0, 1, 2, 3, 4, 5] rfl)
        obtain rfl : i6 = 8 := (by omega)
        exact J72 _ h4_6 a_g36_6 a_g37_6 (by rw [Nat.sub_self]; exact fun k hk => (hbl_6 k hk).1) (by rw [Nat.sub_self]; exact fun k hk => (hbl_6 k hk).2) (by omega) (Nat.lt_succ_self _) _ _ _ hP hD hS (lv_sub hl [1, 2, 3, 4] rfl)
      · skip
        have nc1 : ¬ 8 ≤ i6 := fun q9 => c1 ((nI_leI (a := 8) (b := i6) (by omega) (by omega)).mpr q9)
        refine lv_aload_n hx hb dX8_byCaps_13 rfl (lv_at hl 2 rfl) ?_
        refine va_get (D := D) (ci := 8) (v := .ref g36) (C := RX8) (T := TX8) (N := 46) hx hb hts hiX8 hown hE.1 hP 0 rfl rfl 36 (by decide) (hts _ (List.mem_cons_of_mem _ wd_143)) (fun _ h9 => h9) rfl dX8_byCaps_14 ?_
        refine lv_iload hx hb dX8_byCaps_17 (lv_at hl 0 rfl) ?_
        refine lv_iload_n hx hb dX8_byCaps_19 rfl (lv_at hl 3 rfl) ?_
        refine lv_i2l hx hb dX8_byCaps_20 rfl ?_
        refine lv_aload_n hx hb dX8_byCaps_21 rfl (lv_at hl 2 rfl) ?_
        refine va_get (D := D) (ci := 8) (v := .ref g35) (C := RX8) (T := TX8) (N := 46) hx hb hts hiX8 hown hE.1 hP 0 rfl rfl 35 (by decide) (hts _ (List.mem_cons_of_mem _ wd_142)) (fun _ h9 => h9) rfl dX8_byCaps_22 ?_
        refine lv_iload hx hb dX8_byCaps_25 (lv_at hl 0 rfl) ?_
        refine va_iald hx hb hE.1 hP 1 0 rfl rfl (vp_in_nI (n := i6) (by omega) (by decide)) dX8_byCaps_27 ?_
        refine lv_topi (fun v10 ev10 => ?_)
        have hcb_ := hcb i6 (by omega)
        obtain rfl : v10 = nI (c0 i6) := ev10.trans (nv_at hcv (by omega))
        refine lv_i2l hx hb dX8_byCaps_28 rfl ?_
        refine lv_lmul hx hb dX8_byCaps_29 ?_
        refine lv_topl (fun v11 ev11 => ?_)
        refine lv_lload_n hx hb dX8_byCaps_30 rfl (lv_at hl 4 rfl) ?_
        refine lv_ldiv hx hb dX8_byCaps_31 (lN_ne hS0 hSb) ?_
        refine lv_topl (fun v12 ev12 => ?_)
        refine lv_l2i hx hb dX8_byCaps_32 rfl ?_
        refine lv_topi (fun v13 ev13 => ?_)
        obtain rfl : v13 = nI (du * c0 i6 / sm c0 8) := bc_div hdu (hcb i6 (by omega)) hS0 hSb ev11 ev12 ev13
        refine va_iast hx hb hE.1 hP hD hS 2 0 rfl rfl (vp_in_nI (n := i6) (by omega) (by decide)) dX8_byCaps_33 (fun H locs hP hD hS => ?_)
        refine k_re (w := [(oX8 g gi0 (nI mn) g2 g3 g4 g5 g6 g7 g8 g9 g10 (nI ml) g12 g13 gi14 g15 g16 g17 gi18 g19 g20 g21 g22 g23 g24 g25 g26 g27 g28 gi29 gi30 (nI mv) gi32 g33 g34 g35 g36 g37 g38 g39 gi40 g41 g42 gi43 g44 g45), (aIc cI g35 8 G35), (aIc cI g36 8 (upd a_g36_6 (Int32.toNatClampNeg (nI i6)) (nI (du * c0 i6 / sm c0 8)))), (aJc cJ g37 8 a_g37_6)]) hP hD (fun hP hD => ?_)
        refine lv_aload_n hx hb dX8_byCaps_34 rfl (lv_at hl 2 rfl) ?_
        refine va_get (D := D) (ci := 8) (v := .ref g37) (C := RX8) (T := TX8) (N := 46) hx hb hts hiX8 hown hE.1 hP 0 rfl rfl 37 (by decide) (hts _ (List.mem_cons_of_mem _ wd_144)) (fun _ h9 => h9) rfl dX8_byCaps_35 ?_
        refine lv_iload hx hb dX8_byCaps_38 (lv_at hl 0 rfl) ?_
        refine lv_iload_n hx hb dX8_byCaps_40 rfl (lv_at hl 3 rfl) ?_
        refine lv_i2l hx hb dX8_byCaps_41 rfl ?_
        refine lv_aload_n hx hb dX8_byCaps_42 rfl (lv_at hl 2 rfl) ?_
        refine va_get (D := D) (ci := 8) (v := .ref g35) (C := RX8) (T := TX8) (N := 46) hx hb hts hiX8 hown hE.1 hP 0 rfl rfl 35 (by decide) (hts _ (List.mem_cons_of_mem _ wd_142)) (fun _ h9 => h9) rfl dX8_byCaps_43 ?_
        refine lv_iload hx hb dX8_byCaps_46 (lv_at hl 0 rfl) ?_
        refine va_iald hx hb hE.1 hP 1 0 rfl rfl (vp_in_nI (n := i6) (by omega) (by decide)) dX8_byCaps_48 ?_
        refine lv_topi (fun v14 ev14 => ?_)
        have hcb_ := hcb i6 (by omega)
        obtain rfl : v14 = nI (c0 i6) := ev14.trans (nv_at hcv (by omega))
        refine lv_i2l hx hb dX8_byCaps_49 rfl ?_
        refine lv_lmul hx hb dX8_byCaps_50 ?_
        refine lv_topl (fun v15 ev15 => ?_)
        refine lv_lload_n hx hb dX8_byCaps_51 rfl (lv_at hl 4 rfl) ?_
        refine lv_lrem hx hb dX8_byCaps_52 (lN_ne hS0 hSb) ?_
        refine lv_topl (fun v16 ev16 => ?_)
        have hrm : v16 = lN (du * c0 i6 % sm c0 8) := bc_rem hdu (hcb i6 (by omega)) hS0 hSb ev15 ev16
        refine va_last hx hb hE.1 hP hD hS 3 1 rfl rfl (vp_in_nI (n := i6) (by omega) (by decide)) dX8_byCaps_53 (fun H locs hP hD hS => ?_)
        refine k_re (w := [(oX8 g gi0 (nI mn) g2 g3 g4 g5 g6 g7 g8 g9 g10 (nI ml) g12 g13 gi14 g15 g16 g17 gi18 g19 g20 g21 g22 g23 g24 g25 g26 g27 g28 gi29 gi30 (nI mv) gi32 g33 g34 g35 g36 g37 g38 g39 gi40 g41 g42 gi43 g44 g45), (aIc cI g35 8 G35), (aIc cI g36 8 (upd a_g36_6 (Int32.toNatClampNeg (nI i6)) (nI (du * c0 i6 / sm c0 8)))), (aJc cJ g37 8 (vp_updL a_g37_6 (Int32.toNatClampNeg (nI i6)) v16))]) hP hD (fun hP hD => ?_)
        refine lv_iload hx hb dX8_byCaps_54 (lv_at hl 1 rfl) ?_
        refine lv_aload_n hx hb dX8_byCaps_56 rfl (lv_at hl 2 rfl) ?_
        refine va_get (D := D) (ci := 8) (v := .ref g36) (C := RX8) (T := TX8) (N := 46) hx hb hts hiX8 hown hE.1 hP 0 rfl rfl 36 (by decide) (hts _ (List.mem_cons_of_mem _ wd_143)) (fun _ h9 => h9) rfl dX8_byCaps_57 ?_
        refine lv_iload hx hb dX8_byCaps_60 (lv_at hl 0 rfl) ?_
        refine va_iald hx hb hE.1 hP 2 0 rfl rfl (vp_in_nI (n := i6) (by omega) (by decide)) dX8_byCaps_62 ?_
        refine lv_topi (fun v17 ev17 => ?_)
        obtain rfl : v17 = nI (du * c0 i6 / sm c0 8) := by rw [ev17]; exact pk_us
        have hfl : sm (fun k => du * c0 k / sm c0 8) (i6 + 1) ≤ du := fl_le hS0 (sm_mono c0 (by omega))
        have hfs : sm (fun k => du * c0 k / sm c0 8) (i6 + 1) = sm (fun k => du * c0 k / sm c0 8) i6 + du * c0 i6 / sm c0 8 := rfl
        refine lv_isub hx hb dX8_byCaps_63 ?_
        refine lv_topi (fun v18 ev18 => ?_)
        obtain rfl : v18 = nI (h4_6 - du * c0 i6 / sm c0 8) := by rw [ev18]; exact pk_sub (by omega)
        refine lv_istore (lv' := [(4, .int (nI (h4_6 - du * c0 i6 / sm c0 8))), (5, .int (nI i6)), (0, .ref g), (1, .int (nI du)), (2, .long (lN (sm c0 8)))]) hx hb dX8_byCaps_64 hl (by decide) rfl (fun ls hl => ?_)
        refine lv_iinc (v := (nI (i6 + 1))) (lv' := [(5, .int (nI (i6 + 1))), (4, .int (nI (h4_6 - du * c0 i6 / sm c0 8))), (0, .ref g), (1, .int (nI du)), (2, .long (lN (sm c0 8)))]) hx hb dX8_byCaps_66 hl (k := 1) rfl (nI_1 _) (by decide) rfl (fun ls hl => ?_)
        refine lv_goto (tgt := 6) hx hb dX8_byCaps_69 (by decide) ?_
        exact ih6 (i6 + 1) (h4_6 - du * c0 i6 / sm c0 8) (upd a_g36_6 (Int32.toNatClampNeg (nI i6)) (nI (du * c0 i6 / sm c0 8))) (vp_updL a_g37_6 (Int32.toNatClampNeg (nI i6)) v16) (by omega) (bl_step (by omega) hbl_6 rfl hrm) (hov_step hov_6 hfs hfl) (by omega) _ _ _ hP hD hS (lv_sub hl [0, 1, 2, 3, 4] rfl)
  exact J6 _ 0 du G36 G37 (by omega) (fun k hk => absurd hk (Nat.not_lt_zero k)) rfl (Nat.lt_succ_self _) _ _ _ hP hD hS (lv_sub hl [0, 1, 2, 3, 4] rfl)
set_option maxHeartbeats 4000000 in
set_option maxRecDepth 100000 in
theorem e_X8_shares (l : Launch) (D : va_G) (cI cJ : ClassId) (sz : Nat) (g g2 g3 g4 g5 g6 g7 g8 g9 g10 g12 g13 g15 g16 g17 g19 g20 g21 g22 g23 g24 g25 g26 g27 g28 g33 g34 g35 g36 g37 g38 g39 g41 g42 g44 g45 mu0 mn ml mv : Nat) (gi0 gi14 gi18 gi29 gi30 gi32 gi40 gi43 : Int32) (G35 G36 : Nat → Int32) (G37 : Nat → Int64) (c0 : Nat → Nat) (hcv : nv G35 c0) (hcb : ∀ k, k < 8 → c0 k ≤ 1000000) (hmu : mu0 ≤ 100000000) : Met l yX8_shares wtX8_shares { frames := 4, cells := 0, slots := 0, locals := 94 } (cPc D cI cJ [.ref g, .int (nI mu0)] sz [(oX8 g gi0 (nI mn) g2 g3 g4 g5 g6 g7 g8 g9 g10 (nI ml) g12 g13 gi14 g15 g16 g17 gi18 g19 g20 g21 g22 g23 g24 g25 g26 g27 g28 gi29 gi30 (nI mv) gi32 g33 g34 g35 g36 g37 g38 g39 gi40 g41 g42 gi43 g44 g45), (aIc cI g35 8 G35), (aIc cI g36 8 G36), (aJc cJ g37 8 G37)]) (cQi D (fun r u => ∃ (G36p : Nat → Int32) (G37p : Nat → Int64), (∀ k, k < 8 → G36p k = nI (DIV gi14 c0 (min (sm c0 8) mu0) k)) ∧ r = (nI (min (sm c0 8) mu0)) ∧ u = [(oX8 g gi0 (nI mn) g2 g3 g4 g5 g6 g7 g8 g9 g10 (nI ml) g12 g13 gi14 g15 g16 g17 gi18 g19 g20 g21 g22 g23 g24 g25 g26 g27 g28 gi29 gi30 (nI mv) gi32 g33 g34 g35 g36 g37 g38 g39 gi40 g41 g42 gi43 g44 g45), (aIc cI g35 8 G35), (aIc cI g36 8 G36p), (aJc cJ g37 8 G37p)]) (va_A [(oX8 g gi0 (nI mn) g2 g3 g4 g5 g6 g7 g8 g9 g10 (nI ml) g12 g13 gi14 g15 g16 g17 gi18 g19 g20 g21 g22 g23 g24 g25 g26 g27 g28 gi29 gi30 (nI mv) gi32 g33 g34 g35 g36 g37 g38 g39 gi40 g41 g42 gi43 g44 g45), (aIc cI g35 8 G35), (aIc cI g36 8 G36), (aJc cJ g37 8 G37)] sz)) 0 0 (va_A [(oX8 g gi0 (nI mn) g2 g3 g4 g5 g6 g7 g8 g9 g10 (nI ml) g12 g13 gi14 g15 g16 g17 gi18 g19 g20 g21 g22 g23 g24 g25 g26 g27 g28 gi29 gi30 (nI mv) gi32 g33 g34 g35 g36 g37 g38 g39 gi40 g41 g42 gi43 g44 g45), (aIc cI g35 8 G35), (aIc cI g36 8 G36), (aJc cJ g37 8 G37)] sz) := by
  refine k_ofW (Qc := cQi D (fun r u => ∃ (G36p : Nat → Int32) (G37p : Nat → Int64), (∀ k, k < 8 → G36p k = nI (DIV gi14 c0 (min (sm c0 8) mu0) k)) ∧ r = (nI (min (sm c0 8) mu0)) ∧ u = [(oX8 g gi0 (nI mn) g2 g3 g4 g5 g6 g7 g8 g9 g10 (nI ml) g12 g13 gi14 g15 g16 g17 gi18 g19 g20 g21 g22 g23 g24 g25 g26 g27 g28 gi29 gi30 (nI mv) gi32 g33 g34 g35 g36 g37 g38 g39 gi40 g41 g42 gi43 g44 g45), (aIc cI g35 8 G35), (aIc cI g36 8 G36p), (aJc cJ g37 8 G37p)])) (by decide) rfl (Nat.le_of_ble_eq_true rfl) ?_
  intro p e s m below meth c A ls hx hb hr hml hts hown hlk hnm hsz hE hP hD hS hA hl
  have hown : s.vm.findClass RX8 = some m.cls := hown
  have hiX8 : ∀ w ∈ u_ws RX8 TX8 46, w ∈ wtX8_shares := fun w h => List.mem_cons_of_mem _ (iuX8 w h)
  have hl : lv_has ls 6 [(0, .ref g), (1, .int (nI mu0))] := hl
  refine lv_aload_n hx hb dX8_shares_0 rfl (lv_at hl 0 rfl) ?_
  refine k_lS (va_runV (As := []) (rest := []) ⟨hx, hb, hml, hown, hts⟩ (m_X8_capSum l D cI cJ (s.heap).size g g2 g3 g4 g5 g6 g7 g8 g9 g10 g12 g13 g15 g16 g17 g19 g20 g21 g22 g23 g24 g25 g26 g27 g28 g33 g34 g35 g36 g37 g38 g39 g41 g42 g44 g45 mn ml mv gi0 gi14 gi18 gi29 gi30 gi32 gi40 gi43 G35 c0 hcv hcb) (cwV 0 hts gX8_shares_X8_capSum rfl rfl rfl (by decide +kernel) ⟨Nat.le_of_ble_eq_true rfl, Nat.le_of_ble_eq_true rfl⟩) (k_preV hE hP hD [0, 1] (by decide +kernel) rfl 0 rfl rfl) rfl rfl hl.1 rfl (lv_room (Nat.le_of_ble_eq_true rfl)) dX8_shares_1 ⟨Nat.le_of_ble_eq_true rfl, Nat.le_of_ble_eq_true rfl⟩) hP hD hS hA [0, 1] rfl (fun _ _ ⟨_, h9⟩ => h9) (fun r1 H locs hw2 hP hD hS => ?_)
  obtain ⟨rfl, -⟩ := hw2
  refine lv_lstore_n (lv' := [(2, .long (lN (sm c0 8))), (0, .ref g), (1, .int (nI mu0))]) hx hb dX8_shares_4 rfl hl (by decide) rfl (fun ls hl => ?_)
  refine lv_lload_n hx hb dX8_shares_5 rfl (lv_at hl 0 rfl) ?_
  refine lv_iload_n hx hb dX8_shares_6 rfl (lv_at hl 2 rfl) ?_
  refine lv_i2l hx hb dX8_shares_7 rfl ?_
  refine k_lcmp_ge (tgt := 17) hx hb dX8_shares_8 dX8_shares_9 (by decide) (fun c3 => ?_) (fun c3 => ?_)
  · skip
    refine lv_iload_n hx hb dX8_shares_17 rfl (lv_at hl 2 rfl) ?_
    refine lv_istore (lv' := [(4, .int (nI mu0)), (2, .long (lN (sm c0 8))), (0, .ref g), (1, .int (nI mu0))]) hx hb dX8_shares_18 hl (by decide) rfl (fun ls hl => ?_)
    have hSb : sm c0 8 ≤ 8000000 := sm_bound (c := 1000000) hcb
    have hge : mu0 ≤ sm c0 8 := (lcv2 (by omega) (by omega)).mp c3
    have hdm : min (sm c0 8) mu0 = mu0 := Nat.min_eq_right hge
    refine lv_iconst (v := 0) hx hb dX8_shares_20 (by decide) ?_
    refine lv_istore (lv' := [(5, .int 0), (4, .int (nI mu0)), (2, .long (lN (sm c0 8))), (0, .ref g), (1, .int (nI mu0))]) hx hb dX8_shares_21 hl (by decide) rfl (fun ls hl => ?_)
    have J23 : ∀ (zz : Nat) (i23 : Nat) (a_g36_23 : Nat → Int32), (i23 ≤ 8) → (∀ k, k < i23 → a_g36_23 k = 0) → (8 - i23) < zz → ∀ (H : Heap) (locs : List Loc) (ls : Array Slot), va_P D vwCl [(oX8 g gi0 (nI mn) g2 g3 g4 g5 g6 g7 g8 g9 g10 (nI ml) g12 g13 gi14 g15 g16 g17 gi18 g19 g20 g21 g22 g23 g24 g25 g26 g27 g28 gi29 gi30 (nI mv) gi32 g33 g34 g35 g36 g37 g38 g39 gi40 g41 g42 gi43 g44 g45), (aIc cI g35 8 G35), (aIc cI g36 8 a_g36_23), (aJc cJ g37 8 G37)] H → va_D A [(oX8 g gi0 (nI mn) g2 g3 g4 g5 g6 g7 g8 g9 g10 (nI ml) g12 g13 gi14 g15 g16 g17 gi18 g19 g20 g21 g22 g23 g24 g25 g26 g27 g28 gi29 gi30 (nI mv) gi32 g33 g34 g35 g36 g37 g38 g39 gi40 g41 g42 gi43 g44 g45), (aIc cI g35 8 G35), (aIc cI g36 8 a_g36_23), (aJc cJ g37 8 G37)] → va_S A s.heap H locs → lv_has ls 6 [(5, .int (nI i23)), (4, .int (nI mu0)), (2, .long (lN (sm c0 8))), (0, .ref g), (1, .int (nI mu0))] → W p l e { frames := 4, cells := 0, slots := 0, locals := 94 } s m [.ref g, .int (nI mu0)].toArray below meth c H locs 0 0 (MQ below (cQi D (fun r u => ∃ (G36p : Nat → Int32) (G37p : Nat → Int64), (∀ k, k < 8 → G36p k = nI (DIV gi14 c0 (min (sm c0 8) mu0) k)) ∧ r = (nI (min (sm c0 8) mu0)) ∧ u = [(oX8 g gi0 (nI mn) g2 g3 g4 g5 g6 g7 g8 g9 g10 (nI ml) g12 g13 gi14 g15 g16 g17 gi18 g19 g20 g21 g22 g23 g24 g25 g26 g27 g28 gi29 gi30 (nI mv) gi32 g33 g34 g35 g36 g37 g38 g39 gi40 g41 g42 gi43 g44 g45), (aIc cI g35 8 G35), (aIc cI g36 8 G36p), (aJc cJ g37 8 G37p)]) A) [.ref g, .int (nI mu0)].toArray s 0 0 A) (F0 m 23 ls []) := by
      intro zz
      induction zz with
      | zero => intro i23 a_g36_23 _ _; exact fun h => absurd h (Nat.not_lt_zero _)
      | succ zz ih23 =>
        intro i23 a_g36_23 hc5_23 hz8_23 hmu23 H locs ls hP hD hS hl
        refine lv_iload hx hb dX8_shares_23 (lv_at hl 0 rfl) ?_
        refine lv_bipush (v := 8) hx hb dX8_shares_25 (by decide) ?_
        refine lv_icmp_ge (tgt := 44) hx hb dX8_shares_27 (by decide) (fun c4 => ?_) (fun c4 => ?_)
        · skip
          have nc4 : 8 ≤ i23 := (nI_leI (a := 8) (b := i23) (by omega) (by omega)).mp c4
          refine lv_lload_n hx hb dX8_shares_44 rfl (lv_at hl 2 rfl) ?_
          refine lv_lconst (v := 0) hx hb dX8_shares_45 (by decide) ?_
          refine k_lcmp_le (tgt := 67) hx hb dX8_shares_46 dX8_shares_47 (by decide) (fun c5 => ?_) (fun c5 => ?_)
          · skip
            have hs0 : sm c0 8 ≤ 0 := (lN_le (by omega) (by decide)).mp c5
            refine lv_lload_n hx hb dX8_shares_67 rfl (lv_at hl 2 rfl) ?_
            refine lv_lconst (v := 0) hx hb dX8_shares_68 (by decide) ?_
            refine k_lcmp_le (tgt := 79) hx hb dX8_shares_69 dX8_shares_70 (by decide) (fun c6 => ?_) (fun c6 => ?_)
            · skip
              have hs1 : sm c0 8 ≤ 0 := (lN_le (by omega) (by decide)).mp c6
              refine lv_iload hx hb dX8_shares_79 (lv_at hl 1 rfl) ?_
              refine k_iret (u := [(oX8 g gi0 (nI mn) g2 g3 g4 g5 g6 g7 g8 g9 g10 (nI ml) g12 g13 gi14 g15 g16 g17 gi18 g19 g20 g21 g22 g23 g24 g25 g26 g27 g28 gi29 gi30 (nI mv) gi32 g33 g34 g35 g36 g37 g38 g39 gi40 g41 g42 gi43 g44 g45), (aIc cI g35 8 G35), (aIc cI g36 8 a_g36_23), (aJc cJ g37 8 G37)]) hx hb hr hlk hP hD hS dX8_shares_81 ?_
              exact ⟨a_g36_23, G37, (fun k hk => by rw [hdm, div_0 (by omega)]; exact hz8_23 k (by omega)), (by rw [hdm]), rfl⟩
            · skip
              have hs1 : ¬ sm c0 8 ≤ 0 := fun q => c6 ((lN_le (by omega) (by decide)).mpr q)
              exact absurd hs0 hs1
          · skip
            have hs0 : ¬ sm c0 8 ≤ 0 := fun q => c5 ((lN_le (by omega) (by decide)).mpr q)
            refine lv_aload_n hx hb dX8_shares_50 rfl (lv_at hl 3 rfl) ?_
            refine va_get (D := D) (ci := 8) (v := .int gi14) (C := RX8) (T := TX8) (N := 46) hx hb hts hiX8 hown hE.1 hP 0 rfl rfl 14 (by decide) (hts _ (List.mem_cons_of_mem _ wd_269)) (fun _ h9 => h9) rfl dX8_shares_51 ?_
            refine lv_if_ne (tgt := 67) hx hb dX8_shares_54 (by decide) (fun c7 => ?_) (fun c7 => ?_)
            · skip
              have hs0 : ¬ sm c0 8 ≤ 0 := fun q => c5 ((lN_le (by omega) (by decide)).mpr q)
              refine lv_lload_n hx hb dX8_shares_67 rfl (lv_at hl 2 rfl) ?_
              refine lv_lconst (v := 0) hx hb dX8_shares_68 (by decide) ?_
              refine k_lcmp_le (tgt := 79) hx hb dX8_shares_69 dX8_shares_70 (by decide) (fun c8 => ?_) (fun c8 => ?_)
              · skip
                have hs1 : sm c0 8 ≤ 0 := (lN_le (by omega) (by decide)).mp c8
                refine lv_iload hx hb dX8_shares_79 (lv_at hl 1 rfl) ?_
                refine k_iret (u := [(oX8 g gi0 (nI mn) g2 g3 g4 g5 g6 g7 g8 g9 g10 (nI ml) g12 g13 gi14 g15 g16 g17 gi18 g19 g20 g21 g22 g23 g24 g25 g26 g27 g28 gi29 gi30 (nI mv) gi32 g33 g34 g35 g36 g37 g38 g39 gi40 g41 g42 gi43 g44 g45), (aIc cI g35 8 G35), (aIc cI g36 8 a_g36_23), (aJc cJ g37 8 G37)]) hx hb hr hlk hP hD hS dX8_shares_81 ?_
                exact ⟨a_g36_23, G37, (fun k hk => by rw [hdm, div_0 (by omega)]; exact hz8_23 k (by omega)), (by rw [hdm]), rfl⟩
              · skip
                have hs1 : ¬ sm c0 8 ≤ 0 := fun q => c8 ((lN_le (by omega) (by decide)).mpr q)
                refine lv_aload_n hx hb dX8_shares_73 rfl (lv_at hl 3 rfl) ?_
                refine lv_iload hx hb dX8_shares_74 (lv_at hl 1 rfl) ?_
                refine k_v (va_runV (As := [.int (nI mu0)]) (rest := []) ⟨hx, hb, hml, hown, hts⟩ (e_X8_bySteps l D cI cJ H.size g g2 g3 g4 g5 g6 g7 g8 g9 g10 g12 g13 g15 g16 g17 g19 g20 g21 g22 g23 g24 g25 g26 g27 g28 g33 g34 g35 g36 g37 g38 g39 g41 g42 g44 g45 mu0 mn ml mv gi0 gi14 gi18 gi29 gi30 gi32 gi40 gi43 G35 a_g36_23 c0 hcv hcb hmu) (cwV 1 hts gX8_shares_X8_bySteps rfl rfl rfl (by decide +kernel) ⟨Nat.le_of_ble_eq_true rfl, Nat.le_of_ble_eq_true rfl⟩) (k_preV hE hP hD [0, 1, 2] (by decide +kernel) rfl 0 rfl rfl) rfl rfl hl.1 rfl (lv_room (Nat.le_of_ble_eq_true rfl)) dX8_shares_76 ⟨Nat.le_of_ble_eq_true rfl, Nat.le_of_ble_eq_true rfl⟩) hP hD hS hA [0, 1, 2] [3] rfl (wr := [(aJc cJ g37 8 G37)]) rfl (by decide +kernel) (by decide +kernel) (fun u H locs hw9 hP hD hS => ?_)
                obtain ⟨z10, hz11, rfl⟩ := hw9
                refine k_re (w := [(aJc cJ g37 8 G37), (oX8 g gi0 (nI mn) g2 g3 g4 g5 g6 g7 g8 g9 g10 (nI ml) g12 g13 gi14 g15 g16 g17 gi18 g19 g20 g21 g22 g23 g24 g25 g26 g27 g28 gi29 gi30 (nI mv) gi32 g33 g34 g35 g36 g37 g38 g39 gi40 g41 g42 gi43 g44 g45), (aIc cI g35 8 G35), (aIc cI g36 8 z10)]) hP hD (fun hP hD => ?_)
                refine lv_iload hx hb dX8_shares_79 (lv_at hl 1 rfl) ?_
                refine k_iret (u := [(oX8 g gi0 (nI mn) g2 g3 g4 g5 g6 g7 g8 g9 g10 (nI ml) g12 g13 gi14 g15 g16 g17 gi18 g19 g20 g21 g22 g23 g24 g25 g26 g27 g28 gi29 gi30 (nI mv) gi32 g33 g34 g35 g36 g37 g38 g39 gi40 g41 g42 gi43 g44 g45), (aIc cI g35 8 G35), (aIc cI g36 8 z10), (aJc cJ g37 8 G37)]) hx hb hr hlk (k_sub hP [1, 2, 3, 0] rfl) (hD.sub [1, 2, 3, 0] (by decide +kernel) rfl) hS dX8_shares_81 ?_
                exact ⟨z10, G37, (fun k hk => by rw [hdm, hz11 k hk, div_st c7 hk]), (by rw [hdm]), rfl⟩
            · skip
              refine lv_aload_n hx hb dX8_shares_57 rfl (lv_at hl 3 rfl) ?_
              refine lv_iload hx hb dX8_shares_58 (lv_at hl 1 rfl) ?_
              refine lv_lload_n hx hb dX8_shares_60 rfl (lv_at hl 2 rfl) ?_
              refine k_v (va_runV (As := [.int (nI mu0), .long (lN (sm c0 8))]) (rest := []) ⟨hx, hb, hml, hown, hts⟩ (e_X8_byCaps l D cI cJ H.size g g2 g3 g4 g5 g6 g7 g8 g9 g10 g12 g13 g15 g16 g17 g19 g20 g21 g22 g23 g24 g25 g26 g27 g28 g33 g34 g35 g36 g37 g38 g39 g41 g42 g44 g45 mu0 mn ml mv gi0 gi14 gi18 gi29 gi30 gi32 gi40 gi43 G35 a_g36_23 G37 c0 hcv hcb hmu (by omega) (by omega) (by omega)) (cwV 2 hts gX8_shares_X8_byCaps rfl rfl rfl (by decide +kernel) ⟨Nat.le_of_ble_eq_true rfl, Nat.le_of_ble_eq_true rfl⟩) (k_preV hE hP hD [0, 1, 2, 3] (by decide +kernel) rfl 0 rfl rfl) rfl rfl hl.1 rfl (lv_room (Nat.le_of_ble_eq_true rfl)) dX8_shares_61 ⟨Nat.le_of_ble_eq_true rfl, Nat.le_of_ble_eq_true rfl⟩) hP hD hS hA [0, 1, 2, 3] [] rfl (wr := []) rfl (by decide +kernel) (by decide +kernel) (fun u H locs hw12 hP hD hS => ?_)
              obtain ⟨z13, z14, hz15, rfl⟩ := hw12
              refine k_re (w := [(oX8 g gi0 (nI mn) g2 g3 g4 g5 g6 g7 g8 g9 g10 (nI ml) g12 g13 gi14 g15 g16 g17 gi18 g19 g20 g21 g22 g23 g24 g25 g26 g27 g28 gi29 gi30 (nI mv) gi32 g33 g34 g35 g36 g37 g38 g39 gi40 g41 g42 gi43 g44 g45), (aIc cI g35 8 G35), (aIc cI g36 8 z13), (aJc cJ g37 8 z14)]) hP hD (fun hP hD => ?_)
              refine lv_goto (tgt := 79) hx hb dX8_shares_64 (by decide) ?_
              refine lv_iload hx hb dX8_shares_79 (lv_at hl 1 rfl) ?_
              refine k_iret (u := [(oX8 g gi0 (nI mn) g2 g3 g4 g5 g6 g7 g8 g9 g10 (nI ml) g12 g13 gi14 g15 g16 g17 gi18 g19 g20 g21 g22 g23 g24 g25 g26 g27 g28 gi29 gi30 (nI mv) gi32 g33 g34 g35 g36 g37 g38 g39 gi40 g41 g42 gi43 g44 g45), (aIc cI g35 8 G35), (aIc cI g36 8 z13), (aJc cJ g37 8 z14)]) hx hb hr hlk hP hD hS dX8_shares_81 ?_
              exact ⟨z13, z14, (fun k hk => by rw [hdm, hz15 k hk, ← div_c (by omega) c7]), (by rw [hdm]), rfl⟩
        · skip
          have nc4 : ¬ 8 ≤ i23 := fun q9 => c4 ((nI_leI (a := 8) (b := i23) (by omega) (by omega)).mpr q9)
          refine lv_aload_n hx hb dX8_shares_30 rfl (lv_at hl 3 rfl) ?_
          refine va_get (D := D) (ci := 8) (v := .ref g36) (C := RX8) (T := TX8) (N := 46) hx hb hts hiX8 hown hE.1 hP 0 rfl rfl 36 (by decide) (hts _ (List.mem_cons_of_mem _ wd_143)) (fun _ h9 => h9) rfl dX8_shares_31 ?_
          refine lv_iload hx hb dX8_shares_34 (lv_at hl 0 rfl) ?_
          refine lv_iconst (v := 0) hx hb dX8_shares_36 (by decide) ?_
          refine va_iast hx hb hE.1 hP hD hS 2 0 rfl rfl (vp_in_nI (n := i23) (by omega) (by decide)) dX8_shares_37 (fun H locs hP hD hS => ?_)
          refine k_re (w := [(oX8 g gi0 (nI mn) g2 g3 g4 g5 g6 g7 g8 g9 g10 (nI ml) g12 g13 gi14 g15 g16 g17 gi18 g19 g20 g21 g22 g23 g24 g25 g26 g27 g28 gi29 gi30 (nI mv) gi32 g33 g34 g35 g36 g37 g38 g39 gi40 g41 g42 gi43 g44 g45), (aIc cI g35 8 G35), (aIc cI g36 8 (upd a_g36_23 (Int32.toNatClampNeg (nI i23)) 0)), (aJc cJ g37 8 G37)]) hP hD (fun hP hD => ?_)
          refine lv_iinc (v := (nI (i23 + 1))) (lv' := [(5, .int (nI (i23 + 1))), (4, .int (nI mu0)), (2, .long (lN (sm c0 8))), (0, .ref g), (1, .int (nI mu0))]) hx hb dX8_shares_38 hl (k := 0) rfl (nI_1 _) (by decide) rfl (fun ls hl => ?_)
          refine lv_goto (tgt := 23) hx hb dX8_shares_41 (by decide) ?_
          exact ih23 (i23 + 1) (upd a_g36_23 (Int32.toNatClampNeg (nI i23)) 0) (by omega) (nv0_up (by omega) hz8_23) (by omega) _ _ _ hP hD hS (lv_sub hl [0, 1, 2, 3, 4] rfl)
    exact J23 _ 0 G36 (by omega) (fun k hk => absurd hk (Nat.not_lt_zero k)) (Nat.lt_succ_self _) _ _ _ hP hD hS (lv_sub hl [0, 1, 2, 3, 4] rfl)
  · skip
    refine lv_lload_n hx hb dX8_shares_12 rfl (lv_at hl 0 rfl) ?_
    refine lv_l2i hx hb dX8_shares_13 rfl ?_
    refine lv_topi (fun v16 ev16 => ?_)
    obtain rfl : v16 = nI (sm c0 8) := by rw [ev16]; exact lN_i _
    refine lv_goto (tgt := 18) hx hb dX8_shares_14 (by decide) ?_
    refine lv_istore (lv' := [(4, .int (nI (sm c0 8))), (2, .long (lN (sm c0 8))), (0, .ref g), (1, .int (nI mu0))]) hx hb dX8_shares_18 hl (by decide) rfl (fun ls hl => ?_)
    have hSb : sm c0 8 ≤ 8000000 := sm_bound (c := 1000000) hcb
    have hge : ¬ mu0 ≤ sm c0 8 := fun q => c3 ((lcv2 (by omega) (by omega)).mpr q)
    have hdm : min (sm c0 8) mu0 = sm c0 8 := Nat.min_eq_left (by omega)
    refine lv_iconst (v := 0) hx hb dX8_shares_20 (by decide) ?_
    refine lv_istore (lv' := [(5, .int 0), (4, .int (nI (sm c0 8))), (2, .long (lN (sm c0 8))), (0, .ref g), (1, .int (nI mu0))]) hx hb dX8_shares_21 hl (by decide) rfl (fun ls hl => ?_)
    have J23 : ∀ (zz : Nat) (i23 : Nat) (a_g36_23 : Nat → Int32), (i23 ≤ 8) → (∀ k, k < i23 → a_g36_23 k = 0) → (8 - i23) < zz → ∀ (H : Heap) (locs : List Loc) (ls : Array Slot), va_P D vwCl [(oX8 g gi0 (nI mn) g2 g3 g4 g5 g6 g7 g8 g9 g10 (nI ml) g12 g13 gi14 g15 g16 g17 gi18 g19 g20 g21 g22 g23 g24 g25 g26 g27 g28 gi29 gi30 (nI mv) gi32 g33 g34 g35 g36 g37 g38 g39 gi40 g41 g42 gi43 g44 g45), (aIc cI g35 8 G35), (aIc cI g36 8 a_g36_23), (aJc cJ g37 8 G37)] H → va_D A [(oX8 g gi0 (nI mn) g2 g3 g4 g5 g6 g7 g8 g9 g10 (nI ml) g12 g13 gi14 g15 g16 g17 gi18 g19 g20 g21 g22 g23 g24 g25 g26 g27 g28 gi29 gi30 (nI mv) gi32 g33 g34 g35 g36 g37 g38 g39 gi40 g41 g42 gi43 g44 g45), (aIc cI g35 8 G35), (aIc cI g36 8 a_g36_23), (aJc cJ g37 8 G37)] → va_S A s.heap H locs → lv_has ls 6 [(5, .int (nI i23)), (4, .int (nI (sm c0 8))), (2, .long (lN (sm c0 8))), (0, .ref g), (1, .int (nI mu0))] → W p l e { frames := 4, cells := 0, slots := 0, locals := 94 } s m [.ref g, .int (nI mu0)].toArray below meth c H locs 0 0 (MQ below (cQi D (fun r u => ∃ (G36p : Nat → Int32) (G37p : Nat → Int64), (∀ k, k < 8 → G36p k = nI (DIV gi14 c0 (min (sm c0 8) mu0) k)) ∧ r = (nI (min (sm c0 8) mu0)) ∧ u = [(oX8 g gi0 (nI mn) g2 g3 g4 g5 g6 g7 g8 g9 g10 (nI ml) g12 g13 gi14 g15 g16 g17 gi18 g19 g20 g21 g22 g23 g24 g25 g26 g27 g28 gi29 gi30 (nI mv) gi32 g33 g34 g35 g36 g37 g38 g39 gi40 g41 g42 gi43 g44 g45), (aIc cI g35 8 G35), (aIc cI g36 8 G36p), (aJc cJ g37 8 G37p)]) A) [.ref g, .int (nI mu0)].toArray s 0 0 A) (F0 m 23 ls []) := by
      intro zz
      induction zz with
      | zero => intro i23 a_g36_23 _ _; exact fun h => absurd h (Nat.not_lt_zero _)
      | succ zz ih23 =>
        intro i23 a_g36_23 hc5_23 hz8_23 hmu23 H locs ls hP hD hS hl
        refine lv_iload hx hb dX8_shares_23 (lv_at hl 0 rfl) ?_
        refine lv_bipush (v := 8) hx hb dX8_shares_25 (by decide) ?_
        refine lv_icmp_ge (tgt := 44) hx hb dX8_shares_27 (by decide) (fun c17 => ?_) (fun c17 => ?_)
        · skip
          have nc17 : 8 ≤ i23 := (nI_leI (a := 8) (b := i23) (by omega) (by omega)).mp c17
          refine lv_lload_n hx hb dX8_shares_44 rfl (lv_at hl 2 rfl) ?_
          refine lv_lconst (v := 0) hx hb dX8_shares_45 (by decide) ?_
          refine k_lcmp_le (tgt := 67) hx hb dX8_shares_46 dX8_shares_47 (by decide) (fun c18 => ?_) (fun c18 => ?_)
          · skip
            have hs0 : sm c0 8 ≤ 0 := (lN_le (by omega) (by decide)).mp c18
            refine lv_lload_n hx hb dX8_shares_67 rfl (lv_at hl 2 rfl) ?_
            refine lv_lconst (v := 0) hx hb dX8_shares_68 (by decide) ?_
            refine k_lcmp_le (tgt := 79) hx hb dX8_shares_69 dX8_shares_70 (by decide) (fun c19 => ?_) (fun c19 => ?_)
            · skip
              have hs1 : sm c0 8 ≤ 0 := (lN_le (by omega) (by decide)).mp c19
              refine lv_iload hx hb dX8_shares_79 (lv_at hl 1 rfl) ?_
              refine k_iret (u := [(oX8 g gi0 (nI mn) g2 g3 g4 g5 g6 g7 g8 g9 g10 (nI ml) g12 g13 gi14 g15 g16 g17 gi18 g19 g20 g21 g22 g23 g24 g25 g26 g27 g28 gi29 gi30 (nI mv) gi32 g33 g34 g35 g36 g37 g38 g39 gi40 g41 g42 gi43 g44 g45), (aIc cI g35 8 G35), (aIc cI g36 8 a_g36_23), (aJc cJ g37 8 G37)]) hx hb hr hlk hP hD hS dX8_shares_81 ?_
              exact ⟨a_g36_23, G37, (fun k hk => by rw [hdm, div_0 (by omega)]; exact hz8_23 k (by omega)), (by rw [hdm]), rfl⟩
            · skip
              have hs1 : ¬ sm c0 8 ≤ 0 := fun q => c19 ((lN_le (by omega) (by decide)).mpr q)
              exact absurd hs0 hs1
          · skip
            have hs0 : ¬ sm c0 8 ≤ 0 := fun q => c18 ((lN_le (by omega) (by decide)).mpr q)
            refine lv_aload_n hx hb dX8_shares_50 rfl (lv_at hl 3 rfl) ?_
            refine va_get (D := D) (ci := 8) (v := .int gi14) (C := RX8) (T := TX8) (N := 46) hx hb hts hiX8 hown hE.1 hP 0 rfl rfl 14 (by decide) (hts _ (List.mem_cons_of_mem _ wd_269)) (fun _ h9 => h9) rfl dX8_shares_51 ?_
            refine lv_if_ne (tgt := 67) hx hb dX8_shares_54 (by decide) (fun c20 => ?_) (fun c20 => ?_)
            · skip
              have hs0 : ¬ sm c0 8 ≤ 0 := fun q => c18 ((lN_le (by omega) (by decide)).mpr q)
              refine lv_lload_n hx hb dX8_shares_67 rfl (lv_at hl 2 rfl) ?_
              refine lv_lconst (v := 0) hx hb dX8_shares_68 (by decide) ?_
              refine k_lcmp_le (tgt := 79) hx hb dX8_shares_69 dX8_shares_70 (by decide) (fun c21 => ?_) (fun c21 => ?_)
              · skip
                have hs1 : sm c0 8 ≤ 0 := (lN_le (by omega) (by decide)).mp c21
                refine lv_iload hx hb dX8_shares_79 (lv_at hl 1 rfl) ?_
                refine k_iret (u := [(oX8 g gi0 (nI mn) g2 g3 g4 g5 g6 g7 g8 g9 g10 (nI ml) g12 g13 gi14 g15 g16 g17 gi18 g19 g20 g21 g22 g23 g24 g25 g26 g27 g28 gi29 gi30 (nI mv) gi32 g33 g34 g35 g36 g37 g38 g39 gi40 g41 g42 gi43 g44 g45), (aIc cI g35 8 G35), (aIc cI g36 8 a_g36_23), (aJc cJ g37 8 G37)]) hx hb hr hlk hP hD hS dX8_shares_81 ?_
                exact ⟨a_g36_23, G37, (fun k hk => by rw [hdm, div_0 (by omega)]; exact hz8_23 k (by omega)), (by rw [hdm]), rfl⟩
              · skip
                have hs1 : ¬ sm c0 8 ≤ 0 := fun q => c21 ((lN_le (by omega) (by decide)).mpr q)
                refine lv_aload_n hx hb dX8_shares_73 rfl (lv_at hl 3 rfl) ?_
                refine lv_iload hx hb dX8_shares_74 (lv_at hl 1 rfl) ?_
                refine k_v (va_runV (As := [.int (nI (sm c0 8))]) (rest := []) ⟨hx, hb, hml, hown, hts⟩ (e_X8_bySteps l D cI cJ H.size g g2 g3 g4 g5 g6 g7 g8 g9 g10 g12 g13 g15 g16 g17 g19 g20 g21 g22 g23 g24 g25 g26 g27 g28 g33 g34 g35 g36 g37 g38 g39 g41 g42 g44 g45 (sm c0 8) mn ml mv gi0 gi14 gi18 gi29 gi30 gi32 gi40 gi43 G35 a_g36_23 c0 hcv hcb (by omega)) (cwV 1 hts gX8_shares_X8_bySteps rfl rfl rfl (by decide +kernel) ⟨Nat.le_of_ble_eq_true rfl, Nat.le_of_ble_eq_true rfl⟩) (k_preV hE hP hD [0, 1, 2] (by decide +kernel) rfl 0 rfl rfl) rfl rfl hl.1 rfl (lv_room (Nat.le_of_ble_eq_true rfl)) dX8_shares_76 ⟨Nat.le_of_ble_eq_true rfl, Nat.le_of_ble_eq_true rfl⟩) hP hD hS hA [0, 1, 2] [3] rfl (wr := [(aJc cJ g37 8 G37)]) rfl (by decide +kernel) (by decide +kernel) (fun u H locs hw22 hP hD hS => ?_)
                obtain ⟨z23, hz24, rfl⟩ := hw22
                refine k_re (w := [(aJc cJ g37 8 G37), (oX8 g gi0 (nI mn) g2 g3 g4 g5 g6 g7 g8 g9 g10 (nI ml) g12 g13 gi14 g15 g16 g17 gi18 g19 g20 g21 g22 g23 g24 g25 g26 g27 g28 gi29 gi30 (nI mv) gi32 g33 g34 g35 g36 g37 g38 g39 gi40 g41 g42 gi43 g44 g45), (aIc cI g35 8 G35), (aIc cI g36 8 z23)]) hP hD (fun hP hD => ?_)
                refine lv_iload hx hb dX8_shares_79 (lv_at hl 1 rfl) ?_
                refine k_iret (u := [(oX8 g gi0 (nI mn) g2 g3 g4 g5 g6 g7 g8 g9 g10 (nI ml) g12 g13 gi14 g15 g16 g17 gi18 g19 g20 g21 g22 g23 g24 g25 g26 g27 g28 gi29 gi30 (nI mv) gi32 g33 g34 g35 g36 g37 g38 g39 gi40 g41 g42 gi43 g44 g45), (aIc cI g35 8 G35), (aIc cI g36 8 z23), (aJc cJ g37 8 G37)]) hx hb hr hlk (k_sub hP [1, 2, 3, 0] rfl) (hD.sub [1, 2, 3, 0] (by decide +kernel) rfl) hS dX8_shares_81 ?_
                exact ⟨z23, G37, (fun k hk => by rw [hdm, hz24 k hk, div_st c20 hk]), (by rw [hdm]), rfl⟩
            · skip
              refine lv_aload_n hx hb dX8_shares_57 rfl (lv_at hl 3 rfl) ?_
              refine lv_iload hx hb dX8_shares_58 (lv_at hl 1 rfl) ?_
              refine lv_lload_n hx hb dX8_shares_60 rfl (lv_at hl 2 rfl) ?_
              refine k_v (va_runV (As := [.int (nI (sm c0 8)), .long (lN (sm c0 8))]) (rest := []) ⟨hx, hb, hml, hown, hts⟩ (e_X8_byCaps l D cI cJ H.size g g2 g3 g4 g5 g6 g7 g8 g9 g10 g12 g13 g15 g16 g17 g19 g20 g21 g22 g23 g24 g25 g26 g27 g28 g33 g34 g35 g36 g37 g38 g39 g41 g42 g44 g45 (sm c0 8) mn ml mv gi0 gi14 gi18 gi29 gi30 gi32 gi40 gi43 G35 a_g36_23 G37 c0 hcv hcb (by omega) (by omega) (by omega) (by omega)) (cwV 2 hts gX8_shares_X8_byCaps rfl rfl rfl (by decide +kernel) ⟨Nat.le_of_ble_eq_true rfl, Nat.le_of_ble_eq_true rfl⟩) (k_preV hE hP hD [0, 1, 2, 3] (by decide +kernel) rfl 0 rfl rfl) rfl rfl hl.1 rfl (lv_room (Nat.le_of_ble_eq_true rfl)) dX8_shares_61 ⟨Nat.le_of_ble_eq_true rfl, Nat.le_of_ble_eq_true rfl⟩) hP hD hS hA [0, 1, 2, 3] [] rfl (wr := []) rfl (by decide +kernel) (by decide +kernel) (fun u H locs hw25 hP hD hS => ?_)
              obtain ⟨z26, z27, hz28, rfl⟩ := hw25
              refine k_re (w := [(oX8 g gi0 (nI mn) g2 g3 g4 g5 g6 g7 g8 g9 g10 (nI ml) g12 g13 gi14 g15 g16 g17 gi18 g19 g20 g21 g22 g23 g24 g25 g26 g27 g28 gi29 gi30 (nI mv) gi32 g33 g34 g35 g36 g37 g38 g39 gi40 g41 g42 gi43 g44 g45), (aIc cI g35 8 G35), (aIc cI g36 8 z26), (aJc cJ g37 8 z27)]) hP hD (fun hP hD => ?_)
              refine lv_goto (tgt := 79) hx hb dX8_shares_64 (by decide) ?_
              refine lv_iload hx hb dX8_shares_79 (lv_at hl 1 rfl) ?_
              refine k_iret (u := [(oX8 g gi0 (nI mn) g2 g3 g4 g5 g6 g7 g8 g9 g10 (nI ml) g12 g13 gi14 g15 g16 g17 gi18 g19 g20 g21 g22 g23 g24 g25 g26 g27 g28 gi29 gi30 (nI mv) gi32 g33 g34 g35 g36 g37 g38 g39 gi40 g41 g42 gi43 g44 g45), (aIc cI g35 8 G35), (aIc cI g36 8 z26), (aJc cJ g37 8 z27)]) hx hb hr hlk hP hD hS dX8_shares_81 ?_
              exact ⟨z26, z27, (fun k hk => by rw [hdm, hz28 k hk, ← div_c (by omega) c20]), (by rw [hdm]), rfl⟩
        · skip
          have nc17 : ¬ 8 ≤ i23 := fun q9 => c17 ((nI_leI (a := 8) (b := i23) (by omega) (by omega)).mpr q9)
          refine lv_aload_n hx hb dX8_shares_30 rfl (lv_at hl 3 rfl) ?_
          refine va_get (D := D) (ci := 8) (v := .ref g36) (C := RX8) (T := TX8) (N := 46) hx hb hts hiX8 hown hE.1 hP 0 rfl rfl 36 (by decide) (hts _ (List.mem_cons_of_mem _ wd_143)) (fun _ h9 => h9) rfl dX8_shares_31 ?_
          refine lv_iload hx hb dX8_shares_34 (lv_at hl 0 rfl) ?_
          refine lv_iconst (v := 0) hx hb dX8_shares_36 (by decide) ?_
          refine va_iast hx hb hE.1 hP hD hS 2 0 rfl rfl (vp_in_nI (n := i23) (by omega) (by decide)) dX8_shares_37 (fun H locs hP hD hS => ?_)
          refine k_re (w := [(oX8 g gi0 (nI mn) g2 g3 g4 g5 g6 g7 g8 g9 g10 (nI ml) g12 g13 gi14 g15 g16 g17 gi18 g19 g20 g21 g22 g23 g24 g25 g26 g27 g28 gi29 gi30 (nI mv) gi32 g33 g34 g35 g36 g37 g38 g39 gi40 g41 g42 gi43 g44 g45), (aIc cI g35 8 G35), (aIc cI g36 8 (upd a_g36_23 (Int32.toNatClampNeg (nI i23)) 0)), (aJc cJ g37 8 G37)]) hP hD (fun hP hD => ?_)
          refine lv_iinc (v := (nI (i23 + 1))) (lv' := [(5, .int (nI (i23 + 1))), (4, .int (nI (sm c0 8))), (2, .long (lN (sm c0 8))), (0, .ref g), (1, .int (nI mu0))]) hx hb dX8_shares_38 hl (k := 0) rfl (nI_1 _) (by decide) rfl (fun ls hl => ?_)
          refine lv_goto (tgt := 23) hx hb dX8_shares_41 (by decide) ?_
          exact ih23 (i23 + 1) (upd a_g36_23 (Int32.toNatClampNeg (nI i23)) 0) (by omega) (nv0_up (by omega) hz8_23) (by omega) _ _ _ hP hD hS (lv_sub hl [0, 1, 2, 3, 4] rfl)
    exact J23 _ 0 G36 (by omega) (fun k hk => absurd hk (Nat.not_lt_zero k)) (Nat.lt_succ_self _) _ _ _ hP hD hS (lv_sub hl [0, 1, 2, 3, 4] rfl)

