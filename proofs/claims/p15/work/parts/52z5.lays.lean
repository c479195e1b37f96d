set_option maxHeartbeats 4000000 in
set_option maxRecDepth 100000 in
theorem e_X8_laysLevels (l : Launch) (D : va_G) (cI cJ : ClassId) (sz : Nat) (g g2 g3 g4 g5 g6 g7 g8 g9 g10 g12 g13 g15 g16 g17 g19 g20 g21 g22 g23 g24 g25 g26 g27 g28 g33 g34 g35 g36 g37 g38 g39 g41 g42 g44 g45 mn ml mv : Nat) (gi0 gi14 gi18 gi29 gi30 gi32 gi40 gi43 : Int32) (G7 G24 G25 Y0 : Nat → Int32) (hT : ∀ k, k < 8 → G24 k = TT Y0 k) (hm1 : ∀ k, k < 8 → G25 k = -1) (hyw : ∀ k, k < 8 → isw8 (Y0 k)) (hyi : ∀ p q, p < 8 → q < 8 → bt (Y0 p) q = true → bt gi29 q = true) : Met l yX8_laysLevels wtX8_laysLevels { frames := 1, cells := 0, slots := 0, locals := 21 } (cPc D cI cJ [.ref g] sz [(oX8 g gi0 (nI mn) g2 g3 g4 g5 g6 g7 g8 g9 g10 (nI ml) g12 g13 gi14 g15 g16 g17 gi18 g19 g20 g21 g22 g23 g24 g25 g26 g27 g28 gi29 gi30 (nI mv) gi32 g33 g34 g35 g36 g37 g38 g39 gi40 g41 g42 gi43 g44 g45), (aIc cI g7 8 G7), (aIc cI g24 8 G24), (aIc cI g25 8 G25)]) (cQv D (fun u => ∃ (G25p : Nat → Int32) (gi30p : Int32) (mvp : Nat), (mvp ≤ 8) ∧ (LD gi29 (TT Y0) (KE G7) G25p gi30p mvp) ∧ u = [(oX8 g gi0 (nI mn) g2 g3 g4 g5 g6 g7 g8 g9 g10 (nI ml) g12 g13 gi14 g15 g16 g17 gi18 g19 g20 g21 g22 g23 g24 g25 g26 g27 g28 gi29 gi30p (nI mvp) gi32 g33 g34 g35 g36 g37 g38 g39 gi40 g41 g42 gi43 g44 g45), (aIc cI g7 8 G7), (aIc cI g24 8 G24), (aIc cI g25 8 G25p)]) (va_A [(oX8 g gi0 (nI mn) g2 g3 g4 g5 g6 g7 g8 g9 g10 (nI ml) g12 g13 gi14 g15 g16 g17 gi18 g19 g20 g21 g22 g23 g24 g25 g26 g27 g28 gi29 gi30 (nI mv) gi32 g33 g34 g35 g36 g37 g38 g39 gi40 g41 g42 gi43 g44 g45), (aIc cI g7 8 G7), (aIc cI g24 8 G24), (aIc cI g25 8 G25)] sz)) 0 0 (va_A [(oX8 g gi0 (nI mn) g2 g3 g4 g5 g6 g7 g8 g9 g10 (nI ml) g12 g13 gi14 g15 g16 g17 gi18 g19 g20 g21 g22 g23 g24 g25 g26 g27 g28 gi29 gi30 (nI mv) gi32 g33 g34 g35 g36 g37 g38 g39 gi40 g41 g42 gi43 g44 g45), (aIc cI g7 8 G7), (aIc cI g24 8 G24), (aIc cI g25 8 G25)] sz) := by
  refine k_ofW (Qc := cQv D (fun u => ∃ (G25p : Nat → Int32) (gi30p : Int32) (mvp : Nat), (mvp ≤ 8) ∧ (LD gi29 (TT Y0) (KE G7) G25p gi30p mvp) ∧ u = [(oX8 g gi0 (nI mn) g2 g3 g4 g5 g6 g7 g8 g9 g10 (nI ml) g12 g13 gi14 g15 g16 g17 gi18 g19 g20 g21 g22 g23 g24 g25 g26 g27 g28 gi29 gi30p (nI mvp) gi32 g33 g34 g35 g36 g37 g38 g39 gi40 g41 g42 gi43 g44 g45), (aIc cI g7 8 G7), (aIc cI g24 8 G24), (aIc cI g25 8 G25p)])) (by decide) rfl (Nat.le_of_ble_eq_true rfl) ?_
  intro p e s m below meth c A ls hx hb hr hml hts hown hlk hnm hsz hE hP hD hS hA hl
  have hown : s.vm.findClass RX8 = some m.cls := hown
  have hiX8 : ∀ w ∈ u_ws RX8 TX8 46, w ∈ wtX8_laysLevels := fun w h => List.mem_cons_of_mem _ (iuX8 w h)
  have hl : lv_has ls 5 [(0, .ref g)] := hl
  have HR := tt_rk Y0
  have htw : ∀ p, p < 8 → isw8 (TT Y0 p) := fun p hp => tt_w8 (hyw p hp)
  have hti : ∀ p q, p < 8 → q < 8 → bt (TT Y0 p) q = true → bt gi29 q = true := fun p q hp hq h => hyi p q hp hq (tt_y hq h)
  refine lv_aload_n hx hb dX8_laysLevels_0 rfl (lv_at hl 0 rfl) ?_
  refine lv_iconst (v := 0) hx hb dX8_laysLevels_1 (by decide) ?_
  refine va_put (D := D) (ci := 8) (v := .int 0) (ty := .int) (C := RX8) (T := TX8) (N := 46) hx hb hts hiX8 tyX8 tyX8_ok nmX8 hown hE.1 hP hD hS 0 rfl rfl 31 (by decide) (hts _ (List.mem_cons_of_mem _ wd_422)) (fun _ h9 => h9) rfl (by decide +kernel) rfl rfl (Nat.le_of_ble_eq_true rfl) dX8_laysLevels_2 (fun H locs hP hD hS => ?_)
  refine k_re (w := [(oX8 g gi0 (nI mn) g2 g3 g4 g5 g6 g7 g8 g9 g10 (nI ml) g12 g13 gi14 g15 g16 g17 gi18 g19 g20 g21 g22 g23 g24 g25 g26 g27 g28 gi29 gi30 0 gi32 g33 g34 g35 g36 g37 g38 g39 gi40 g41 g42 gi43 g44 g45), (aIc cI g7 8 G7), (aIc cI g24 8 G24), (aIc cI g25 8 G25)]) hP hD (fun hP hD => ?_)
  refine lv_aload_n hx hb dX8_laysLevels_5 rfl (lv_at hl 0 rfl) ?_
  refine lv_iconst (v := 0) hx hb dX8_laysLevels_6 (by decide) ?_
  refine va_put (D := D) (ci := 8) (v := .int 0) (ty := .int) (C := RX8) (T := TX8) (N := 46) hx hb hts hiX8 tyX8 tyX8_ok nmX8 hown hE.1 hP hD hS 0 rfl rfl 30 (by decide) (hts _ (List.mem_cons_of_mem _ wd_445)) (fun _ h9 => h9) rfl (by decide +kernel) rfl rfl (Nat.le_of_ble_eq_true rfl) dX8_laysLevels_7 (fun H locs hP hD hS => ?_)
  refine k_re (w := [(oX8 g gi0 (nI mn) g2 g3 g4 g5 g6 g7 g8 g9 g10 (nI ml) g12 g13 gi14 g15 g16 g17 gi18 g19 g20 g21 g22 g23 g24 g25 g26 g27 g28 gi29 0 0 gi32 g33 g34 g35 g36 g37 g38 g39 gi40 g41 g42 gi43 g44 g45), (aIc cI g7 8 G7), (aIc cI g24 8 G24), (aIc cI g25 8 G25)]) hP hD (fun hP hD => ?_)
  refine lv_iconst (v := 0) hx hb dX8_laysLevels_10 (by decide) ?_
  refine lv_istore_n (lv' := [(1, .int 0), (0, .ref g)]) hx hb dX8_laysLevels_11 rfl hl (by decide) rfl (fun ls hl => ?_)
  refine lv_iconst (v := 1) hx hb dX8_laysLevels_12 (by decide) ?_
  refine lv_istore_n (lv' := [(2, .int 1), (1, .int 0), (0, .ref g)]) hx hb dX8_laysLevels_13 rfl hl (by decide) rfl (fun ls hl => ?_)
  have J14 : ∀ (zz : Nat) (h1_14 : Int32) (h2_14 : Nat) (a_g25_14 : Nat → Int32) (f8_30_14 : Int32) (f8_31_14 : Nat), (KN gi29 h1_14 (TT Y0) (KE G7) a_g25_14 f8_30_14 f8_31_14 8) → (h2_14 ≤ 1) → (h2_14 = 0 → ∀ p, p < 8 → bt gi29 p = true → bt h1_14 p = true ∨ ¬ TT Y0 p &&& (h1_14 ^^^ (-1)) = 0) → 2 * (8 - kc h1_14) + h2_14 < zz → ∀ (H : Heap) (locs : List Loc) (ls : Array Slot), va_P D vwCl [(oX8 g gi0 (nI mn) g2 g3 g4 g5 g6 g7 g8 g9 g10 (nI ml) g12 g13 gi14 g15 g16 g17 gi18 g19 g20 g21 g22 g23 g24 g25 g26 g27 g28 gi29 f8_30_14 (nI f8_31_14) gi32 g33 g34 g35 g36 g37 g38 g39 gi40 g41 g42 gi43 g44 g45), (aIc cI g7 8 G7), (aIc cI g24 8 G24), (aIc cI g25 8 a_g25_14)] H → va_D A [(oX8 g gi0 (nI mn) g2 g3 g4 g5 g6 g7 g8 g9 g10 (nI ml) g12 g13 gi14 g15 g16 g17 gi18 g19 g20 g21 g22 g23 g24 g25 g26 g27 g28 gi29 f8_30_14 (nI f8_31_14) gi32 g33 g34 g35 g36 g37 g38 g39 gi40 g41 g42 gi43 g44 g45), (aIc cI g7 8 G7), (aIc cI g24 8 G24), (aIc cI g25 8 a_g25_14)] → va_S A s.heap H locs → lv_has ls 5 [(2, .int (nI h2_14)), (1, .int h1_14), (0, .ref g)] → W p l e { frames := 1, cells := 0, slots := 0, locals := 21 } s m [.ref g].toArray below meth c H locs 0 0 (MQ below (cQv D (fun u => ∃ (G25p : Nat → Int32) (gi30p : Int32) (mvp : Nat), (mvp ≤ 8) ∧ (LD gi29 (TT Y0) (KE G7) G25p gi30p mvp) ∧ u = [(oX8 g gi0 (nI mn) g2 g3 g4 g5 g6 g7 g8 g9 g10 (nI ml) g12 g13 gi14 g15 g16 g17 gi18 g19 g20 g21 g22 g23 g24 g25 g26 g27 g28 gi29 gi30p (nI mvp) gi32 g33 g34 g35 g36 g37 g38 g39 gi40 g41 g42 gi43 g44 g45), (aIc cI g7 8 G7), (aIc cI g24 8 G24), (aIc cI g25 8 G25p)]) A) [.ref g].toArray s 0 0 A) (F0 m 14 ls []) := by
    intro zz
    induction zz with
    | zero => intro h1_14 h2_14 a_g25_14 f8_30_14 f8_31_14 _ _ _; exact fun h => absurd h (Nat.not_lt_zero _)
    | succ zz ih14 =>
      intro h1_14 h2_14 a_g25_14 f8_30_14 f8_31_14 hKN_14 hmo_14 hdn_14 hmu14 H locs ls hP hD hS hl
      refine lv_iload_n hx hb dX8_laysLevels_14 rfl (lv_at hl 0 rfl) ?_
      refine lv_if_eq (tgt := 231) hx hb dX8_laysLevels_15 (by decide) (fun c1 => ?_) (fun c1 => ?_)
      · skip
        have nc1 : h2_14 = 0 := (nI_eq (a := h2_14) (b := 0) (by omega) (by omega)).mp c1
        refine k_vret (u := [(oX8 g gi0 (nI mn) g2 g3 g4 g5 g6 g7 g8 g9 g10 (nI ml) g12 g13 gi14 g15 g16 g17 gi18 g19 g20 g21 g22 g23 g24 g25 g26 g27 g28 gi29 f8_30_14 (nI f8_31_14) gi32 g33 g34 g35 g36 g37 g38 g39 gi40 g41 g42 gi43 g44 g45), (aIc cI g7 8 G7), (aIc cI g24 8 G24), (aIc cI g25 8 a_g25_14)]) hx hb hr hlk hP hD hS dX8_laysLevels_231 ?_
        exact ⟨a_g25_14, f8_30_14, f8_31_14, (kn_nl HR hKN_14), (kn_end hKN_14 (fun p hp hb => kn_done HR htw hti (hdn_14 (by omega)) 8 p hp (Nat.le_trans (HR.2 p hp) (by decide)) hb)), rfl⟩
      · skip
        have nc1 : ¬ h2_14 = 0 := fun q9 => c1 ((nI_eq (a := h2_14) (b := 0) (by omega) (by omega)).mpr q9)
        refine lv_iconst (v := 0) hx hb dX8_laysLevels_18 (by decide) ?_
        refine lv_istore_n (lv' := [(2, .int 0), (1, .int h1_14), (0, .ref g)]) hx hb dX8_laysLevels_19 rfl hl (by decide) rfl (fun ls hl => ?_)
        refine lv_iconst (v := 0) hx hb dX8_laysLevels_20 (by decide) ?_
        refine lv_istore_n (lv' := [(3, .int 0), (2, .int 0), (1, .int h1_14), (0, .ref g)]) hx hb dX8_laysLevels_21 rfl hl (by decide) rfl (fun ls hl => ?_)
        have J22 : ∀ (zz : Nat) (i22 : Nat) (h1_22 : Int32) (h2_22 : Nat) (a_g25_22 : Nat → Int32) (f8_30_22 : Int32) (f8_31_22 : Nat), (i22 ≤ 8) → (KN gi29 h1_22 (TT Y0) (KE G7) a_g25_22 f8_30_22 f8_31_22 8) → (h2_22 ≤ 1) → (kc h1_14 ≤ kc h1_22) → (h2_22 = 0 ∨ kc h1_14 < kc h1_22) → (h2_22 = 0 → h1_22 = h1_14 ∧ ∀ p, p < i22 → bt gi29 p = true → bt h1_14 p = true ∨ ¬ TT Y0 p &&& (h1_14 ^^^ (-1)) = 0) → (8 - i22) < zz → ∀ (H : Heap) (locs : List Loc) (ls : Array Slot), va_P D vwCl [(oX8 g gi0 (nI mn) g2 g3 g4 g5 g6 g7 g8 g9 g10 (nI ml) g12 g13 gi14 g15 g16 g17 gi18 g19 g20 g21 g22 g23 g24 g25 g26 g27 g28 gi29 f8_30_22 (nI f8_31_22) gi32 g33 g34 g35 g36 g37 g38 g39 gi40 g41 g42 gi43 g44 g45), (aIc cI g7 8 G7), (aIc cI g24 8 G24), (aIc cI g25 8 a_g25_22)] H → va_D A [(oX8 g gi0 (nI mn) g2 g3 g4 g5 g6 g7 g8 g9 g10 (nI ml) g12 g13 gi14 g15 g16 g17 gi18 g19 g20 g21 g22 g23 g24 g25 g26 g27 g28 gi29 f8_30_22 (nI f8_31_22) gi32 g33 g34 g35 g36 g37 g38 g39 gi40 g41 g42 gi43 g44 g45), (aIc cI g7 8 G7), (aIc cI g24 8 G24), (aIc cI g25 8 a_g25_22)] → va_S A s.heap H locs → lv_has ls 5 [(3, .int (nI i22)), (2, .int (nI h2_22)), (1, .int h1_22), (0, .ref g)] → W p l e { frames := 1, cells := 0, slots := 0, locals := 21 } s m [.ref g].toArray below meth c H locs 0 0 (MQ below (cQv D (fun u => ∃ (G25p : Nat → Int32) (gi30p : Int32) (mvp : Nat), (mvp ≤ 8) ∧ (LD gi29 (TT Y0) (KE G7) G25p gi30p mvp) ∧ u = [(oX8 g gi0 (nI mn) g2 g3 g4 g5 g6 g7 g8 g9 g10 (nI ml) g12 g13 gi14 g15 g16 g17 gi18 g19 g20 g21 g22 g23 g24 g25 g26 g27 g28 gi29 gi30p (nI mvp) gi32 g33 g34 g35 g36 g37 g38 g39 gi40 g41 g42 gi43 g44 g45), (aIc cI g7 8 G7), (aIc cI g24 8 G24), (aIc cI g25 8 G25p)]) A) [.ref g].toArray s 0 0 A) (F0 m 22 ls []) := by
          intro zz
          induction zz with
          | zero => intro i22 h1_22 h2_22 a_g25_22 f8_30_22 f8_31_22 _ _ _ _ _ _; exact fun h => absurd h (Nat.not_lt_zero _)
          | succ zz ih22 =>
            intro i22 h1_22 h2_22 a_g25_22 f8_30_22 f8_31_22 hc3_22 hKN_22 hmo_22 hc1_22 hc2_22 hdj_22 hmu22 H locs ls hP hD hS hl
            refine lv_iload_n hx hb dX8_laysLevels_22 rfl (lv_at hl 0 rfl) ?_
            refine lv_bipush (v := 8) hx hb dX8_laysLevels_23 (by decide) ?_
            refine lv_icmp_ge (tgt := 228) hx hb dX8_laysLevels_25 (by decide) (fun c2 => ?_) (fun c2 => ?_)
            · skip
              have nc2 : 8 ≤ i22 := (nI_leI (a := 8) (b := i22) (by omega) (by omega)).mp c2
              refine lv_goto (tgt := 14) hx hb dX8_laysLevels_228 (by decide) ?_
              have hk1 := kc_le h1_14
              have hk2 := kc_le h1_22
              exact ih14 h1_22 h2_22 a_g25_22 f8_30_22 f8_31_22 hKN_22 hmo_22 (fun z9 => by obtain ⟨e9, h8⟩ := hdj_22 z9; rw [e9]; exact fun p hp => h8 p (by omega)) (by omega) _ _ _ hP hD hS (lv_sub hl [1, 2, 3] rfl)
            · skip
              have nc2 : ¬ 8 ≤ i22 := fun q9 => c2 ((nI_leI (a := 8) (b := i22) (by omega) (by omega)).mpr q9)
              refine lv_aload_n hx hb dX8_laysLevels_28 rfl (lv_at hl 3 rfl) ?_
              refine va_get (D := D) (ci := 8) (v := .int gi29) (C := RX8) (T := TX8) (N := 46) hx hb hts hiX8 hown hE.1 hP 0 rfl rfl 29 (by decide) (hts _ (List.mem_cons_of_mem _ wd_421)) (fun _ h9 => h9) rfl dX8_laysLevels_29 ?_
              refine lv_iload_n hx hb dX8_laysLevels_32 rfl (lv_at hl 0 rfl) ?_
              refine k_iS (va_runS (As := [.int gi29, .int (nI i22)]) (rest := []) ⟨hx, hb, hml, hown, hts⟩ (m_X8_isOn l D cI cJ H.size gi29 (nI i22)) (va_cwS 2 hts gX8_laysLevels_X8_isOn rfl rfl rfl (by decide +kernel) ⟨Nat.le_of_ble_eq_true rfl, Nat.le_of_ble_eq_true rfl⟩) (k_pre hE hP hD [] (by decide +kernel) rfl) rfl rfl hl.1 rfl (lv_room (Nat.le_of_ble_eq_true rfl)) dX8_laysLevels_33 ⟨Nat.le_of_ble_eq_true rfl, Nat.le_of_ble_eq_true rfl⟩) hP hD hS hA [] rfl (fun _ _ h9 => h9.2) (fun r3 H locs hw4 hP hD hS => ?_)
              obtain ⟨hw4, -⟩ := hw4
              refine lv_if_eq (tgt := 222) hx hb dX8_laysLevels_36 (by decide) (fun c5 => ?_) (fun c5 => ?_)
              · skip
                have hc5 : ¬ ((gi29 >>> ((nI i22) &&& 31)) &&& 1 = 1) := bz_0 hw4 c5
                refine lv_iinc (v := (nI (i22 + 1))) (lv' := [(3, .int (nI (i22 + 1))), (2, .int (nI h2_22)), (1, .int h1_22), (0, .ref g)]) hx hb dX8_laysLevels_222 hl (k := 0) rfl (nI_1 _) (by decide) rfl (fun ls hl => ?_)
                refine lv_goto (tgt := 22) hx hb dX8_laysLevels_225 (by decide) ?_
                have hin9 : ¬ bt gi29 i22 = true := fun q9 => hc5 ((bt_on (by omega)).mpr q9)
                exact ih22 (i22 + 1) h1_22 h2_22 a_g25_22 f8_30_22 f8_31_22 (by omega) hKN_22 hmo_22 hc1_22 hc2_22 (hdj_s hdj_22 (fun z9 => absurd z9 hin9)) (by omega) _ _ _ hP hD hS (lv_sub hl [0, 1, 2, 3] rfl)
              · skip
                have hc5 : (gi29 >>> ((nI i22) &&& 31)) &&& 1 = 1 := bz_1 hw4 c5
                refine lv_iload_n hx hb dX8_laysLevels_39 rfl (lv_at hl 2 rfl) ?_
                refine lv_iload_n hx hb dX8_laysLevels_40 rfl (lv_at hl 0 rfl) ?_
                refine k_iS (va_runS (As := [.int h1_22, .int (nI i22)]) (rest := []) ⟨hx, hb, hml, hown, hts⟩ (m_X8_isOn l D cI cJ H.size h1_22 (nI i22)) (va_cwS 2 hts gX8_laysLevels_X8_isOn rfl rfl rfl (by decide +kernel) ⟨Nat.le_of_ble_eq_true rfl, Nat.le_of_ble_eq_true rfl⟩) (k_pre hE hP hD [] (by decide +kernel) rfl) rfl rfl hl.1 rfl (lv_room (Nat.le_of_ble_eq_true rfl)) dX8_laysLevels_41 ⟨Nat.le_of_ble_eq_true rfl, Nat.le_of_ble_eq_true rfl⟩) hP hD hS hA [] rfl (fun _ _ h9 => h9.2) (fun r6 H locs hw7 hP hD hS => ?_)
                obtain ⟨hw7, -⟩ := hw7
                refine lv_if_ne (tgt := 222) hx hb dX8_laysLevels_44 (by decide) (fun c8 => ?_) (fun c8 => ?_)
                · skip
                  have hc8 : (h1_22 >>> ((nI i22) &&& 31)) &&& 1 = 1 := bz_1 hw7 c8
                  refine lv_iinc (v := (nI (i22 + 1))) (lv' := [(3, .int (nI (i22 + 1))), (2, .int (nI h2_22)), (1, .int h1_22), (0, .ref g)]) hx hb dX8_laysLevels_222 hl (k := 0) rfl (nI_1 _) (by decide) rfl (fun ls hl => ?_)
                  refine lv_goto (tgt := 22) hx hb dX8_laysLevels_225 (by decide) ?_
                  exact ih22 (i22 + 1) h1_22 h2_22 a_g25_22 f8_30_22 f8_31_22 (by omega) hKN_22 hmo_22 hc1_22 hc2_22 (hdj_s hdj_22 (fun _ => Or.inl ((bt_on (by omega)).mp hc8))) (by omega) _ _ _ hP hD hS (lv_sub hl [0, 1, 2, 3] rfl)
                · skip
                  have hc8 : ¬ ((h1_22 >>> ((nI i22) &&& 31)) &&& 1 = 1) := bz_0 hw7 c8
                  refine lv_aload_n hx hb dX8_laysLevels_47 rfl (lv_at hl 3 rfl) ?_
                  refine va_get (D := D) (ci := 8) (v := .ref g24) (C := RX8) (T := TX8) (N := 46) hx hb hts hiX8 hown hE.1 hP 0 rfl rfl 24 (by decide) (hts _ (List.mem_cons_of_mem _ wd_135)) (fun _ h9 => h9) rfl dX8_laysLevels_48 ?_
                  refine lv_iload_n hx hb dX8_laysLevels_51 rfl (lv_at hl 0 rfl) ?_
                  refine va_iald hx hb hE.1 hP 2 0 rfl rfl (vp_in_nI (n := i22) (by omega) (by decide)) dX8_laysLevels_52 ?_
                  refine lv_topi (fun v9 ev9 => ?_)
                  refine lv_iload_n hx hb dX8_laysLevels_53 rfl (lv_at hl 2 rfl) ?_
                  refine lv_iconst (v := (-1)) hx hb dX8_laysLevels_54 (by decide) ?_
                  refine lv_ixor hx hb dX8_laysLevels_55 ?_
                  refine lv_topi (fun v10 ev10 => ?_)
                  refine lv_iand hx hb dX8_laysLevels_56 ?_
                  refine lv_topi (fun v11 ev11 => ?_)
                  refine lv_if_eq (tgt := 63) hx hb dX8_laysLevels_57 (by decide) (fun c12 => ?_) (fun c12 => ?_)
                  · skip
                    have hin9 : bt gi29 i22 = true := (bt_on (by omega)).mp hc5
                    have hkb : ¬ bt h1_22 i22 = true := fun q9 => hc8 ((bt_on (by omega)).mpr q9)
                    have hts9 : TT Y0 i22 &&& (h1_22 ^^^ (-1)) = 0 := by rw [← hT i22 (by omega), ← cl_at (A := G24) (by omega) ev9, ← ev10, ← ev11]; exact c12
                    have hop9 := kn_open hKN_22 (by omega) hkb
                    refine lv_aload_n hx hb dX8_laysLevels_63 rfl (lv_at hl 3 rfl) ?_
                    refine va_get (D := D) (ci := 8) (v := .ref g25) (C := RX8) (T := TX8) (N := 46) hx hb hts hiX8 hown hE.1 hP 0 rfl rfl 25 (by decide) (hts _ (List.mem_cons_of_mem _ wd_136)) (fun _ h9 => h9) rfl dX8_laysLevels_64 ?_
                    refine lv_iload_n hx hb dX8_laysLevels_67 rfl (lv_at hl 0 rfl) ?_
                    refine lv_iconst (v := 0) hx hb dX8_laysLevels_68 (by decide) ?_
                    refine va_iast hx hb hE.1 hP hD hS 3 0 rfl rfl (vp_in_nI (n := i22) (by omega) (by decide)) dX8_laysLevels_69 (fun H locs hP hD hS => ?_)
                    refine k_re (w := [(oX8 g gi0 (nI mn) g2 g3 g4 g5 g6 g7 g8 g9 g10 (nI ml) g12 g13 gi14 g15 g16 g17 gi18 g19 g20 g21 g22 g23 g24 g25 g26 g27 g28 gi29 f8_30_22 (nI f8_31_22) gi32 g33 g34 g35 g36 g37 g38 g39 gi40 g41 g42 gi43 g44 g45), (aIc cI g7 8 G7), (aIc cI g24 8 G24), (aIc cI g25 8 (upd a_g25_22 (Int32.toNatClampNeg (nI i22)) 0))]) hP hD (fun hP hD => ?_)
                    refine lv_iconst (v := 0) hx hb dX8_laysLevels_70 (by decide) ?_
                    refine lv_istore (lv' := [(4, .int 0), (3, .int (nI i22)), (2, .int (nI h2_22)), (1, .int h1_22), (0, .ref g)]) hx hb dX8_laysLevels_71 hl (by decide) rfl (fun ls hl => ?_)
                    have J73 : ∀ (zz : Nat) (j73 : Nat) (a_g25_73 : Nat → Int32), (j73 ≤ 8) → (KN gi29 h1_22 (TT Y0) (KE G7) a_g25_73 f8_30_22 f8_31_22 i22 ∧ a_g25_73 i22 = nI (mx (lvF (TT Y0) i22) j73)) → (8 - j73) < zz → ∀ (H : Heap) (locs : List Loc) (ls : Array Slot), va_P D vwCl [(oX8 g gi0 (nI mn) g2 g3 g4 g5 g6 g7 g8 g9 g10 (nI ml) g12 g13 gi14 g15 g16 g17 gi18 g19 g20 g21 g22 g23 g24 g25 g26 g27 g28 gi29 f8_30_22 (nI f8_31_22) gi32 g33 g34 g35 g36 g37 g38 g39 gi40 g41 g42 gi43 g44 g45), (aIc cI g7 8 G7), (aIc cI g24 8 G24), (aIc cI g25 8 a_g25_73)] H → va_D A [(oX8 g gi0 (nI mn) g2 g3 g4 g5 g6 g7 g8 g9 g10 (nI ml) g12 g13 gi14 g15 g16 g17 gi18 g19 g20 g21 g22 g23 g24 g25 g26 g27 g28 gi29 f8_30_22 (nI f8_31_22) gi32 g33 g34 g35 g36 g37 g38 g39 gi40 g41 g42 gi43 g44 g45), (aIc cI g7 8 G7), (aIc cI g24 8 G24), (aIc cI g25 8 a_g25_73)] → va_S A s.heap H locs → lv_has ls 5 [(4, .int (nI j73)), (3, .int (nI i22)), (2, .int (nI h2_22)), (1, .int h1_22), (0, .ref g)] → W p l e { frames := 1, cells := 0, slots := 0, locals := 21 } s m [.ref g].toArray below meth c H locs 0 0 (MQ below (cQv D (fun u => ∃ (G25p : Nat → Int32) (gi30p : Int32) (mvp : Nat), (mvp ≤ 8) ∧ (LD gi29 (TT Y0) (KE G7) G25p gi30p mvp) ∧ u = [(oX8 g gi0 (nI mn) g2 g3 g4 g5 g6 g7 g8 g9 g10 (nI ml) g12 g13 gi14 g15 g16 g17 gi18 g19 g20 g21 g22 g23 g24 g25 g26 g27 g28 gi29 gi30p (nI mvp) gi32 g33 g34 g35 g36 g37 g38 g39 gi40 g41 g42 gi43 g44 g45), (aIc cI g7 8 G7), (aIc cI g24 8 G24), (aIc cI g25 8 G25p)]) A) [.ref g].toArray s 0 0 A) (F0 m 73 ls []) := by
                      intro zz
                      induction zz with
                      | zero => intro j73 a_g25_73 _ _; exact fun h => absurd h (Nat.not_lt_zero _)
                      | succ zz ih73 =>
                        intro j73 a_g25_73 hc4_73 hKQ_73 hmu73 H locs ls hP hD hS hl
                        refine lv_iload hx hb dX8_laysLevels_73 (lv_at hl 0 rfl) ?_
                        refine lv_bipush (v := 8) hx hb dX8_laysLevels_75 (by decide) ?_
                        refine lv_icmp_ge (tgt := 140) hx hb dX8_laysLevels_77 (by decide) (fun c13 => ?_) (fun c13 => ?_)
                        · skip
                          have nc13 : 8 ≤ j73 := (nI_leI (a := 8) (b := j73) (by omega) (by omega)).mp c13
                          have hj8 : j73 = 8 := by omega
                          have hlp : a_g25_73 i22 = nI (LVL (TT Y0) i22) := by rw [lvl_eq HR (by omega)]; have h9 := hKQ_73.2; rw [hj8] at h9; exact h9
                          have hko := kn_out HR hKQ_73.1 (by omega) (htw i22 (by omega)) hts9
                          have hl7p := lvl_7 HR (p := i22) (by omega)
                          have hnl8 := kn_nl HR hKN_22
                          refine lv_aload_n hx hb dX8_laysLevels_140 rfl (lv_at hl 4 rfl) ?_
                          refine lv_aload_n hx hb dX8_laysLevels_141 rfl (lv_at hl 4 rfl) ?_
                          refine va_get (D := D) (ci := 8) (v := .int f8_30_22) (C := RX8) (T := TX8) (N := 46) hx hb hts hiX8 hown hE.1 hP 0 rfl rfl 30 (by decide) (hts _ (List.mem_cons_of_mem _ wd_445)) (fun _ h9 => h9) rfl dX8_laysLevels_142 ?_
                          refine lv_aload_n hx hb dX8_laysLevels_145 rfl (lv_at hl 4 rfl) ?_
                          refine va_get (D := D) (ci := 8) (v := .ref g7) (C := RX8) (T := TX8) (N := 46) hx hb hts hiX8 hown hE.1 hP 0 rfl rfl 7 (by decide) (hts _ (List.mem_cons_of_mem _ wd_121)) (fun _ h9 => h9) rfl dX8_laysLevels_146 ?_
                          refine lv_iload_n hx hb dX8_laysLevels_149 rfl (lv_at hl 1 rfl) ?_
                          refine va_iald hx hb hE.1 hP 1 0 rfl rfl (vp_in_nI (n := i22) (by omega) (by decide)) dX8_laysLevels_150 ?_
                          refine lv_topi (fun v14 ev14 => ?_)
                          refine lv_iconst (v := 3) hx hb dX8_laysLevels_151 (by decide) ?_
                          refine lv_icmp_ne (tgt := 177) hx hb dX8_laysLevels_152 (by decide) (fun c15 => ?_) (fun c15 => ?_)
                          · skip
                            refine lv_iconst (v := 0) hx hb dX8_laysLevels_177 (by decide) ?_
                            refine lv_ior hx hb dX8_laysLevels_178 ?_
                            refine lv_topi (fun v16 ev16 => ?_)
                            refine va_put (D := D) (ci := 8) (v := .int v16) (ty := .int) (C := RX8) (T := TX8) (N := 46) hx hb hts hiX8 tyX8 tyX8_ok nmX8 hown hE.1 hP hD hS 0 rfl rfl 30 (by decide) (hts _ (List.mem_cons_of_mem _ wd_445)) (fun _ h9 => h9) rfl (by decide +kernel) rfl rfl (Nat.le_of_ble_eq_true rfl) dX8_laysLevels_179 (fun H locs hP hD hS => ?_)
                            refine k_re (w := [(oX8 g gi0 (nI mn) g2 g3 g4 g5 g6 g7 g8 g9 g10 (nI ml) g12 g13 gi14 g15 g16 g17 gi18 g19 g20 g21 g22 g23 g24 g25 g26 g27 g28 gi29 v16 (nI f8_31_22) gi32 g33 g34 g35 g36 g37 g38 g39 gi40 g41 g42 gi43 g44 g45), (aIc cI g7 8 G7), (aIc cI g24 8 G24), (aIc cI g25 8 a_g25_73)]) hP hD (fun hP hD => ?_)
                            refine lv_aload_n hx hb dX8_laysLevels_182 rfl (lv_at hl 4 rfl) ?_
                            refine lv_aload_n hx hb dX8_laysLevels_183 rfl (lv_at hl 4 rfl) ?_
                            refine va_get (D := D) (ci := 8) (v := .ref g25) (C := RX8) (T := TX8) (N := 46) hx hb hts hiX8 hown hE.1 hP 0 rfl rfl 25 (by decide) (hts _ (List.mem_cons_of_mem _ wd_136)) (fun _ h9 => h9) rfl dX8_laysLevels_184 ?_
                            refine lv_iload_n hx hb dX8_laysLevels_187 rfl (lv_at hl 1 rfl) ?_
                            refine va_iald hx hb hE.1 hP 3 0 rfl rfl (vp_in_nI (n := i22) (by omega) (by decide)) dX8_laysLevels_188 ?_
                            refine lv_topi (fun v17 ev17 => ?_)
                            obtain rfl : v17 = nI (LVL (TT Y0) i22) := ev17.trans (by rw [nI_clamp (by omega)]; exact hlp)
                            refine lv_aload_n hx hb dX8_laysLevels_189 rfl (lv_at hl 4 rfl) ?_
                            refine va_get (D := D) (ci := 8) (v := .int (nI f8_31_22)) (C := RX8) (T := TX8) (N := 46) hx hb hts hiX8 hown hE.1 hP 0 rfl rfl 31 (by decide) (hts _ (List.mem_cons_of_mem _ wd_422)) (fun _ h9 => h9) rfl dX8_laysLevels_190 ?_
                            refine lv_icmp_lt (tgt := 207) hx hb dX8_laysLevels_193 (by decide) (fun c18 => ?_) (fun c18 => ?_)
                            · skip
                              have nc18 : LVL (TT Y0) i22 < f8_31_22 := (nI_ltI (a := (LVL (TT Y0) i22)) (b := f8_31_22) (by omega) (by omega)).mp c18
                              refine lv_aload_n hx hb dX8_laysLevels_207 rfl (lv_at hl 4 rfl) ?_
                              refine va_get (D := D) (ci := 8) (v := .int (nI f8_31_22)) (C := RX8) (T := TX8) (N := 46) hx hb hts hiX8 hown hE.1 hP 0 rfl rfl 31 (by decide) (hts _ (List.mem_cons_of_mem _ wd_422)) (fun _ h9 => h9) rfl dX8_laysLevels_208 ?_
                              refine va_put (D := D) (ci := 8) (v := .int (nI f8_31_22)) (ty := .int) (C := RX8) (T := TX8) (N := 46) hx hb hts hiX8 tyX8 tyX8_ok nmX8 hown hE.1 hP hD hS 0 rfl rfl 31 (by decide) (hts _ (List.mem_cons_of_mem _ wd_422)) (fun _ h9 => h9) rfl (by decide +kernel) rfl rfl (Nat.le_of_ble_eq_true rfl) dX8_laysLevels_211 (fun H locs hP hD hS => ?_)
                              refine k_re (w := [(oX8 g gi0 (nI mn) g2 g3 g4 g5 g6 g7 g8 g9 g10 (nI ml) g12 g13 gi14 g15 g16 g17 gi18 g19 g20 g21 g22 g23 g24 g25 g26 g27 g28 gi29 v16 (nI f8_31_22) gi32 g33 g34 g35 g36 g37 g38 g39 gi40 g41 g42 gi43 g44 g45), (aIc cI g7 8 G7), (aIc cI g24 8 G24), (aIc cI g25 8 a_g25_73)]) hP hD (fun hP hD => ?_)
                              refine lv_iload_n hx hb dX8_laysLevels_214 rfl (lv_at hl 3 rfl) ?_
                              refine lv_iconst (v := 1) hx hb dX8_laysLevels_215 (by decide) ?_
                              refine lv_iload_n hx hb dX8_laysLevels_216 rfl (lv_at hl 1 rfl) ?_
                              refine lv_ishl hx hb dX8_laysLevels_217 ?_
                              refine lv_topi (fun v19 ev19 => ?_)
                              refine lv_ior hx hb dX8_laysLevels_218 ?_
                              refine lv_topi (fun v20 ev20 => ?_)
                              refine lv_istore_n (lv' := [(1, .int v20), (4, .int (nI j73)), (3, .int (nI i22)), (2, .int (nI h2_22)), (0, .ref g)]) hx hb dX8_laysLevels_219 rfl hl (by decide) rfl (fun ls hl => ?_)
                              refine lv_iconst (v := 1) hx hb dX8_laysLevels_220 (by decide) ?_
                              refine lv_istore_n (lv' := [(2, .int 1), (1, .int v20), (4, .int (nI j73)), (3, .int (nI i22)), (0, .ref g)]) hx hb dX8_laysLevels_221 rfl hl (by decide) rfl (fun ls hl => ?_)
                              refine lv_iinc (v := (nI (i22 + 1))) (lv' := [(3, .int (nI (i22 + 1))), (2, .int 1), (1, .int v20), (4, .int (nI j73)), (0, .ref g)]) hx hb dX8_laysLevels_222 hl (k := 3) rfl (nI_1 _) (by decide) rfl (fun ls hl => ?_)
                              refine lv_goto (tgt := 22) hx hb dX8_laysLevels_225 (by decide) ?_
                              have hkc : kc v20 = kc h1_22 + 1 := kc_or (by omega) (bf hkb) ev19 ev20
                              have hk8 := kc_lt (a := h1_22) (p := i22) (by omega) (bf hkb)
                              exact ih22 (i22 + 1) v20 1 a_g25_73 v16 f8_31_22 (by omega) (kn_put hKQ_73.1 (by omega) hin9 hkb hlp (by rw [ev20, ev19]) (Or.inr ⟨fun z9 => c15 ((ke_t (by omega) (cl_at (A := G7) (by omega) ev14)).mp (hko.mpr z9).1), by rw [ev16, or_0]⟩) (by omega)) (by omega) (by omega) (by omega) (fun z9 => absurd z9 (by decide)) (by omega) _ _ _ hP hD hS (lv_sub hl [0, 1, 2, 4] rfl)
                            · skip
                              have nc18 : ¬ LVL (TT Y0) i22 < f8_31_22 := fun q9 => c18 ((nI_ltI (a := (LVL (TT Y0) i22)) (b := f8_31_22) (by omega) (by omega)).mpr q9)
                              refine lv_aload_n hx hb dX8_laysLevels_196 rfl (lv_at hl 4 rfl) ?_
                              refine va_get (D := D) (ci := 8) (v := .ref g25) (C := RX8) (T := TX8) (N := 46) hx hb hts hiX8 hown hE.1 hP 0 rfl rfl 25 (by decide) (hts _ (List.mem_cons_of_mem _ wd_136)) (fun _ h9 => h9) rfl dX8_laysLevels_197 ?_
                              refine lv_iload_n hx hb dX8_laysLevels_200 rfl (lv_at hl 1 rfl) ?_
                              refine va_iald hx hb hE.1 hP 3 0 rfl rfl (vp_in_nI (n := i22) (by omega) (by decide)) dX8_laysLevels_201 ?_
                              refine lv_topi (fun v21 ev21 => ?_)
                              obtain rfl : v21 = nI (LVL (TT Y0) i22) := ev21.trans (by rw [nI_clamp (by omega)]; exact hlp)
                              refine lv_iconst (v := 1) hx hb dX8_laysLevels_202 (by decide) ?_
                              refine lv_iadd hx hb dX8_laysLevels_203 ?_
                              refine lv_topi (fun v22 ev22 => ?_)
                              obtain rfl : v22 = (nI ((LVL (TT Y0) i22) + 1)) := by rw [ev22]; exact nI_add (LVL (TT Y0) i22) 1
                              refine lv_goto (tgt := 211) hx hb dX8_laysLevels_204 (by decide) ?_
                              refine va_put (D := D) (ci := 8) (v := .int (nI ((LVL (TT Y0) i22) + 1))) (ty := .int) (C := RX8) (T := TX8) (N := 46) hx hb hts hiX8 tyX8 tyX8_ok nmX8 hown hE.1 hP hD hS 0 rfl rfl 31 (by decide) (hts _ (List.mem_cons_of_mem _ wd_422)) (fun _ h9 => h9) rfl (by decide +kernel) rfl rfl (Nat.le_of_ble_eq_true rfl) dX8_laysLevels_211 (fun H locs hP hD hS => ?_)
                              refine k_re (w := [(oX8 g gi0 (nI mn) g2 g3 g4 g5 g6 g7 g8 g9 g10 (nI ml) g12 g13 gi14 g15 g16 g17 gi18 g19 g20 g21 g22 g23 g24 g25 g26 g27 g28 gi29 v16 (nI ((LVL (TT Y0) i22) + 1)) gi32 g33 g34 g35 g36 g37 g38 g39 gi40 g41 g42 gi43 g44 g45), (aIc cI g7 8 G7), (aIc cI g24 8 G24), (aIc cI g25 8 a_g25_73)]) hP hD (fun hP hD => ?_)
                              refine lv_iload_n hx hb dX8_laysLevels_214 rfl (lv_at hl 3 rfl) ?_
                              refine lv_iconst (v := 1) hx hb dX8_laysLevels_215 (by decide) ?_
                              refine lv_iload_n hx hb dX8_laysLevels_216 rfl (lv_at hl 1 rfl) ?_
                              refine lv_ishl hx hb dX8_laysLevels_217 ?_
                              refine lv_topi (fun v23 ev23 => ?_)
                              refine lv_ior hx hb dX8_laysLevels_218 ?_
                              refine lv_topi (fun v24 ev24 => ?_)
                              refine lv_istore_n (lv' := [(1, .int v24), (4, .int (nI j73)), (3, .int (nI i22)), (2, .int (nI h2_22)), (0, .ref g)]) hx hb dX8_laysLevels_219 rfl hl (by decide) rfl (fun ls hl => ?_)
                              refine lv_iconst (v := 1) hx hb dX8_laysLevels_220 (by decide) ?_
                              refine lv_istore_n (lv' := [(2, .int 1), (1, .int v24), (4, .int (nI j73)), (3, .int (nI i22)), (0, .ref g)]) hx hb dX8_laysLevels_221 rfl hl (by decide) rfl (fun ls hl => ?_)
                              refine lv_iinc (v := (nI (i22 + 1))) (lv' := [(3, .int (nI (i22 + 1))), (2, .int 1), (1, .int v24), (4, .int (nI j73)), (0, .ref g)]) hx hb dX8_laysLevels_222 hl (k := 3) rfl (nI_1 _) (by decide) rfl (fun ls hl => ?_)
                              refine lv_goto (tgt := 22) hx hb dX8_laysLevels_225 (by decide) ?_
                              have hkc : kc v24 = kc h1_22 + 1 := kc_or (by omega) (bf hkb) ev23 ev24
                              have hk8 := kc_lt (a := h1_22) (p := i22) (by omega) (bf hkb)
                              exact ih22 (i22 + 1) v24 1 a_g25_73 v16 ((LVL (TT Y0) i22) + 1) (by omega) (kn_put hKQ_73.1 (by omega) hin9 hkb hlp (by rw [ev24, ev23]) (Or.inr ⟨fun z9 => c15 ((ke_t (by omega) (cl_at (A := G7) (by omega) ev14)).mp (hko.mpr z9).1), by rw [ev16, or_0]⟩) (by omega)) (by omega) (by omega) (by omega) (fun z9 => absurd z9 (by decide)) (by omega) _ _ _ hP hD hS (lv_sub hl [0, 1, 2, 4] rfl)
                          · skip
                            refine lv_aload_n hx hb dX8_laysLevels_155 rfl (lv_at hl 4 rfl) ?_
                            refine va_get (D := D) (ci := 8) (v := .ref g24) (C := RX8) (T := TX8) (N := 46) hx hb hts hiX8 hown hE.1 hP 0 rfl rfl 24 (by decide) (hts _ (List.mem_cons_of_mem _ wd_135)) (fun _ h9 => h9) rfl dX8_laysLevels_156 ?_
                            refine lv_iload_n hx hb dX8_laysLevels_159 rfl (lv_at hl 1 rfl) ?_
                            refine va_iald hx hb hE.1 hP 2 0 rfl rfl (vp_in_nI (n := i22) (by omega) (by decide)) dX8_laysLevels_160 ?_
                            refine lv_topi (fun v25 ev25 => ?_)
                            refine lv_aload_n hx hb dX8_laysLevels_161 rfl (lv_at hl 4 rfl) ?_
                            refine va_get (D := D) (ci := 8) (v := .int f8_30_22) (C := RX8) (T := TX8) (N := 46) hx hb hts hiX8 hown hE.1 hP 0 rfl rfl 30 (by decide) (hts _ (List.mem_cons_of_mem _ wd_445)) (fun _ h9 => h9) rfl dX8_laysLevels_162 ?_
                            refine lv_iconst (v := (-1)) hx hb dX8_laysLevels_165 (by decide) ?_
                            refine lv_ixor hx hb dX8_laysLevels_166 ?_
                            refine lv_topi (fun v26 ev26 => ?_)
                            refine lv_iand hx hb dX8_laysLevels_167 ?_
                            refine lv_topi (fun v27 ev27 => ?_)
                            refine lv_if_eq (tgt := 177) hx hb dX8_laysLevels_168 (by decide) (fun c28 => ?_) (fun c28 => ?_)
                            · skip
                              refine lv_iconst (v := 0) hx hb dX8_laysLevels_177 (by decide) ?_
                              refine lv_ior hx hb dX8_laysLevels_178 ?_
                              refine lv_topi (fun v29 ev29 => ?_)
                              refine va_put (D := D) (ci := 8) (v := .int v29) (ty := .int) (C := RX8) (T := TX8) (N := 46) hx hb hts hiX8 tyX8 tyX8_ok nmX8 hown hE.1 hP hD hS 0 rfl rfl 30 (by decide) (hts _ (List.mem_cons_of_mem _ wd_445)) (fun _ h9 => h9) rfl (by decide +kernel) rfl rfl (Nat.le_of_ble_eq_true rfl) dX8_laysLevels_179 (fun H locs hP hD hS => ?_)
                              refine k_re (w := [(oX8 g gi0 (nI mn) g2 g3 g4 g5 g6 g7 g8 g9 g10 (nI ml) g12 g13 gi14 g15 g16 g17 gi18 g19 g20 g21 g22 g23 g24 g25 g26 g27 g28 gi29 v29 (nI f8_31_22) gi32 g33 g34 g35 g36 g37 g38 g39 gi40 g41 g42 gi43 g44 g45), (aIc cI g7 8 G7), (aIc cI g24 8 G24), (aIc cI g25 8 a_g25_73)]) hP hD (fun hP hD => ?_)
                              refine lv_aload_n hx hb dX8_laysLevels_182 rfl (lv_at hl 4 rfl) ?_
                              refine lv_aload_n hx hb dX8_laysLevels_183 rfl (lv_at hl 4 rfl) ?_
                              refine va_get (D := D) (ci := 8) (v := .ref g25) (C := RX8) (T := TX8) (N := 46) hx hb hts hiX8 hown hE.1 hP 0 rfl rfl 25 (by decide) (hts _ (List.mem_cons_of_mem _ wd_136)) (fun _ h9 => h9) rfl dX8_laysLevels_184 ?_
                              refine lv_iload_n hx hb dX8_laysLevels_187 rfl (lv_at hl 1 rfl) ?_
                              refine va_iald hx hb hE.1 hP 3 0 rfl rfl (vp_in_nI (n := i22) (by omega) (by decide)) dX8_laysLevels_188 ?_
                              refine lv_topi (fun v30 ev30 => ?_)
                              obtain rfl : v30 = nI (LVL (TT Y0) i22) := ev30.trans (by rw [nI_clamp (by omega)]; exact hlp)
                              refine lv_aload_n hx hb dX8_laysLevels_189 rfl (lv_at hl 4 rfl) ?_
                              refine va_get (D := D) (ci := 8) (v := .int (nI f8_31_22)) (C := RX8) (T := TX8) (N := 46) hx hb hts hiX8 hown hE.1 hP 0 rfl rfl 31 (by decide) (hts _ (List.mem_cons_of_mem _ wd_422)) (fun _ h9 => h9) rfl dX8_laysLevels_190 ?_
                              refine lv_icmp_lt (tgt := 207) hx hb dX8_laysLevels_193 (by decide) (fun c31 => ?_) (fun c31 => ?_)
                              · skip
                                have nc31 : LVL (TT Y0) i22 < f8_31_22 := (nI_ltI (a := (LVL (TT Y0) i22)) (b := f8_31_22) (by omega) (by omega)).mp c31
                                refine lv_aload_n hx hb dX8_laysLevels_207 rfl (lv_at hl 4 rfl) ?_
                                refine va_get (D := D) (ci := 8) (v := .int (nI f8_31_22)) (C := RX8) (T := TX8) (N := 46) hx hb hts hiX8 hown hE.1 hP 0 rfl rfl 31 (by decide) (hts _ (List.mem_cons_of_mem _ wd_422)) (fun _ h9 => h9) rfl dX8_laysLevels_208 ?_
                                refine va_put (D := D) (ci := 8) (v := .int (nI f8_31_22)) (ty := .int) (C := RX8) (T := TX8) (N := 46) hx hb hts hiX8 tyX8 tyX8_ok nmX8 hown hE.1 hP hD hS 0 rfl rfl 31 (by decide) (hts _ (List.mem_cons_of_mem _ wd_422)) (fun _ h9 => h9) rfl (by decide +kernel) rfl rfl (Nat.le_of_ble_eq_true rfl) dX8_laysLevels_211 (fun H locs hP hD hS => ?_)
                                refine k_re (w := [(oX8 g gi0 (nI mn) g2 g3 g4 g5 g6 g7 g8 g9 g10 (nI ml) g12 g13 gi14 g15 g16 g17 gi18 g19 g20 g21 g22 g23 g24 g25 g26 g27 g28 gi29 v29 (nI f8_31_22) gi32 g33 g34 g35 g36 g37 g38 g39 gi40 g41 g42 gi43 g44 g45), (aIc cI g7 8 G7), (aIc cI g24 8 G24), (aIc cI g25 8 a_g25_73)]) hP hD (fun hP hD => ?_)
                                refine lv_iload_n hx hb dX8_laysLevels_214 rfl (lv_at hl 3 rfl) ?_
                                refine lv_iconst (v := 1) hx hb dX8_laysLevels_215 (by decide) ?_
                                refine lv_iload_n hx hb dX8_laysLevels_216 rfl (lv_at hl 1 rfl) ?_
                                refine lv_ishl hx hb dX8_laysLevels_217 ?_
                                refine lv_topi (fun v32 ev32 => ?_)
                                refine lv_ior hx hb dX8_laysLevels_218 ?_
                                refine lv_topi (fun v33 ev33 => ?_)
                                refine lv_istore_n (lv' := [(1, .int v33), (4, .int (nI j73)), (3, .int (nI i22)), (2, .int (nI h2_22)), (0, .ref g)]) hx hb dX8_laysLevels_219 rfl hl (by decide) rfl (fun ls hl => ?_)
                                refine lv_iconst (v := 1) hx hb dX8_laysLevels_220 (by decide) ?_
                                refine lv_istore_n (lv' := [(2, .int 1), (1, .int v33), (4, .int (nI j73)), (3, .int (nI i22)), (0, .ref g)]) hx hb dX8_laysLevels_221 rfl hl (by decide) rfl (fun ls hl => ?_)
                                refine lv_iinc (v := (nI (i22 + 1))) (lv' := [(3, .int (nI (i22 + 1))), (2, .int 1), (1, .int v33), (4, .int (nI j73)), (0, .ref g)]) hx hb dX8_laysLevels_222 hl (k := 3) rfl (nI_1 _) (by decide) rfl (fun ls hl => ?_)
                                refine lv_goto (tgt := 22) hx hb dX8_laysLevels_225 (by decide) ?_
                                have hkc : kc v33 = kc h1_22 + 1 := kc_or (by omega) (bf hkb) ev32 ev33
                                have hk8 := kc_lt (a := h1_22) (p := i22) (by omega) (bf hkb)
                                exact ih22 (i22 + 1) v33 1 a_g25_73 v29 f8_31_22 (by omega) (kn_put hKQ_73.1 (by omega) hin9 hkb hlp (by rw [ev33, ev32]) (Or.inr ⟨fun z9 => (hko.mpr z9).2 (by rw [← hT i22 (by omega), ← cl_at (A := G24) (by omega) ev25, ← ev26, ← ev27]; exact c28), by rw [ev29, or_0]⟩) (by omega)) (by omega) (by omega) (by omega) (fun z9 => absurd z9 (by decide)) (by omega) _ _ _ hP hD hS (lv_sub hl [0, 1, 2, 4] rfl)
                              · skip
                                have nc31 : ¬ LVL (TT Y0) i22 < f8_31_22 := fun q9 => c31 ((nI_ltI (a := (LVL (TT Y0) i22)) (b := f8_31_22) (by omega) (by omega)).mpr q9)
                                refine lv_aload_n hx hb dX8_laysLevels_196 rfl (lv_at hl 4 rfl) ?_
                                refine va_get (D := D) (ci := 8) (v := .ref g25) (C := RX8) (T := TX8) (N := 46) hx hb hts hiX8 hown hE.1 hP 0 rfl rfl 25 (by decide) (hts _ (List.mem_cons_of_mem _ wd_136)) (fun _ h9 => h9) rfl dX8_laysLevels_197 ?_
                                refine lv_iload_n hx hb dX8_laysLevels_200 rfl (lv_at hl 1 rfl) ?_
                                refine va_iald hx hb hE.1 hP 3 0 rfl rfl (vp_in_nI (n := i22) (by omega) (by decide)) dX8_laysLevels_201 ?_
                                refine lv_topi (fun v34 ev34 => ?_)
                                obtain rfl : v34 = nI (LVL (TT Y0) i22) := ev34.trans (by rw [nI_clamp (by omega)]; exact hlp)
                                refine lv_iconst (v := 1) hx hb dX8_laysLevels_202 (by decide) ?_
                                refine lv_iadd hx hb dX8_laysLevels_203 ?_
                                refine lv_topi (fun v35 ev35 => ?_)
                                obtain rfl : v35 = (nI ((LVL (TT Y0) i22) + 1)) := by rw [ev35]; exact nI_add (LVL (TT Y0) i22) 1
                                refine lv_goto (tgt := 211) hx hb dX8_laysLevels_204 (by decide) ?_
                                refine va_put (D := D) (ci := 8) (v := .int (nI ((LVL (TT Y0) i22) + 1))) (ty := .int) (C := RX8) (T := TX8) (N := 46) hx hb hts hiX8 tyX8 tyX8_ok nmX8 hown hE.1 hP hD hS 0 rfl rfl 31 (by decide) (hts _ (List.mem_cons_of_mem _ wd_422)) (fun _ h9 => h9) rfl (by decide +kernel) rfl rfl (Nat.le_of_ble_eq_true rfl) dX8_laysLevels_211 (fun H locs hP hD hS => ?_)
                                refine k_re (w := [(oX8 g gi0 (nI mn) g2 g3 g4 g5 g6 g7 g8 g9 g10 (nI ml) g12 g13 gi14 g15 g16 g17 gi18 g19 g20 g21 g22 g23 g24 g25 g26 g27 g28 gi29 v29 (nI ((LVL (TT Y0) i22) + 1)) gi32 g33 g34 g35 g36 g37 g38 g39 gi40 g41 g42 gi43 g44 g45), (aIc cI g7 8 G7), (aIc cI g24 8 G24), (aIc cI g25 8 a_g25_73)]) hP hD (fun hP hD => ?_)
                                refine lv_iload_n hx hb dX8_laysLevels_214 rfl (lv_at hl 3 rfl) ?_
                                refine lv_iconst (v := 1) hx hb dX8_laysLevels_215 (by decide) ?_
                                refine lv_iload_n hx hb dX8_laysLevels_216 rfl (lv_at hl 1 rfl) ?_
                                refine lv_ishl hx hb dX8_laysLevels_217 ?_
                                refine lv_topi (fun v36 ev36 => ?_)
                                refine lv_ior hx hb dX8_laysLevels_218 ?_
                                refine lv_topi (fun v37 ev37 => ?_)
                                refine lv_istore_n (lv' := [(1, .int v37), (4, .int (nI j73)), (3, .int (nI i22)), (2, .int (nI h2_22)), (0, .ref g)]) hx hb dX8_laysLevels_219 rfl hl (by decide) rfl (fun ls hl => ?_)
                                refine lv_iconst (v := 1) hx hb dX8_laysLevels_220 (by decide) ?_
                                refine lv_istore_n (lv' := [(2, .int 1), (1, .int v37), (4, .int (nI j73)), (3, .int (nI i22)), (0, .ref g)]) hx hb dX8_laysLevels_221 rfl hl (by decide) rfl (fun ls hl => ?_)
                                refine lv_iinc (v := (nI (i22 + 1))) (lv' := [(3, .int (nI (i22 + 1))), (2, .int 1), (1, .int v37), (4, .int (nI j73)), (0, .ref g)]) hx hb dX8_laysLevels_222 hl (k := 3) rfl (nI_1 _) (by decide) rfl (fun ls hl => ?_)
                                refine lv_goto (tgt := 22) hx hb dX8_laysLevels_225 (by decide) ?_
                                have hkc : kc v37 = kc h1_22 + 1 := kc_or (by omega) (bf hkb) ev36 ev37
                                have hk8 := kc_lt (a := h1_22) (p := i22) (by omega) (bf hkb)
                                exact ih22 (i22 + 1) v37 1 a_g25_73 v29 ((LVL (TT Y0) i22) + 1) (by omega) (kn_put hKQ_73.1 (by omega) hin9 hkb hlp (by rw [ev37, ev36]) (Or.inr ⟨fun z9 => (hko.mpr z9).2 (by rw [← hT i22 (by omega), ← cl_at (A := G24) (by omega) ev25, ← ev26, ← ev27]; exact c28), by rw [ev29, or_0]⟩) (by omega)) (by omega) (by omega) (by omega) (fun z9 => absurd z9 (by decide)) (by omega) _ _ _ hP hD hS (lv_sub hl [0, 1, 2, 4] rfl)
                            · skip
                              refine lv_iconst (v := 1) hx hb dX8_laysLevels_171 (by decide) ?_
                              refine lv_iload_n hx hb dX8_laysLevels_172 rfl (lv_at hl 1 rfl) ?_
                              refine lv_ishl hx hb dX8_laysLevels_173 ?_
                              refine lv_topi (fun v38 ev38 => ?_)
                              refine lv_goto (tgt := 178) hx hb dX8_laysLevels_174 (by decide) ?_
                              refine lv_ior hx hb dX8_laysLevels_178 ?_
                              refine lv_topi (fun v39 ev39 => ?_)
                              refine va_put (D := D) (ci := 8) (v := .int v39) (ty := .int) (C := RX8) (T := TX8) (N := 46) hx hb hts hiX8 tyX8 tyX8_ok nmX8 hown hE.1 hP hD hS 0 rfl rfl 30 (by decide) (hts _ (List.mem_cons_of_mem _ wd_445)) (fun _ h9 => h9) rfl (by decide +kernel) rfl rfl (Nat.le_of_ble_eq_true rfl) dX8_laysLevels_179 (fun H locs hP hD hS => ?_)
                              refine k_re (w := [(oX8 g gi0 (nI mn) g2 g3 g4 g5 g6 g7 g8 g9 g10 (nI ml) g12 g13 gi14 g15 g16 g17 gi18 g19 g20 g21 g22 g23 g24 g25 g26 g27 g28 gi29 v39 (nI f8_31_22) gi32 g33 g34 g35 g36 g37 g38 g39 gi40 g41 g42 gi43 g44 g45), (aIc cI g7 8 G7), (aIc cI g24 8 G24), (aIc cI g25 8 a_g25_73)]) hP hD (fun hP hD => ?_)
                              refine lv_aload_n hx hb dX8_laysLevels_182 rfl (lv_at hl 4 rfl) ?_
                              refine lv_aload_n hx hb dX8_laysLevels_183 rfl (lv_at hl 4 rfl) ?_
                              refine va_get (D := D) (ci := 8) (v := .ref g25) (C := RX8) (T := TX8) (N := 46) hx hb hts hiX8 hown hE.1 hP 0 rfl rfl 25 (by decide) (hts _ (List.mem_cons_of_mem _ wd_136)) (fun _ h9 => h9) rfl dX8_laysLevels_184 ?_
                              refine lv_iload_n hx hb dX8_laysLevels_187 rfl (lv_at hl 1 rfl) ?_
                              refine va_iald hx hb hE.1 hP 3 0 rfl rfl (vp_in_nI (n := i22) (by omega) (by decide)) dX8_laysLevels_188 ?_
                              refine lv_topi (fun v40 ev40 => ?_)
                              obtain rfl : v40 = nI (LVL (TT Y0) i22) := ev40.trans (by rw [nI_clamp (by omega)]; exact hlp)
                              refine lv_aload_n hx hb dX8_laysLevels_189 rfl (lv_at hl 4 rfl) ?_
                              refine va_get (D := D) (ci := 8) (v := .int (nI f8_31_22)) (C := RX8) (T := TX8) (N := 46) hx hb hts hiX8 hown hE.1 hP 0 rfl rfl 31 (by decide) (hts _ (List.mem_cons_of_mem _ wd_422)) (fun _ h9 => h9) rfl dX8_laysLevels_190 ?_
                              refine lv_icmp_lt (tgt := 207) hx hb dX8_laysLevels_193 (by decide) (fun c41 => ?_) (fun c41 => ?_)
                              · skip
                                have nc41 : LVL (TT Y0) i22 < f8_31_22 := (nI_ltI (a := (LVL (TT Y0) i22)) (b := f8_31_22) (by omega) (by omega)).mp c41
                                refine lv_aload_n hx hb dX8_laysLevels_207 rfl (lv_at hl 4 rfl) ?_
                                refine va_get (D := D) (ci := 8) (v := .int (nI f8_31_22)) (C := RX8) (T := TX8) (N := 46) hx hb hts hiX8 hown hE.1 hP 0 rfl rfl 31 (by decide) (hts _ (List.mem_cons_of_mem _ wd_422)) (fun _ h9 => h9) rfl dX8_laysLevels_208 ?_
                                refine va_put (D := D) (ci := 8) (v := .int (nI f8_31_22)) (ty := .int) (C := RX8) (T := TX8) (N := 46) hx hb hts hiX8 tyX8 tyX8_ok nmX8 hown hE.1 hP hD hS 0 rfl rfl 31 (by decide) (hts _ (List.mem_cons_of_mem _ wd_422)) (fun _ h9 => h9) rfl (by decide +kernel) rfl rfl (Nat.le_of_ble_eq_true rfl) dX8_laysLevels_211 (fun H locs hP hD hS => ?_)
                                refine k_re (w := [(oX8 g gi0 (nI mn) g2 g3 g4 g5 g6 g7 g8 g9 g10 (nI ml) g12 g13 gi14 g15 g16 g17 gi18 g19 g20 g21 g22 g23 g24 g25 g26 g27 g28 gi29 v39 (nI f8_31_22) gi32 g33 g34 g35 g36 g37 g38 g39 gi40 g41 g42 gi43 g44 g45), (aIc cI g7 8 G7), (aIc cI g24 8 G24), (aIc cI g25 8 a_g25_73)]) hP hD (fun hP hD => ?_)
                                refine lv_iload_n hx hb dX8_laysLevels_214 rfl (lv_at hl 3 rfl) ?_
                                refine lv_iconst (v := 1) hx hb dX8_laysLevels_215 (by decide) ?_
                                refine lv_iload_n hx hb dX8_laysLevels_216 rfl (lv_at hl 1 rfl) ?_
                                refine lv_ishl hx hb dX8_laysLevels_217 ?_
                                refine lv_topi (fun v42 ev42 => ?_)
                                refine lv_ior hx hb dX8_laysLevels_218 ?_
                                refine lv_topi (fun v43 ev43 => ?_)
                                refine lv_istore_n (lv' := [(1, .int v43), (4, .int (nI j73)), (3, .int (nI i22)), (2, .int (nI h2_22)), (0, .ref g)]) hx hb dX8_laysLevels_219 rfl hl (by decide) rfl (fun ls hl => ?_)
                                refine lv_iconst (v := 1) hx hb dX8_laysLevels_220 (by decide) ?_
                                refine lv_istore_n (lv' := [(2, .int 1), (1, .int v43), (4, .int (nI j73)), (3, .int (nI i22)), (0, .ref g)]) hx hb dX8_laysLevels_221 rfl hl (by decide) rfl (fun ls hl => ?_)
                                refine lv_iinc (v := (nI (i22 + 1))) (lv' := [(3, .int (nI (i22 + 1))), (2, .int 1), (1, .int v43), (4, .int (nI j73)), (0, .ref g)]) hx hb dX8_laysLevels_222 hl (k := 3) rfl (nI_1 _) (by decide) rfl (fun ls hl => ?_)
                                refine lv_goto (tgt := 22) hx hb dX8_laysLevels_225 (by decide) ?_
                                have hkc : kc v43 = kc h1_22 + 1 := kc_or (by omega) (bf hkb) ev42 ev43
                                have hk8 := kc_lt (a := h1_22) (p := i22) (by omega) (bf hkb)
                                exact ih22 (i22 + 1) v43 1 a_g25_73 v39 f8_31_22 (by omega) (kn_put hKQ_73.1 (by omega) hin9 hkb hlp (by rw [ev43, ev42]) (Or.inl ⟨hko.mp ⟨(ke_t (by omega) (cl_at (A := G7) (by omega) ev14)).mpr c15, fun z9 => c28 (by rw [ev27, ev26, cl_at (A := G24) (by omega) ev25, hT i22 (by omega)]; exact z9)⟩, by rw [ev39, ev38]⟩) (by omega)) (by omega) (by omega) (by omega) (fun z9 => absurd z9 (by decide)) (by omega) _ _ _ hP hD hS (lv_sub hl [0, 1, 2, 4] rfl)
                              · skip
                                have nc41 : ¬ LVL (TT Y0) i22 < f8_31_22 := fun q9 => c41 ((nI_ltI (a := (LVL (TT Y0) i22)) (b := f8_31_22) (by omega) (by omega)).mpr q9)
                                refine lv_aload_n hx hb dX8_laysLevels_196 rfl (lv_at hl 4 rfl) ?_
                                refine va_get (D := D) (ci := 8) (v := .ref g25) (C := RX8) (T := TX8) (N := 46) hx hb hts hiX8 hown hE.1 hP 0 rfl rfl 25 (by decide) (hts _ (List.mem_cons_of_mem _ wd_136)) (fun _ h9 => h9) rfl dX8_laysLevels_197 ?_
                                refine lv_iload_n hx hb dX8_laysLevels_200 rfl (lv_at hl 1 rfl) ?_
                                refine va_iald hx hb hE.1 hP 3 0 rfl rfl (vp_in_nI (n := i22) (by omega) (by decide)) dX8_laysLevels_201 ?_
                                refine lv_topi (fun v44 ev44 => ?_)
                                obtain rfl : v44 = nI (LVL (TT Y0) i22) := ev44.trans (by rw [nI_clamp (by omega)]; exact hlp)
                                refine lv_iconst (v := 1) hx hb dX8_laysLevels_202 (by decide) ?_
                                refine lv_iadd hx hb dX8_laysLevels_203 ?_
                                refine lv_topi (fun v45 ev45 => ?_)
                                obtain rfl : v45 = (nI ((LVL (TT Y0) i22) + 1)) := by rw [ev45]; exact nI_add (LVL (TT Y0) i22) 1
                                refine lv_goto (tgt := 211) hx hb dX8_laysLevels_204 (by decide) ?_
                                refine va_put (D := D) (ci := 8) (v := .int (nI ((LVL (TT Y0) i22) + 1))) (ty := .int) (C := RX8) (T := TX8) (N := 46) hx hb hts hiX8 tyX8 tyX8_ok nmX8 hown hE.1 hP hD hS 0 rfl rfl 31 (by decide) (hts _ (List.mem_cons_of_mem _ wd_422)) (fun _ h9 => h9) rfl (by decide +kernel) rfl rfl (Nat.le_of_ble_eq_true rfl) dX8_laysLevels_211 (fun H locs hP hD hS => ?_)
                                refine k_re (w := [(oX8 g gi0 (nI mn) g2 g3 g4 g5 g6 g7 g8 g9 g10 (nI ml) g12 g13 gi14 g15 g16 g17 gi18 g19 g20 g21 g22 g23 g24 g25 g26 g27 g28 gi29 v39 (nI ((LVL (TT Y0) i22) + 1)) gi32 g33 g34 g35 g36 g37 g38 g39 gi40 g41 g42 gi43 g44 g45), (aIc cI g7 8 G7), (aIc cI g24 8 G24), (aIc cI g25 8 a_g25_73)]) hP hD (fun hP hD => ?_)
                                refine lv_iload_n hx hb dX8_laysLevels_214 rfl (lv_at hl 3 rfl) ?_
                                refine lv_iconst (v := 1) hx hb dX8_laysLevels_215 (by decide) ?_
                                refine lv_iload_n hx hb dX8_laysLevels_216 rfl (lv_at hl 1 rfl) ?_
                                refine lv_ishl hx hb dX8_laysLevels_217 ?_
                                refine lv_topi (fun v46 ev46 => ?_)
                                refine lv_ior hx hb dX8_laysLevels_218 ?_
                                refine lv_topi (fun v47 ev47 => ?_)
                                refine lv_istore_n (lv' := [(1, .int v47), (4, .int (nI j73)), (3, .int (nI i22)), (2, .int (nI h2_22)), (0, .ref g)]) hx hb dX8_laysLevels_219 rfl hl (by decide) rfl (fun ls hl => ?_)
                                refine lv_iconst (v := 1) hx hb dX8_laysLevels_220 (by decide) ?_
                                refine lv_istore_n (lv' := [(2, .int 1), (1, .int v47), (4, .int (nI j73)), (3, .int (nI i22)), (0, .ref g)]) hx hb dX8_laysLevels_221 rfl hl (by decide) rfl (fun ls hl => ?_)
                                refine lv_iinc (v := (nI (i22 + 1))) (lv' := [(3, .int (nI (i22 + 1))), (2, .int 1), (1, .int v47), (4, .int (nI j73)), (0, .ref g)]) hx hb dX8_laysLevels_222 hl (k := 3) rfl (nI_1 _) (by decide) rfl (fun ls hl => ?_)
                                refine lv_goto (tgt := 22) hx hb dX8_laysLevels_225 (by decide) ?_
                                have hkc : kc v47 = kc h1_22 + 1 := kc_or (by omega) (bf hkb) ev46 ev47
                                have hk8 := kc_lt (a := h1_22) (p := i22) (by omega) (bf hkb)
                                exact ih22 (i22 + 1) v47 1 a_g25_73 v39 ((LVL (TT Y0) i22) + 1) (by omega) (kn_put hKQ_73.1 (by omega) hin9 hkb hlp (by rw [ev47, ev46]) (Or.inl ⟨hko.mp ⟨(ke_t (by omega) (cl_at (A := G7) (by omega) ev14)).mpr c15, fun z9 => c28 (by rw [ev27, ev26, cl_at (A := G24) (by omega) ev25, hT i22 (by omega)]; exact z9)⟩, by rw [ev39, ev38]⟩) (by omega)) (by omega) (by omega) (by omega) (fun z9 => absurd z9 (by decide)) (by omega) _ _ _ hP hD hS (lv_sub hl [0, 1, 2, 4] rfl)
                        · skip
                          have nc13 : ¬ 8 ≤ j73 := fun q9 => c13 ((nI_leI (a := 8) (b := j73) (by omega) (by omega)).mpr q9)
                          refine lv_aload_n hx hb dX8_laysLevels_80 rfl (lv_at hl 4 rfl) ?_
                          refine va_get (D := D) (ci := 8) (v := .ref g25) (C := RX8) (T := TX8) (N := 46) hx hb hts hiX8 hown hE.1 hP 0 rfl rfl 25 (by decide) (hts _ (List.mem_cons_of_mem _ wd_136)) (fun _ h9 => h9) rfl dX8_laysLevels_81 ?_
                          refine lv_iload_n hx hb dX8_laysLevels_84 rfl (lv_at hl 1 rfl) ?_
                          refine lv_aload_n hx hb dX8_laysLevels_85 rfl (lv_at hl 4 rfl) ?_
                          refine va_get (D := D) (ci := 8) (v := .ref g24) (C := RX8) (T := TX8) (N := 46) hx hb hts hiX8 hown hE.1 hP 0 rfl rfl 24 (by decide) (hts _ (List.mem_cons_of_mem _ wd_135)) (fun _ h9 => h9) rfl dX8_laysLevels_86 ?_
                          refine lv_iload_n hx hb dX8_laysLevels_89 rfl (lv_at hl 1 rfl) ?_
                          refine va_iald hx hb hE.1 hP 2 0 rfl rfl (vp_in_nI (n := i22) (by omega) (by decide)) dX8_laysLevels_90 ?_
                          refine lv_topi (fun v48 ev48 => ?_)
                          refine lv_iload hx hb dX8_laysLevels_91 (lv_at hl 0 rfl) ?_
                          refine k_iS (va_runS (As := [.int v48, .int (nI j73)]) (rest := [.int (nI i22), .ref g25]) ⟨hx, hb, hml, hown, hts⟩ (m_X8_isOn l D cI cJ H.size v48 (nI j73)) (va_cwS 2 hts gX8_laysLevels_X8_isOn rfl rfl rfl (by decide +kernel) ⟨Nat.le_of_ble_eq_true rfl, Nat.le_of_ble_eq_true rfl⟩) (k_pre hE hP hD [] (by decide +kernel) rfl) rfl rfl hl.1 rfl (lv_room (Nat.le_of_ble_eq_true rfl)) dX8_laysLevels_93 ⟨Nat.le_of_ble_eq_true rfl, Nat.le_of_ble_eq_true rfl⟩) hP hD hS hA [] rfl (fun _ _ h9 => h9.2) (fun r49 H locs hw50 hP hD hS => ?_)
                          obtain ⟨hw50, -⟩ := hw50
                          refine lv_if_eq (tgt := 127) hx hb dX8_laysLevels_96 (by decide) (fun c51 => ?_) (fun c51 => ?_)
                          · skip
                            have hc51 : ¬ ((v48 >>> ((nI j73) &&& 31)) &&& 1 = 1) := bz_0 hw50 c51
                            refine lv_aload_n hx hb dX8_laysLevels_127 rfl (lv_at hl 4 rfl) ?_
                            refine va_get (D := D) (ci := 8) (v := .ref g25) (C := RX8) (T := TX8) (N := 46) hx hb hts hiX8 hown hE.1 hP 0 rfl rfl 25 (by decide) (hts _ (List.mem_cons_of_mem _ wd_136)) (fun _ h9 => h9) rfl dX8_laysLevels_128 ?_
                            refine lv_iload_n hx hb dX8_laysLevels_131 rfl (lv_at hl 1 rfl) ?_
                            refine va_iald hx hb hE.1 hP 3 0 rfl rfl (vp_in_nI (n := i22) (by omega) (by decide)) dX8_laysLevels_132 ?_
                            refine lv_topi (fun v52 ev52 => ?_)
                            obtain rfl : v52 = nI (mx (lvF (TT Y0) i22) j73) := ev52.trans (by rw [nI_clamp (by omega)]; exact hKQ_73.2)
                            refine va_iast hx hb hE.1 hP hD hS 3 0 rfl rfl (vp_in_nI (n := i22) (by omega) (by decide)) dX8_laysLevels_133 (fun H locs hP hD hS => ?_)
                            refine k_re (w := [(oX8 g gi0 (nI mn) g2 g3 g4 g5 g6 g7 g8 g9 g10 (nI ml) g12 g13 gi14 g15 g16 g17 gi18 g19 g20 g21 g22 g23 g24 g25 g26 g27 g28 gi29 f8_30_22 (nI f8_31_22) gi32 g33 g34 g35 g36 g37 g38 g39 gi40 g41 g42 gi43 g44 g45), (aIc cI g7 8 G7), (aIc cI g24 8 G24), (aIc cI g25 8 (upd a_g25_73 (Int32.toNatClampNeg (nI i22)) (nI (mx (lvF (TT Y0) i22) j73))))]) hP hD (fun hP hD => ?_)
                            refine lv_iinc (v := (nI (j73 + 1))) (lv' := [(4, .int (nI (j73 + 1))), (3, .int (nI i22)), (2, .int (nI h2_22)), (1, .int h1_22), (0, .ref g)]) hx hb dX8_laysLevels_134 hl (k := 0) rfl (nI_1 _) (by decide) rfl (fun ls hl => ?_)
                            refine lv_goto (tgt := 73) hx hb dX8_laysLevels_137 (by decide) ?_
                            have htn : ¬ bt (TT Y0 i22) j73 = true := fun q9 => hc51 ((bt_on (by omega)).mpr (by rw [cl_at (A := G24) (by omega) ev48, hT i22 (by omega)]; exact q9))
                            exact ih73 (j73 + 1) (upd a_g25_73 (Int32.toNatClampNeg (nI i22)) (nI (mx (lvF (TT Y0) i22) j73))) (by omega) ⟨(kn_lev hKQ_73.1 (by omega) hkb).1, (kn_lev hKQ_73.1 (by omega) hkb).2.trans (by rw [lvF_no htn])⟩ (by omega) _ _ _ hP hD hS (lv_sub hl [0, 1, 2, 3, 4] rfl)
                          · skip
                            have hc51 : (v48 >>> ((nI j73) &&& 31)) &&& 1 = 1 := bz_1 hw50 c51
                            have htj : bt (TT Y0 i22) j73 = true := by rw [← hT i22 (by omega), ← cl_at (A := G24) (by omega) ev48]; exact (bt_on (by omega)).mp hc51
                            have hkq : bt h1_22 j73 = true := (sub_iff (htw i22 (by omega))).mp hts9 j73 (by omega) htj
                            have hl7 := lvl_7 HR (p := j73) (by omega)
                            have hm8 := lvF_8 HR (p := i22) (n := j73) (by omega)
                            refine lv_aload_n hx hb dX8_laysLevels_99 rfl (lv_at hl 4 rfl) ?_
                            refine va_get (D := D) (ci := 8) (v := .ref g25) (C := RX8) (T := TX8) (N := 46) hx hb hts hiX8 hown hE.1 hP 0 rfl rfl 25 (by decide) (hts _ (List.mem_cons_of_mem _ wd_136)) (fun _ h9 => h9) rfl dX8_laysLevels_100 ?_
                            refine lv_iload hx hb dX8_laysLevels_103 (lv_at hl 0 rfl) ?_
                            refine va_iald hx hb hE.1 hP 3 0 rfl rfl (vp_in_nI (n := j73) (by omega) (by decide)) dX8_laysLevels_105 ?_
                            refine lv_topi (fun v53 ev53 => ?_)
                            obtain rfl : v53 = nI (LVL (TT Y0) j73) := ev53.trans (by rw [nI_clamp (by omega)]; exact hKQ_73.1.2.2.2.1 j73 (by omega) hkq)
                            refine lv_aload_n hx hb dX8_laysLevels_106 rfl (lv_at hl 4 rfl) ?_
                            refine va_get (D := D) (ci := 8) (v := .ref g25) (C := RX8) (T := TX8) (N := 46) hx hb hts hiX8 hown hE.1 hP 0 rfl rfl 25 (by decide) (hts _ (List.mem_cons_of_mem _ wd_136)) (fun _ h9 => h9) rfl dX8_laysLevels_107 ?_
                            refine lv_iload_n hx hb dX8_laysLevels_110 rfl (lv_at hl 1 rfl) ?_
                            refine va_iald hx hb hE.1 hP 3 0 rfl rfl (vp_in_nI (n := i22) (by omega) (by decide)) dX8_laysLevels_111 ?_
                            refine lv_topi (fun v54 ev54 => ?_)
                            obtain rfl : v54 = nI (mx (lvF (TT Y0) i22) j73) := ev54.trans (by rw [nI_clamp (by omega)]; exact hKQ_73.2)
                            refine lv_icmp_lt (tgt := 127) hx hb dX8_laysLevels_112 (by decide) (fun c55 => ?_) (fun c55 => ?_)
                            · skip
                              have nc55 : LVL (TT Y0) j73 < mx (lvF (TT Y0) i22) j73 := (nI_ltI (a := (LVL (TT Y0) j73)) (b := (mx (lvF (TT Y0) i22) j73)) (by omega) (by omega)).mp c55
                              refine lv_aload_n hx hb dX8_laysLevels_127 rfl (lv_at hl 4 rfl) ?_
                              refine va_get (D := D) (ci := 8) (v := .ref g25) (C := RX8) (T := TX8) (N := 46) hx hb hts hiX8 hown hE.1 hP 0 rfl rfl 25 (by decide) (hts _ (List.mem_cons_of_mem _ wd_136)) (fun _ h9 => h9) rfl dX8_laysLevels_128 ?_
                              refine lv_iload_n hx hb dX8_laysLevels_131 rfl (lv_at hl 1 rfl) ?_
                              refine va_iald hx hb hE.1 hP 3 0 rfl rfl (vp_in_nI (n := i22) (by omega) (by decide)) dX8_laysLevels_132 ?_
                              refine lv_topi (fun v56 ev56 => ?_)
                              obtain rfl : v56 = nI (mx (lvF (TT Y0) i22) j73) := ev56.trans (by rw [nI_clamp (by omega)]; exact hKQ_73.2)
                              refine va_iast hx hb hE.1 hP hD hS 3 0 rfl rfl (vp_in_nI (n := i22) (by omega) (by decide)) dX8_laysLevels_133 (fun H locs hP hD hS => ?_)
                              refine k_re (w := [(oX8 g gi0 (nI mn) g2 g3 g4 g5 g6 g7 g8 g9 g10 (nI ml) g12 g13 gi14 g15 g16 g17 gi18 g19 g20 g21 g22 g23 g24 g25 g26 g27 g28 gi29 f8_30_22 (nI f8_31_22) gi32 g33 g34 g35 g36 g37 g38 g39 gi40 g41 g42 gi43 g44 g45), (aIc cI g7 8 G7), (aIc cI g24 8 G24), (aIc cI g25 8 (upd a_g25_73 (Int32.toNatClampNeg (nI i22)) (nI (mx (lvF (TT Y0) i22) j73))))]) hP hD (fun hP hD => ?_)
                              refine lv_iinc (v := (nI (j73 + 1))) (lv' := [(4, .int (nI (j73 + 1))), (3, .int (nI i22)), (2, .int (nI h2_22)), (1, .int h1_22), (0, .ref g)]) hx hb dX8_laysLevels_134 hl (k := 0) rfl (nI_1 _) (by decide) rfl (fun ls hl => ?_)
                              refine lv_goto (tgt := 73) hx hb dX8_laysLevels_137 (by decide) ?_
                              exact ih73 (j73 + 1) (upd a_g25_73 (Int32.toNatClampNeg (nI i22)) (nI (mx (lvF (TT Y0) i22) j73))) (by omega) ⟨(kn_lev hKQ_73.1 (by omega) hkb).1, (kn_lev hKQ_73.1 (by omega) hkb).2.trans (by rw [lvF_lo htj (by omega)])⟩ (by omega) _ _ _ hP hD hS (lv_sub hl [0, 1, 2, 3, 4] rfl)
                            · skip
                              have nc55 : ¬ LVL (TT Y0) j73 < mx (lvF (TT Y0) i22) j73 := fun q9 => c55 ((nI_ltI (a := (LVL (TT Y0) j73)) (b := (mx (lvF (TT Y0) i22) j73)) (by omega) (by omega)).mpr q9)
                              refine lv_aload_n hx hb dX8_laysLevels_115 rfl (lv_at hl 4 rfl) ?_
                              refine va_get (D := D) (ci := 8) (v := .ref g25) (C := RX8) (T := TX8) (N := 46) hx hb hts hiX8 hown hE.1 hP 0 rfl rfl 25 (by decide) (hts _ (List.mem_cons_of_mem _ wd_136)) (fun _ h9 => h9) rfl dX8_laysLevels_116 ?_
                              refine lv_iload hx hb dX8_laysLevels_119 (lv_at hl 0 rfl) ?_
                              refine va_iald hx hb hE.1 hP 3 0 rfl rfl (vp_in_nI (n := j73) (by omega) (by decide)) dX8_laysLevels_121 ?_
                              refine lv_topi (fun v57 ev57 => ?_)
                              obtain rfl : v57 = nI (LVL (TT Y0) j73) := ev57.trans (by rw [nI_clamp (by omega)]; exact hKQ_73.1.2.2.2.1 j73 (by omega) hkq)
                              refine lv_iconst (v := 1) hx hb dX8_laysLevels_122 (by decide) ?_
                              refine lv_iadd hx hb dX8_laysLevels_123 ?_
                              refine lv_topi (fun v58 ev58 => ?_)
                              obtain rfl : v58 = (nI ((LVL (TT Y0) j73) + 1)) := by rw [ev58]; exact nI_add (LVL (TT Y0) j73) 1
                              refine lv_goto (tgt := 133) hx hb dX8_laysLevels_124 (by decide) ?_
                              refine va_iast hx hb hE.1 hP hD hS 3 0 rfl rfl (vp_in_nI (n := i22) (by omega) (by decide)) dX8_laysLevels_133 (fun H locs hP hD hS => ?_)
                              refine k_re (w := [(oX8 g gi0 (nI mn) g2 g3 g4 g5 g6 g7 g8 g9 g10 (nI ml) g12 g13 gi14 g15 g16 g17 gi18 g19 g20 g21 g22 g23 g24 g25 g26 g27 g28 gi29 f8_30_22 (nI f8_31_22) gi32 g33 g34 g35 g36 g37 g38 g39 gi40 g41 g42 gi43 g44 g45), (aIc cI g7 8 G7), (aIc cI g24 8 G24), (aIc cI g25 8 (upd a_g25_73 (Int32.toNatClampNeg (nI i22)) (nI ((LVL (TT Y0) j73) + 1))))]) hP hD (fun hP hD => ?_)
                              refine lv_iinc (v := (nI (j73 + 1))) (lv' := [(4, .int (nI (j73 + 1))), (3, .int (nI i22)), (2, .int (nI h2_22)), (1, .int h1_22), (0, .ref g)]) hx hb dX8_laysLevels_134 hl (k := 0) rfl (nI_1 _) (by decide) rfl (fun ls hl => ?_)
                              refine lv_goto (tgt := 73) hx hb dX8_laysLevels_137 (by decide) ?_
                              exact ih73 (j73 + 1) (upd a_g25_73 (Int32.toNatClampNeg (nI i22)) (nI ((LVL (TT Y0) j73) + 1))) (by omega) ⟨(kn_lev hKQ_73.1 (by omega) hkb).1, (kn_lev hKQ_73.1 (by omega) hkb).2.trans (by rw [lvF_hi htj (by omega)])⟩ (by omega) _ _ _ hP hD hS (lv_sub hl [0, 1, 2, 3, 4] rfl)
                    exact J73 _ 0 (upd a_g25_22 (Int32.toNatClampNeg (nI i22)) 0) (by omega) hop9 (Nat.lt_succ_self _) _ _ _ hP hD hS (lv_sub hl [0, 1, 2, 3, 4] rfl)
                  · skip
                    refine lv_goto (tgt := 222) hx hb dX8_laysLevels_60 (by decide) ?_
                    refine lv_iinc (v := (nI (i22 + 1))) (lv' := [(3, .int (nI (i22 + 1))), (2, .int (nI h2_22)), (1, .int h1_22), (0, .ref g)]) hx hb dX8_laysLevels_222 hl (k := 0) rfl (nI_1 _) (by decide) rfl (fun ls hl => ?_)
                    refine lv_goto (tgt := 22) hx hb dX8_laysLevels_225 (by decide) ?_
                    exact ih22 (i22 + 1) h1_22 h2_22 a_g25_22 f8_30_22 f8_31_22 (by omega) hKN_22 hmo_22 hc1_22 hc2_22 (hdj_s hdj_22 (fun _ => Or.inr (fun z9 => c12 (by rw [ev11, ev10, cl_at (A := G24) (by omega) ev9, hT i22 (by omega)]; exact z9)))) (by omega) _ _ _ hP hD hS (lv_sub hl [0, 1, 2, 3] rfl)
        exact J22 _ 0 h1_14 0 a_g25_14 f8_30_14 f8_31_14 (by omega) hKN_14 (by omega) (by omega) (by omega) (fun _ => ⟨rfl, (fun k hk => absurd hk (Nat.not_lt_zero k))⟩) (Nat.lt_succ_self _) _ _ _ hP hD hS (lv_sub hl [0, 1, 2, 3] rfl)
  exact J14 _ 0 1 G25 0 0 (kn_0 hm1) (by omega) (fun z9 => absurd z9 (by decide)) (Nat.lt_succ_self _) _ _ _ hP hD hS (lv_sub hl [0, 1, 2] rfl)

