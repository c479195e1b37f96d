set_option maxHeartbeats 4000000 in
set_option maxRecDepth 100000 in
theorem e_X6_isRinglessWith (l : Launch) (D : va_G) (cI cJ : ClassId) (sz : Nat) (s1 w0 w1 w2 w3 w4 w8 wn lv : Nat) (wi6 k0 : Int32) (W1 Y0 : Nat → Int32) (hwn : wn < 256) (hY : ∀ k, k < 8 → W1 k = Y0 k) (hy0 : ∀ j, ¬ bt (nI wn) j = true → Y0 j = 0) (hyw : ∀ k, k < 8 → isw8 (Y0 k)) : Met l yX6_isRinglessWith wtX6_isRinglessWith { frames := 0, cells := 0, slots := 0, locals := 0 } (cPc D cI cJ [.ref s1, .int k0] sz [(oX6 s1 w0 w1 w2 w3 w4 (nI wn) wi6 (nI lv) w8), (aIc cI w1 8 W1)]) (cQi D (fun r u => r = bz (NRG Y0 k0 = true) ∧ u = [(oX6 s1 w0 w1 w2 w3 w4 (nI wn) wi6 (nI lv) w8), (aIc cI w1 8 W1)]) (va_A [(oX6 s1 w0 w1 w2 w3 w4 (nI wn) wi6 (nI lv) w8), (aIc cI w1 8 W1)] sz)) 0 0 (va_A [(oX6 s1 w0 w1 w2 w3 w4 (nI wn) wi6 (nI lv) w8), (aIc cI w1 8 W1)] sz) := by
  refine k_ofW (Qc := cQi D (fun r u => r = bz (NRG Y0 k0 = true) ∧ u = [(oX6 s1 w0 w1 w2 w3 w4 (nI wn) wi6 (nI lv) w8), (aIc cI w1 8 W1)])) (by decide) rfl (Nat.le_of_ble_eq_true rfl) ?_
  intro p e s m below meth c A ls hx hb hr hml hts hown hlk hnm hsz hE hP hD hS hA hl
  have hown : s.vm.findClass RX6 = some m.cls := hown
  have hiX6 : ∀ w ∈ u_ws RX6 TX6 9, w ∈ wtX6_isRinglessWith := fun w h => List.mem_cons_of_mem _ (iuX6 w h)
  have hl : lv_has ls 5 [(0, .ref s1), (1, .int k0)] := hl
  refine lv_aload_n hx hb dX6_isRinglessWith_0 rfl (lv_at hl 0 rfl) ?_
  refine va_get (D := D) (ci := 6) (v := .int (nI wn)) (C := RX6) (T := TX6) (N := 9) hx hb hts hiX6 hown hE.1 hP 0 rfl rfl 5 (by decide) (hts _ (List.mem_cons_of_mem _ wd_333)) (fun _ h9 => h9) rfl dX6_isRinglessWith_1 ?_
  refine lv_iload_n hx hb dX6_isRinglessWith_4 rfl (lv_at hl 1 rfl) ?_
  refine lv_iconst (v := (-1)) hx hb dX6_isRinglessWith_5 (by decide) ?_
  refine lv_ixor hx hb dX6_isRinglessWith_6 ?_
  refine lv_topi (fun v1 ev1 => ?_)
  refine lv_iand hx hb dX6_isRinglessWith_7 ?_
  refine lv_topi (fun v2 ev2 => ?_)
  refine lv_istore_n (lv' := [(2, .int v2), (0, .ref s1), (1, .int k0)]) hx hb dX6_isRinglessWith_8 rfl hl (by decide) rfl (fun ls hl => ?_)
  refine lv_iconst (v := 0) hx hb dX6_isRinglessWith_9 (by decide) ?_
  refine lv_istore_n (lv' := [(3, .int 0), (2, .int v2), (0, .ref s1), (1, .int k0)]) hx hb dX6_isRinglessWith_10 rfl hl (by decide) rfl (fun ls hl => ?_)
  have J11 : ∀ (zz : Nat) (i11 : Nat) (h2_11 : Int32), (i11 ≤ 8) → (PLI Y0 k0 h2_11 i11 0) → (8 - i11) < zz → ∀ (H : Heap) (locs : List Loc) (ls : Array Slot), va_P D vwCl [(oX6 s1 w0 w1 w2 w3 w4 (nI wn) wi6 (nI lv) w8), (aIc cI w1 8 W1)] H → va_D A [(oX6 s1 w0 w1 w2 w3 w4 (nI wn) wi6 (nI lv) w8), (aIc cI w1 8 W1)] → va_S A s.heap H locs → lv_has ls 5 [(3, .int (nI i11)), (2, .int h2_11), (0, .ref s1), (1, .int k0)] → W p l e { frames := 0, cells := 0, slots := 0, locals := 0 } s m [.ref s1, .int k0].toArray below meth c H locs 0 0 (MQ below (cQi D (fun r u => r = bz (NRG Y0 k0 = true) ∧ u = [(oX6 s1 w0 w1 w2 w3 w4 (nI wn) wi6 (nI lv) w8), (aIc cI w1 8 W1)]) A) [.ref s1, .int k0].toArray s 0 0 A) (F0 m 11 ls []) := by
    intro zz
    induction zz with
    | zero => intro i11 h2_11 _ _; exact fun h => absurd h (Nat.not_lt_zero _)
    | succ zz ih11 =>
      intro i11 h2_11 hc3_11 hp_11 hmu11 H locs ls hP hD hS hl
      refine lv_iload_n hx hb dX6_isRinglessWith_11 rfl (lv_at hl 0 rfl) ?_
      refine lv_bipush (v := 8) hx hb dX6_isRinglessWith_12 (by decide) ?_
      refine lv_icmp_ge (tgt := 64) hx hb dX6_isRinglessWith_14 (by decide) (fun c3 => ?_) (fun c3 => ?_)
      · skip
        have nc3 : 8 ≤ i11 := (nI_leI (a := 8) (b := i11) (by omega) (by omega)).mp c3
        refine lv_iload_n hx hb dX6_isRinglessWith_64 rfl (lv_at hl 1 rfl) ?_
        refine lv_if_ne (tgt := 72) hx hb dX6_isRinglessWith_65 (by decide) (fun c4 => ?_) (fun c4 => ?_)
        · skip
          refine lv_iconst (v := 0) hx hb dX6_isRinglessWith_72 (by decide) ?_
          refine k_zret (u := [(oX6 s1 w0 w1 w2 w3 w4 (nI wn) wi6 (nI lv) w8), (aIc cI w1 8 W1)]) hx hb hr (by decide) hlk hP hD hS dX6_isRinglessWith_73 ?_
          exact ⟨(bz_f (pl_no (by obtain rfl : i11 = 8 := (by omega); exact hp_11) c4)), rfl⟩
        · skip
          refine lv_iconst (v := 1) hx hb dX6_isRinglessWith_68 (by decide) ?_
          refine lv_goto (tgt := 73) hx hb dX6_isRinglessWith_69 (by decide) ?_
          refine k_zret (u := [(oX6 s1 w0 w1 w2 w3 w4 (nI wn) wi6 (nI lv) w8), (aIc cI w1 8 W1)]) hx hb hr (by decide) hlk hP hD hS dX6_isRinglessWith_73 ?_
          exact ⟨(bz_t (pl_yes hp_11 c4)), rfl⟩
      · skip
        have nc3 : ¬ 8 ≤ i11 := fun q9 => c3 ((nI_leI (a := 8) (b := i11) (by omega) (by omega)).mpr q9)
        refine lv_iload_n hx hb dX6_isRinglessWith_17 rfl (lv_at hl 1 rfl) ?_
        refine lv_if_eq (tgt := 64) hx hb dX6_isRinglessWith_18 (by decide) (fun c5 => ?_) (fun c5 => ?_)
        · skip
          refine lv_iload_n hx hb dX6_isRinglessWith_64 rfl (lv_at hl 1 rfl) ?_
          refine lv_if_ne (tgt := 72) hx hb dX6_isRinglessWith_65 (by decide) (fun c6 => ?_) (fun c6 => ?_)
          · skip
            refine lv_iconst (v := 0) hx hb dX6_isRinglessWith_72 (by decide) ?_
            refine k_zret (u := [(oX6 s1 w0 w1 w2 w3 w4 (nI wn) wi6 (nI lv) w8), (aIc cI w1 8 W1)]) hx hb hr (by decide) hlk hP hD hS dX6_isRinglessWith_73 ?_
            exact ⟨(absurd c5 c6), rfl⟩
          · skip
            refine lv_iconst (v := 1) hx hb dX6_isRinglessWith_68 (by decide) ?_
            refine lv_goto (tgt := 73) hx hb dX6_isRinglessWith_69 (by decide) ?_
            refine k_zret (u := [(oX6 s1 w0 w1 w2 w3 w4 (nI wn) wi6 (nI lv) w8), (aIc cI w1 8 W1)]) hx hb hr (by decide) hlk hP hD hS dX6_isRinglessWith_73 ?_
            exact ⟨(bz_t (pl_yes hp_11 c6)), rfl⟩
        · skip
          refine lv_iconst (v := 0) hx hb dX6_isRinglessWith_21 (by decide) ?_
          refine lv_istore (lv' := [(4, .int 0), (3, .int (nI i11)), (2, .int h2_11), (0, .ref s1), (1, .int k0)]) hx hb dX6_isRinglessWith_22 hl (by decide) rfl (fun ls hl => ?_)
          have J24 : ∀ (zz : Nat) (j24 : Nat) (h2_24 : Int32), (j24 ≤ 8) → (PLI Y0 k0 h2_24 i11 j24) → (8 - j24) < zz → ∀ (H : Heap) (locs : List Loc) (ls : Array Slot), va_P D vwCl [(oX6 s1 w0 w1 w2 w3 w4 (nI wn) wi6 (nI lv) w8), (aIc cI w1 8 W1)] H → va_D A [(oX6 s1 w0 w1 w2 w3 w4 (nI wn) wi6 (nI lv) w8), (aIc cI w1 8 W1)] → va_S A s.heap H locs → lv_has ls 5 [(4, .int (nI j24)), (3, .int (nI i11)), (2, .int h2_24), (0, .ref s1), (1, .int k0)] → W p l e { frames := 0, cells := 0, slots := 0, locals := 0 } s m [.ref s1, .int k0].toArray below meth c H locs 0 0 (MQ below (cQi D (fun r u => r = bz (NRG Y0 k0 = true) ∧ u = [(oX6 s1 w0 w1 w2 w3 w4 (nI wn) wi6 (nI lv) w8), (aIc cI w1 8 W1)]) A) [.ref s1, .int k0].toArray s 0 0 A) (F0 m 24 ls []) := by
            intro zz
            induction zz with
            | zero => intro j24 h2_24 _ _; exact fun h => absurd h (Nat.not_lt_zero _)
            | succ zz ih24 =>
              intro j24 h2_24 hc4_24 hq_24 hmu24 H locs ls hP hD hS hl
              refine lv_iload hx hb dX6_isRinglessWith_24 (lv_at hl 0 rfl) ?_
              refine lv_bipush (v := 8) hx hb dX6_isRinglessWith_26 (by decide) ?_
              refine lv_icmp_ge (tgt := 58) hx hb dX6_isRinglessWith_28 (by decide) (fun c7 => ?_) (fun c7 => ?_)
              · skip
                have nc7 : 8 ≤ j24 := (nI_leI (a := 8) (b := j24) (by omega) (by omega)).mp c7
                refine lv_iinc (v := (nI (i11 + 1))) (lv' := [(3, .int (nI (i11 + 1))), (4, .int (nI j24)), (2, .int h2_24), (0, .ref s1), (1, .int k0)]) hx hb dX6_isRinglessWith_58 hl (k := 1) rfl (nI_1 _) (by decide) rfl (fun ls hl => ?_)
                refine lv_goto (tgt := 11) hx hb dX6_isRinglessWith_61 (by decide) ?_
                exact ih11 (i11 + 1) h2_24 (by omega) (pl_turn (by obtain rfl : j24 = 8 := (by omega); exact hq_24)) (by omega) _ _ _ hP hD hS (lv_sub hl [0, 2, 3, 4] rfl)
              · skip
                have nc7 : ¬ 8 ≤ j24 := fun q9 => c7 ((nI_leI (a := 8) (b := j24) (by omega) (by omega)).mpr q9)
                refine lv_aload_n hx hb dX6_isRinglessWith_31 rfl (lv_at hl 3 rfl) ?_
                refine va_get (D := D) (ci := 6) (v := .ref w1) (C := RX6) (T := TX6) (N := 9) hx hb hts hiX6 hown hE.1 hP 0 rfl rfl 1 (by decide) (hts _ (List.mem_cons_of_mem _ wd_80)) (fun _ h9 => h9) rfl dX6_isRinglessWith_32 ?_
                refine lv_iload hx hb dX6_isRinglessWith_35 (lv_at hl 0 rfl) ?_
                refine va_iald hx hb hE.1 hP 1 0 rfl rfl (vp_in_nI (n := j24) (by omega) (by decide)) dX6_isRinglessWith_37 ?_
                refine lv_topi (fun v8 ev8 => ?_)
                refine lv_iload_n hx hb dX6_isRinglessWith_38 rfl (lv_at hl 2 rfl) ?_
                refine lv_iand hx hb dX6_isRinglessWith_39 ?_
                refine lv_topi (fun v9 ev9 => ?_)
                refine lv_if_ne (tgt := 52) hx hb dX6_isRinglessWith_40 (by decide) (fun c10 => ?_) (fun c10 => ?_)
                · skip
                  refine lv_iinc (v := (nI (j24 + 1))) (lv' := [(4, .int (nI (j24 + 1))), (3, .int (nI i11)), (2, .int h2_24), (0, .ref s1), (1, .int k0)]) hx hb dX6_isRinglessWith_52 hl (k := 0) rfl (nI_1 _) (by decide) rfl (fun ls hl => ?_)
                  refine lv_goto (tgt := 24) hx hb dX6_isRinglessWith_55 (by decide) ?_
                  exact ih24 (j24 + 1) h2_24 (by omega) (pl_keep hq_24 (by omega) ((cl_at (A := W1) (by omega) ev8).trans (hY j24 (by omega))) ev9 c10 (hyw j24 (by omega))) (by omega) _ _ _ hP hD hS (lv_sub hl [0, 1, 2, 3, 4] rfl)
                · skip
                  refine lv_iload_n hx hb dX6_isRinglessWith_43 rfl (lv_at hl 2 rfl) ?_
                  refine lv_iconst (v := 1) hx hb dX6_isRinglessWith_44 (by decide) ?_
                  refine lv_iload hx hb dX6_isRinglessWith_45 (lv_at hl 0 rfl) ?_
                  refine lv_ishl hx hb dX6_isRinglessWith_47 ?_
                  refine lv_topi (fun v11 ev11 => ?_)
                  refine lv_iconst (v := (-1)) hx hb dX6_isRinglessWith_48 (by decide) ?_
                  refine lv_ixor hx hb dX6_isRinglessWith_49 ?_
                  refine lv_topi (fun v12 ev12 => ?_)
                  refine lv_iand hx hb dX6_isRinglessWith_50 ?_
                  refine lv_topi (fun v13 ev13 => ?_)
                  refine lv_istore_n (lv' := [(2, .int v13), (4, .int (nI j24)), (3, .int (nI i11)), (0, .ref s1), (1, .int k0)]) hx hb dX6_isRinglessWith_51 rfl hl (by decide) rfl (fun ls hl => ?_)
                  refine lv_iinc (v := (nI (j24 + 1))) (lv' := [(4, .int (nI (j24 + 1))), (2, .int v13), (3, .int (nI i11)), (0, .ref s1), (1, .int k0)]) hx hb dX6_isRinglessWith_52 hl (k := 1) rfl (nI_1 _) (by decide) rfl (fun ls hl => ?_)
                  refine lv_goto (tgt := 24) hx hb dX6_isRinglessWith_55 (by decide) ?_
                  exact ih24 (j24 + 1) v13 (by omega) (pl_cut hq_24 (by omega) ((cl_at (A := W1) (by omega) ev8).trans (hY j24 (by omega))) ev9 c10 ev11 ev12 ev13) (by omega) _ _ _ hP hD hS (lv_sub hl [0, 2, 1, 3, 4] rfl)
          exact J24 _ 0 h2_11 (by omega) hp_11 (Nat.lt_succ_self _) _ _ _ hP hD hS (lv_sub hl [0, 1, 2, 3, 4] rfl)
  exact J11 _ 0 v2 (by omega) (pl_0 ⟨wn, hwn, rfl⟩ hy0 ev1 ev2) (Nat.lt_succ_self _) _ _ _ hP hD hS (lv_sub hl [0, 1, 2, 3] rfl)
set_option maxHeartbeats 4000000 in
set_option maxRecDepth 100000 in
theorem e_X6_fewestPlain (l : Launch) (D : va_G) (cI cJ : ClassId) (sz : Nat) (s1 w0 w1 w2 w3 w4 w8 wn lv : Nat) (wi6 : Int32) (W1 Y0 : Nat → Int32) (hwn : wn < 256) (hlv : lv ≤ 8) (hY : ∀ k, k < 8 → W1 k = Y0 k) (hy0 : ∀ j, ¬ bt (nI wn) j = true → Y0 j = 0) (hyw : ∀ k, k < 8 → isw8 (Y0 k)) : Met l yX6_fewestPlain wtX6_fewestPlain { frames := 1, cells := 0, slots := 0, locals := 24 } (cPc D cI cJ [.ref s1] sz [(oX6 s1 w0 w1 w2 w3 w4 (nI wn) wi6 (nI lv) w8), (aIc cI w1 8 W1)]) (cQi D (fun r u => r = (nI (FCO (RGE Y0 (nI wn)) wn (wn + 1))) ∧ u = [(oX6 s1 w0 w1 w2 w3 w4 (nI wn) wi6 (nI lv) w8), (aIc cI w1 8 W1)]) (va_A [(oX6 s1 w0 w1 w2 w3 w4 (nI wn) wi6 (nI lv) w8), (aIc cI w1 8 W1)] sz)) 0 0 (va_A [(oX6 s1 w0 w1 w2 w3 w4 (nI wn) wi6 (nI lv) w8), (aIc cI w1 8 W1)] sz) := by
  refine k_ofW (Qc := cQi D (fun r u => r = (nI (FCO (RGE Y0 (nI wn)) wn (wn + 1))) ∧ u = [(oX6 s1 w0 w1 w2 w3 w4 (nI wn) wi6 (nI lv) w8), (aIc cI w1 8 W1)])) (by decide) rfl (Nat.le_of_ble_eq_true rfl) ?_
  intro p e s m below meth c A ls hx hb hr hml hts hown hlk hnm hsz hE hP hD hS hA hl
  have hown : s.vm.findClass RX6 = some m.cls := hown
  have hiX6 : ∀ w ∈ u_ws RX6 TX6 9, w ∈ wtX6_fewestPlain := fun w h => List.mem_cons_of_mem _ (iuX6 w h)
  have hl : lv_has ls 4 [(0, .ref s1)] := hl
  refine lv_aload_n hx hb dX6_fewestPlain_0 rfl (lv_at hl 0 rfl) ?_
  refine va_get (D := D) (ci := 6) (v := .int (nI wn)) (C := RX6) (T := TX6) (N := 9) hx hb hts hiX6 hown hE.1 hP 0 rfl rfl 5 (by decide) (hts _ (List.mem_cons_of_mem _ wd_333)) (fun _ h9 => h9) rfl dX6_fewestPlain_1 ?_
  refine lv_istore_n (lv' := [(1, .int (nI wn)), (0, .ref s1)]) hx hb dX6_fewestPlain_4 rfl hl (by decide) rfl (fun ls hl => ?_)
  refine lv_iconst (v := 0) hx hb dX6_fewestPlain_5 (by decide) ?_
  refine lv_istore_n (lv' := [(2, .int 0), (1, .int (nI wn)), (0, .ref s1)]) hx hb dX6_fewestPlain_6 rfl hl (by decide) rfl (fun ls hl => ?_)
  have J7 : ∀ (zz : Nat) (i7 h1_7 : Nat), (i7 ≤ wn + 1) → (h1_7 = FCO (RGE Y0 (nI wn)) wn i7) → (h1_7 ≤ wn) → (wn + 1 - i7) < zz → ∀ (H : Heap) (locs : List Loc) (ls : Array Slot), va_P D vwCl [(oX6 s1 w0 w1 w2 w3 w4 (nI wn) wi6 (nI lv) w8), (aIc cI w1 8 W1)] H → va_D A [(oX6 s1 w0 w1 w2 w3 w4 (nI wn) wi6 (nI lv) w8), (aIc cI w1 8 W1)] → va_S A s.heap H locs → lv_has ls 4 [(2, .int (nI i7)), (1, .int (nI h1_7)), (0, .ref s1)] → W p l e { frames := 1, cells := 0, slots := 0, locals := 24 } s m [.ref s1].toArray below meth c H locs 0 0 (MQ below (cQi D (fun r u => r = (nI (FCO (RGE Y0 (nI wn)) wn (wn + 1))) ∧ u = [(oX6 s1 w0 w1 w2 w3 w4 (nI wn) wi6 (nI lv) w8), (aIc cI w1 8 W1)]) A) [.ref s1].toArray s 0 0 A) (F0 m 7 ls []) := by
    intro zz
    induction zz with
    | zero => intro i7 h1_7 _ _ _; exact fun h => absurd h (Nat.not_lt_zero _)
    | succ zz ih7 =>
      intro i7 h1_7 hc2_7 hb_7 h1b_7 hmu7 H locs ls hP hD hS hl
      refine lv_iload_n hx hb dX6_fewestPlain_7 rfl (lv_at hl 0 rfl) ?_
      refine lv_aload_n hx hb dX6_fewestPlain_8 rfl (lv_at hl 2 rfl) ?_
      refine va_get (D := D) (ci := 6) (v := .int (nI wn)) (C := RX6) (T := TX6) (N := 9) hx hb hts hiX6 hown hE.1 hP 0 rfl rfl 5 (by decide) (hts _ (List.mem_cons_of_mem _ wd_333)) (fun _ h9 => h9) rfl dX6_fewestPlain_9 ?_
      refine lv_icmp_gt (tgt := 63) hx hb dX6_fewestPlain_12 (by decide) (fun c1 => ?_) (fun c1 => ?_)
      · skip
        have nc1 : wn < i7 := (nI_ltI (a := wn) (b := i7) (by omega) (by omega)).mp c1
        refine lv_iload_n hx hb dX6_fewestPlain_63 rfl (lv_at hl 1 rfl) ?_
        refine k_iret (u := [(oX6 s1 w0 w1 w2 w3 w4 (nI wn) wi6 (nI lv) w8), (aIc cI w1 8 W1)]) hx hb hr hlk hP hD hS dX6_fewestPlain_64 ?_
        exact ⟨(congrArg nI (by obtain rfl : i7 = wn + 1 := (by omega); exact hb_7)), rfl⟩
      · skip
        have nc1 : ¬ wn < i7 := fun q9 => c1 ((nI_ltI (a := wn) (b := i7) (by omega) (by omega)).mpr q9)
        refine lv_iload_n hx hb dX6_fewestPlain_15 rfl (lv_at hl 0 rfl) ?_
        refine k_iS (va_runS (As := [.int (nI i7)]) (rest := []) ⟨hx, hb, hml, hown, hts⟩ (m_bitCount l D cI cJ H.size (nI i7)) (va_cwS 1 hts gX6_fewestPlain_J6_bitCount_0f7a4 rfl rfl rfl (by decide +kernel) ⟨Nat.le_of_ble_eq_true rfl, Nat.le_of_ble_eq_true rfl⟩) (k_pre hE hP hD [] (by decide +kernel) rfl) rfl rfl hl.1 rfl (lv_room (Nat.le_of_ble_eq_true rfl)) dX6_fewestPlain_16 ⟨Nat.le_of_ble_eq_true rfl, Nat.le_of_ble_eq_true rfl⟩) hP hD hS hA [] rfl (fun _ _ ⟨_, h9⟩ => h9) (fun r2 H locs hw3 hP hD hS => ?_)
        obtain ⟨rfl, -⟩ := hw3
        rw [bc_w8 (a := nI i7) ⟨i7, by omega, rfl⟩]
        have hn19 := nb_8 (nI i7)
        refine lv_iload_n hx hb dX6_fewestPlain_19 rfl (lv_at hl 1 rfl) ?_
        refine k_iS (va_runS (As := [.int (nI h1_7)]) (rest := [.int (nI (NB (nI i7)))]) ⟨hx, hb, hml, hown, hts⟩ (m_bitCount l D cI cJ H.size (nI h1_7)) (va_cwS 1 hts gX6_fewestPlain_J6_bitCount_0f7a4 rfl rfl rfl (by decide +kernel) ⟨Nat.le_of_ble_eq_true rfl, Nat.le_of_ble_eq_true rfl⟩) (k_pre hE hP hD [] (by decide +kernel) rfl) rfl rfl hl.1 rfl (lv_room (Nat.le_of_ble_eq_true rfl)) dX6_fewestPlain_20 ⟨Nat.le_of_ble_eq_true rfl, Nat.le_of_ble_eq_true rfl⟩) hP hD hS hA [] rfl (fun _ _ ⟨_, h9⟩ => h9) (fun r4 H locs hw5 hP hD hS => ?_)
        obtain ⟨rfl, -⟩ := hw5
        rw [bc_w8 (a := nI h1_7) ⟨h1_7, by omega, rfl⟩]
        have hn29 := nb_8 (nI h1_7)
        refine lv_icmp_ge (tgt := 30) hx hb dX6_fewestPlain_23 (by decide) (fun c6 => ?_) (fun c6 => ?_)
        · skip
          have nc6 : NB (nI h1_7) ≤ NB (nI i7) := (nI_leI (a := (NB (nI h1_7))) (b := (NB (nI i7))) (by omega) (by omega)).mp c6
          refine lv_iconst (v := 0) hx hb dX6_fewestPlain_30 (by decide) ?_
          refine lv_istore_n (lv' := [(3, .int 0), (2, .int (nI i7)), (1, .int (nI h1_7)), (0, .ref s1)]) hx hb dX6_fewestPlain_31 rfl hl (by decide) rfl (fun ls hl => ?_)
          refine lv_iload_n hx hb dX6_fewestPlain_32 rfl (lv_at hl 0 rfl) ?_
          refine lv_if_eq (tgt := 57) hx hb dX6_fewestPlain_33 (by decide) (fun _ => ?_) (fun c7 => absurd (by decide) c7)
          refine lv_iinc (v := (nI (i7 + 1))) (lv' := [(2, .int (nI (i7 + 1))), (3, .int 0), (1, .int (nI h1_7)), (0, .ref s1)]) hx hb dX6_fewestPlain_57 hl (k := 1) rfl (nI_1 _) (by decide) rfl (fun ls hl => ?_)
          refine lv_goto (tgt := 7) hx hb dX6_fewestPlain_60 (by decide) ?_
          exact ih7 (i7 + 1) h1_7 (by omega) (fco_n hb_7 (fun z9 => absurd z9.1 (by omega))) h1b_7 (by omega) _ _ _ hP hD hS (lv_sub hl [0, 2, 3] rfl)
        · skip
          have nc6 : ¬ NB (nI h1_7) ≤ NB (nI i7) := fun q9 => c6 ((nI_leI (a := (NB (nI h1_7))) (b := (NB (nI i7))) (by omega) (by omega)).mpr q9)
          refine lv_iconst (v := 1) hx hb dX6_fewestPlain_26 (by decide) ?_
          refine lv_goto (tgt := 31) hx hb dX6_fewestPlain_27 (by decide) ?_
          refine lv_istore_n (lv' := [(3, .int 1), (2, .int (nI i7)), (1, .int (nI h1_7)), (0, .ref s1)]) hx hb dX6_fewestPlain_31 rfl hl (by decide) rfl (fun ls hl => ?_)
          refine lv_iload_n hx hb dX6_fewestPlain_32 rfl (lv_at hl 0 rfl) ?_
          refine lv_if_eq (tgt := 57) hx hb dX6_fewestPlain_33 (by decide) (fun c8 => absurd c8 (by decide)) (fun _ => ?_)
          refine lv_iload_n hx hb dX6_fewestPlain_36 rfl (lv_at hl 1 rfl) ?_
          refine lv_aload_n hx hb dX6_fewestPlain_37 rfl (lv_at hl 3 rfl) ?_
          refine va_get (D := D) (ci := 6) (v := .int (nI wn)) (C := RX6) (T := TX6) (N := 9) hx hb hts hiX6 hown hE.1 hP 0 rfl rfl 5 (by decide) (hts _ (List.mem_cons_of_mem _ wd_333)) (fun _ h9 => h9) rfl dX6_fewestPlain_38 ?_
          refine lv_iconst (v := (-1)) hx hb dX6_fewestPlain_41 (by decide) ?_
          refine lv_ixor hx hb dX6_fewestPlain_42 ?_
          refine lv_topi (fun v9 ev9 => ?_)
          refine lv_iand hx hb dX6_fewestPlain_43 ?_
          refine lv_topi (fun v10 ev10 => ?_)
          refine lv_if_ne (tgt := 57) hx hb dX6_fewestPlain_44 (by decide) (fun c11 => ?_) (fun c11 => ?_)
          · skip
            refine lv_iinc (v := (nI (i7 + 1))) (lv' := [(2, .int (nI (i7 + 1))), (3, .int 1), (1, .int (nI h1_7)), (0, .ref s1)]) hx hb dX6_fewestPlain_57 hl (k := 1) rfl (nI_1 _) (by decide) rfl (fun ls hl => ?_)
            refine lv_goto (tgt := 7) hx hb dX6_fewestPlain_60 (by decide) ?_
            exact ih7 (i7 + 1) h1_7 (by omega) (fco_n hb_7 (fun z9 => rge_1 (by omega) ev9 ev10 c11 z9.2)) h1b_7 (by omega) _ _ _ hP hD hS (lv_sub hl [0, 2, 3] rfl)
          · skip
            refine lv_aload_n hx hb dX6_fewestPlain_47 rfl (lv_at hl 3 rfl) ?_
            refine lv_iload_n hx hb dX6_fewestPlain_48 rfl (lv_at hl 1 rfl) ?_
            refine k_iS (va_runV (As := [.int (nI i7)]) (rest := []) ⟨hx, hb, hml, hown, hts⟩ (e_X6_isRinglessWith l D cI cJ H.size s1 w0 w1 w2 w3 w4 w8 wn lv wi6 (nI i7) W1 Y0 hwn hY hy0 hyw) (cwV 1 hts gX6_fewestPlain_X6_isRinglessWith rfl rfl rfl (by decide +kernel) ⟨Nat.le_of_ble_eq_true rfl, Nat.le_of_ble_eq_true rfl⟩) (k_preV hE hP hD [0, 1] (by decide +kernel) rfl 0 rfl rfl) rfl rfl hl.1 rfl (lv_room (Nat.le_of_ble_eq_true rfl)) dX6_fewestPlain_49 ⟨Nat.le_of_ble_eq_true rfl, Nat.le_of_ble_eq_true rfl⟩) hP hD hS hA [0, 1] rfl (fun _ _ ⟨_, h9⟩ => h9) (fun r12 H locs hw13 hP hD hS => ?_)
            obtain ⟨hb14, -⟩ := hw13
            refine lv_if_eq (tgt := 57) hx hb dX6_fewestPlain_52 (by decide) (fun c15 => ?_) (fun c15 => ?_)
            · skip
              have hc15 : ¬ (NRG Y0 (nI i7) = true) := bz_0 hb14 c15
              refine lv_iinc (v := (nI (i7 + 1))) (lv' := [(2, .int (nI (i7 + 1))), (3, .int 1), (1, .int (nI h1_7)), (0, .ref s1)]) hx hb dX6_fewestPlain_57 hl (k := 1) rfl (nI_1 _) (by decide) rfl (fun ls hl => ?_)
              refine lv_goto (tgt := 7) hx hb dX6_fewestPlain_60 (by decide) ?_
              exact ih7 (i7 + 1) h1_7 (by omega) (fco_n hb_7 (fun z9 => hc15 (rge_t.mp z9.2).2)) h1b_7 (by omega) _ _ _ hP hD hS (lv_sub hl [0, 2, 3] rfl)
            · skip
              have hc15 : NRG Y0 (nI i7) = true := bz_1 hb14 c15
              refine lv_iload_n hx hb dX6_fewestPlain_55 rfl (lv_at hl 1 rfl) ?_
              refine lv_istore_n (lv' := [(1, .int (nI i7)), (3, .int 1), (2, .int (nI i7)), (0, .ref s1)]) hx hb dX6_fewestPlain_56 rfl hl (by decide) rfl (fun ls hl => ?_)
              refine lv_iinc (v := (nI (i7 + 1))) (lv' := [(2, .int (nI (i7 + 1))), (1, .int (nI i7)), (3, .int 1), (0, .ref s1)]) hx hb dX6_fewestPlain_57 hl (k := 2) rfl (nI_1 _) (by decide) rfl (fun ls hl => ?_)
              refine lv_goto (tgt := 7) hx hb dX6_fewestPlain_60 (by decide) ?_
              exact ih7 (i7 + 1) i7 (by omega) (fco_y hb_7 (by omega) (rge_y (by omega) ev9 ev10 c11 hc15)) (by omega) (by omega) _ _ _ hP hD hS (lv_sub hl [0, 1, 3] rfl)
  exact J7 _ 0 wn (by omega) rfl (by omega) (Nat.lt_succ_self _) _ _ _ hP hD hS (lv_sub hl [0, 1, 2] rfl)
set_option maxHeartbeats 4000000 in
set_option maxRecDepth 100000 in
theorem e_X7_ringless (l : Launch) (D : va_G) (cI cJ : ClassId) (sz : Nat) (x x0 x1 x2 x3 x4 x5 s1 s2 s5 s6 s7 s8 s9 s10 s11 b0 b1 b2 b3 b4 b5 b6 b7 b8 b9 b10 b11 w0 w1 w2 w3 w4 w8 d0 d1 d2 wn lv np nl pn tt0 at0 : Nat) (si4 bi14 wi6 p0 p1 : Int32) (B0 B1 B2 B3 B4 B6 B8 B10 B11 S5 S6 S7 S8 S9 S10 S11 W0 W1 W2 W3 W4 W8 D0 D1 : Nat → Int32) (D2 : Nat → Int64) (B5 : Nat → Int32) (li0 wo0 de0 su0 ag0 lim0 lam0 : Nat → Nat) (hnp : np ≤ 8) (hnl : nl ≤ 10) (hwn : wn < 256) (hlv : lv ≤ 8) (hliv : nv B0 li0) (hlib : ∀ k, k < 8 → li0 k ≤ 1000000) (hwov : nv B3 wo0) (hwob : ∀ k, k < 8 → wo0 k ≤ 9000000) (hdev : nv B2 de0) (hdeb : ∀ k, k < 8 → de0 k ≤ 99999) (hsb : SUB B8 su0) (hix : ∀ k, k < 10 → B10 k = nI (lim0 k) ∧ lim0 k < 8) (hax : ∀ k, k < 10 → B11 k = nI (lam0 k) ∧ lam0 k ≤ 1000000) (hagv : nv B1 ag0) (hagb : ∀ k, k < 8 → ag0 k ≤ 9000000) (hto : ∀ k, k < 8 → isw8 (B6 k)) (hpn : pn < 256) : Met l yX7_ringless wtX7_ringless { frames := 6, cells := 0, slots := 0, locals := 146 } (cPc D cI cJ [.ref x, .int p0, .int p1] sz [(oX7 x x0 x1 x2 x3 x4 x5), (oX4 x1 x0 s1 s2 (nI pn) si4 s5 s6 s7 s8 s9 s10 s11 (nI tt0) (nI at0)), (oX0 x0 b0 b1 b2 b3 b4 b5 b6 b7 b8 b9 b10 b11 (nI np) (nI nl) bi14), (oX6 s1 w0 w1 w2 w3 w4 (nI wn) wi6 (nI lv) w8), (oX2 s2 d0 d1 d2), (aIc cI b0 8 B0), (aIc cI b1 8 B1), (aIc cI b2 8 B2), (aIc cI b3 8 B3), (aIc cI b4 8 B4), (aIc cI b6 8 B6), (aIc cI b8 64 B8), (aIc cI b10 10 B10), (aIc cI b11 10 B11), (aIc cI s5 8 S5), (aIc cI s6 8 S6), (aIc cI s7 8 S7), (aIc cI s8 8 S8), (aIc cI s9 8 S9), (aIc cI s10 8 S10), (aIc cI s11 8 S11), (aIc cI w0 8 W0), (aIc cI w1 8 W1), (aIc cI w2 8 W2), (aIc cI w3 8 W3), (aIc cI w4 8 W4), (aIc cI w8 8 W8), (aIc cI d0 8 D0), (aIc cI d1 8 D1), (aJc cJ d2 8 D2), (aIc cI b5 8 B5)]) (cQi D (fun r u => ∃ (S5p S6p S7p S8p S9p S10p S11p W1p W2p W3p W4p W8p D0p D1p : Nat → Int32) (D2p : Nat → Int64) (ttp atp : Nat) (wi6p : Int32) (lvp wnp : Nat) (W0p : Nat → Int32) (si4p : Int32) (pnp : Nat), (lvp ≤ 8) ∧ (wnp < 256) ∧ (pnp < 256) ∧ r = (OFL nl p0 (ARL (YI B5 B6 (INL li0 wo0 de0 su0 B4 B5 B6 bi14 (nI (2 ^ np - 1)) ag0 lim0 lam0 (Int32.toNatClampNeg p0))) (INL li0 wo0 de0 su0 B4 B5 B6 bi14 (nI (2 ^ np - 1)) ag0 lim0 lam0 (Int32.toNatClampNeg p0)) p1)) ∧ u = [(oX7 x x0 x1 x2 x3 x4 x5), (oX4 x1 x0 s1 s2 (nI pnp) si4p s5 s6 s7 s8 s9 s10 s11 (nI ttp) (nI atp)), (oX0 x0 b0 b1 b2 b3 b4 b5 b6 b7 b8 b9 b10 b11 (nI np) (nI nl) bi14), (oX6 s1 w0 w1 w2 w3 w4 (nI wnp) wi6p (nI lvp) w8), (oX2 s2 d0 d1 d2), (aIc cI b0 8 B0), (aIc cI b1 8 B1), (aIc cI b2 8 B2), (aIc cI b3 8 B3), (aIc cI b4 8 B4), (aIc cI b6 8 B6), (aIc cI b8 64 B8), (aIc cI b10 10 B10), (aIc cI b11 10 B11), (aIc cI s5 8 S5p), (aIc cI s6 8 S6p), (aIc cI s7 8 S7p), (aIc cI s8 8 S8p), (aIc cI s9 8 S9p), (aIc cI s10 8 S10p), (aIc cI s11 8 S11p), (aIc cI w0 8 W0p), (aIc cI w1 8 W1p), (aIc cI w2 8 W2p), (aIc cI w3 8 W3p), (aIc cI w4 8 W4p), (aIc cI w8 8 W8p), (aIc cI d0 8 D0p), (aIc cI d1 8 D1p), (aJc cJ d2 8 D2p), (aIc cI b5 8 B5)]) (va_A [(oX7 x x0 x1 x2 x3 x4 x5), (oX4 x1 x0 s1 s2 (nI pn) si4 s5 s6 s7 s8 s9 s10 s11 (nI tt0) (nI at0)), (oX0 x0 b0 b1 b2 b3 b4 b5 b6 b7 b8 b9 b10 b11 (nI np) (nI nl) bi14), (oX6 s1 w0 w1 w2 w3 w4 (nI wn) wi6 (nI lv) w8), (oX2 s2 d0 d1 d2), (aIc cI b0 8 B0), (aIc cI b1 8 B1), (aIc cI b2 8 B2), (aIc cI b3 8 B3), (aIc cI b4 8 B4), (aIc cI b6 8 B6), (aIc cI b8 64 B8), (aIc cI b10 10 B10), (aIc cI b11 10 B11), (aIc cI s5 8 S5), (aIc cI s6 8 S6), (aIc cI s7 8 S7), (aIc cI s8 8 S8), (aIc cI s9 8 S9), (aIc cI s10 8 S10), (aIc cI s11 8 S11), (aIc cI w0 8 W0), (aIc cI w1 8 W1), (aIc cI w2 8 W2), (aIc cI w3 8 W3), (aIc cI w4 8 W4), (aIc cI w8 8 W8), (aIc cI d0 8 D0), (aIc cI d1 8 D1), (aJc cJ d2 8 D2), (aIc cI b5 8 B5)] sz)) 0 0 (va_A [(oX7 x x0 x1 x2 x3 x4 x5), (oX4 x1 x0 s1 s2 (nI pn) si4 s5 s6 s7 s8 s9 s10 s11 (nI tt0) (nI at0)), (oX0 x0 b0 b1 b2 b3 b4 b5 b6 b7 b8 b9 b10 b11 (nI np) (nI nl) bi14), (oX6 s1 w0 w1 w2 w3 w4 (nI wn) wi6 (nI lv) w8), (oX2 s2 d0 d1 d2), (aIc cI b0 8 B0), (aIc cI b1 8 B1), (aIc cI b2 8 B2), (aIc cI b3 8 B3), (aIc cI b4 8 B4), (aIc cI b6 8 B6), (aIc cI b8 64 B8), (aIc cI b10 10 B10), (aIc cI b11 10 B11), (aIc cI s5 8 S5), (aIc cI s6 8 S6), (aIc cI s7 8 S7), (aIc cI s8 8 S8), (aIc cI s9 8 S9), (aIc cI s10 8 S10), (aIc cI s11 8 S11), (aIc cI w0 8 W0), (aIc cI w1 8 W1), (aIc cI w2 8 W2), (aIc cI w3 8 W3), (aIc cI w4 8 W4), (aIc cI w8 8 W8), (aIc cI d0 8 D0), (aIc cI d1 8 D1), (aJc cJ d2 8 D2), (aIc cI b5 8 B5)] sz) := by
  refine k_ofW (Qc := cQi D (fun r u => ∃ (S5p S6p S7p S8p S9p S10p S11p W1p W2p W3p W4p W8p D0p D1p : Nat → Int32) (D2p : Nat → Int64) (ttp atp : Nat) (wi6p : Int32) (lvp wnp : Nat) (W0p : Nat → Int32) (si4p : Int32) (pnp : Nat), (lvp ≤ 8) ∧ (wnp < 256) ∧ (pnp < 256) ∧ r = (OFL nl p0 (ARL (YI B5 B6 (INL li0 wo0 de0 su0 B4 B5 B6 bi14 (nI (2 ^ np - 1)) ag0 lim0 lam0 (Int32.toNatClampNeg p0))) (INL li0 wo0 de0 su0 B4 B5 B6 bi14 (nI (2 ^ np - 1)) ag0 lim0 lam0 (Int32.toNatClampNeg p0)) p1)) ∧ u = [(oX7 x x0 x1 x2 x3 x4 x5), (oX4 x1 x0 s1 s2 (nI pnp) si4p s5 s6 s7 s8 s9 s10 s11 (nI ttp) (nI atp)), (oX0 x0 b0 b1 b2 b3 b4 b5 b6 b7 b8 b9 b10 b11 (nI np) (nI nl) bi14), (oX6 s1 w0 w1 w2 w3 w4 (nI wnp) wi6p (nI lvp) w8), (oX2 s2 d0 d1 d2), (aIc cI b0 8 B0), (aIc cI b1 8 B1), (aIc cI b2 8 B2), (aIc cI b3 8 B3), (aIc cI b4 8 B4), (aIc cI b6 8 B6), (aIc cI b8 64 B8), (aIc cI b10 10 B10), (aIc cI b11 10 B11), (aIc cI s5 8 S5p), (aIc cI s6 8 S6p), (aIc cI s7 8 S7p), (aIc cI s8 8 S8p), (aIc cI s9 8 S9p), (aIc cI s10 8 S10p), (aIc cI s11 8 S11p), (aIc cI w0 8 W0p), (aIc cI w1 8 W1p), (aIc cI w2 8 W2p), (aIc cI w3 8 W3p), (aIc cI w4 8 W4p), (aIc cI w8 8 W8p), (aIc cI d0 8 D0p), (aIc cI d1 8 D1p), (aJc cJ d2 8 D2p), (aIc cI b5 8 B5)])) (by decide) rfl (Nat.le_of_ble_eq_true rfl) ?_
  intro p e s m below meth c A ls hx hb hr hml hts hown hlk hnm hsz hE hP hD hS hA hl
  have hown : s.vm.findClass RX7 = some m.cls := hown
  have hiX7 : ∀ w ∈ u_ws RX7 TX7 6, w ∈ wtX7_ringless := fun w h => List.mem_cons_of_mem _ (iuX7 w h)
  have hiX4 : ∀ w ∈ u_ws RX4 TX4 14, w ∈ wtX7_ringless := fun w h => List.mem_cons_of_mem _ (iuX4 w h)
  have hl : lv_has ls 4 [(0, .ref x), (1, .int p0), (2, .int p1)] := hl
  refine lv_aload_n hx hb dX7_ringless_0 rfl (lv_at hl 0 rfl) ?_
  refine lv_iload_n hx hb dX7_ringless_1 rfl (lv_at hl 1 rfl) ?_
  refine k_iS (va_runV (As := [.int p0]) (rest := []) ⟨hx, hb, hml, hown, hts⟩ (m_X7_isLoss l D cI cJ (s.heap).size x x0 x1 x2 x3 x4 x5 b0 b1 b2 b3 b4 b5 b6 b7 b8 b9 b10 b11 (nI np) (nI nl) bi14 p0) (cwV 1 hts gX7_ringless_X7_isLoss rfl rfl rfl (by decide +kernel) ⟨Nat.le_of_ble_eq_true rfl, Nat.le_of_ble_eq_true rfl⟩) (k_preV hE hP hD [0, 2] (by decide +kernel) rfl 0 rfl rfl) rfl rfl hl.1 rfl (lv_room (Nat.le_of_ble_eq_true rfl)) dX7_ringless_2 ⟨Nat.le_of_ble_eq_true rfl, Nat.le_of_ble_eq_true rfl⟩) hP hD hS hA [0, 2] rfl (fun _ _ h9 => h9.2) (fun r1 H locs hw2 hP hD hS => ?_)
  obtain ⟨hw2, -⟩ := hw2
  refine lv_if_ne (tgt := 10) hx hb dX7_ringless_5 (by decide) (fun c3 => ?_) (fun c3 => ?_)
  · skip
    have hc3 : 0 ≤ p0 ∧ p0 ≤ (nI nl) - 1 := bz_1 hw2 c3
    obtain ⟨lj, hlj, elj⟩ := wi_n (by omega) hc3
    rw [elj] at hl
    refine lv_aload_n hx hb dX7_ringless_10 rfl (lv_at hl 0 rfl) ?_
    refine lv_iload_n hx hb dX7_ringless_11 rfl (lv_at hl 1 rfl) ?_
    refine k_v (va_runV (As := [.int (nI lj)]) (rest := []) ⟨hx, hb, hml, hown, hts⟩ (e_X7_settle l D cI cJ H.size x x0 x1 x2 x3 x4 x5 s1 s2 s5 s6 s7 s8 s9 s10 s11 b0 b1 b2 b3 b4 b5 b6 b7 b8 b9 b10 b11 w0 w1 w2 w3 w4 w8 d0 d1 d2 lj wn lv np nl pn tt0 at0 si4 bi14 wi6 B0 B1 B2 B3 B4 B6 B8 B10 B11 S5 S6 S7 S8 S9 S10 S11 W0 W1 W2 W3 W4 W8 D0 D1 D2 B5 li0 wo0 de0 su0 ag0 lim0 lam0 hnp hnl hwn hlv hliv hlib hwov hwob hdev hdeb hsb hix hax hagv hagb hto (by omega)) (cwV 1 hts gX7_ringless_X7_settle rfl rfl rfl (by decide +kernel) ⟨Nat.le_of_ble_eq_true rfl, Nat.le_of_ble_eq_true rfl⟩) (k_preV hE hP hD [0, 1, 2, 3, 4, 5, 6, 7, 8, 9, 10, 11, 12, 13, 14, 15, 16, 17, 18, 19, 20, 21, 22, 23, 24, 25, 26, 27, 28, 29, 30] (by decide +kernel) rfl 0 rfl rfl) rfl rfl hl.1 rfl (lv_room (Nat.le_of_ble_eq_true rfl)) dX7_ringless_12 ⟨Nat.le_of_ble_eq_true rfl, Nat.le_of_ble_eq_true rfl⟩) hP hD hS hA [0, 1, 2, 3, 4, 5, 6, 7, 8, 9, 10, 11, 12, 13, 14, 15, 16, 17, 18, 19, 20, 21, 22, 23, 24, 25, 26, 27, 28, 29, 30] [] rfl (wr := []) rfl (by decide +kernel) (by decide +kernel) (fun u H locs hw4 hP hD hS => ?_)
    obtain ⟨z5, z6, z7, z8, z9, z10, z11, z12, z13, z14, z15, z16, z17, z18, z19, z20, z21, z22, z23, z24, z25, hz26, hz27, hz28, hz29, hz30, hz31, rfl⟩ := hw4
    refine k_re (w := [(oX7 x x0 x1 x2 x3 x4 x5), (oX4 x1 x0 s1 s2 (nI (2 ^ np - 1)) bi14 s5 s6 s7 s8 s9 s10 s11 (nI z20) (nI z21)), (oX0 x0 b0 b1 b2 b3 b4 b5 b6 b7 b8 b9 b10 b11 (nI np) (nI nl) bi14), (oX6 s1 w0 w1 w2 w3 w4 (nI z24) z22 (nI z23) w8), (oX2 s2 d0 d1 d2), (aIc cI b0 8 B0), (aIc cI b1 8 B1), (aIc cI b2 8 B2), (aIc cI b3 8 B3), (aIc cI b4 8 B4), (aIc cI b6 8 B6), (aIc cI b8 64 B8), (aIc cI b10 10 B10), (aIc cI b11 10 B11), (aIc cI s5 8 z5), (aIc cI s6 8 z6), (aIc cI s7 8 z7), (aIc cI s8 8 z8), (aIc cI s9 8 z9), (aIc cI s10 8 z10), (aIc cI s11 8 z11), (aIc cI w0 8 z25), (aIc cI w1 8 z12), (aIc cI w2 8 z13), (aIc cI w3 8 z14), (aIc cI w4 8 z15), (aIc cI w8 8 z16), (aIc cI d0 8 z17), (aIc cI d1 8 z18), (aJc cJ d2 8 z19), (aIc cI b5 8 B5)]) hP hD (fun hP hD => ?_)
    refine lv_aload_n hx hb dX7_ringless_15 rfl (lv_at hl 0 rfl) ?_
    refine va_get (D := D) (ci := 7) (v := .ref x1) (C := RX7) (T := TX7) (N := 6) hx hb hts hiX7 hown hE.1 hP 0 rfl rfl 1 (by decide) (hts _ (List.mem_cons_of_mem _ wd_17)) (fun _ h9 => h9) rfl dX7_ringless_16 ?_
    refine va_get (D := D) (ci := 4) (v := .ref s1) (C := RX4) (T := TX4) (N := 14) hx hb hts hiX4 hown hE.1 hP 1 rfl rfl 1 (by decide) (hts _ (List.mem_cons_of_mem _ wd_514)) (fun _ h9 => h9) rfl dX7_ringless_19 ?_
    refine k_iS (va_runV (As := []) (rest := []) ⟨hx, hb, hml, hown, hts⟩ (e_X6_fewestPlain l D cI cJ H.size s1 w0 w1 w2 w3 w4 w8 z24 z23 z22 z12 (YI B5 B6 (INL li0 wo0 de0 su0 B4 B5 B6 bi14 (nI (2 ^ np - 1)) ag0 lim0 lam0 lj)) hz31 hz30 (lcs_y (hz29 (Nat.succ_pos _))) (fun j z9 => (yi_n (by rw [← (lcs_nl (hz29 (Nat.succ_pos _))).1]; exact z9)).symm) (fun k hk => yi_w8 (hto k hk))) (cwV 0 hts gX7_ringless_X6_fewestPlain rfl rfl rfl (by decide +kernel) ⟨Nat.le_of_ble_eq_true rfl, Nat.le_of_ble_eq_true rfl⟩) (k_preV hE hP hD [3, 22] (by decide +kernel) rfl 3 rfl rfl) rfl rfl hl.1 rfl (lv_room (Nat.le_of_ble_eq_true rfl)) dX7_ringless_22 ⟨Nat.le_of_ble_eq_true rfl, Nat.le_of_ble_eq_true rfl⟩) hP hD hS hA [3, 22] rfl (fun _ _ ⟨_, h9⟩ => h9) (fun r32 H locs hw33 hP hD hS => ?_)
    obtain ⟨rfl, -⟩ := hw33
    have hrl9 : FCO (RGE (YI B5 B6 (INL li0 wo0 de0 su0 B4 B5 B6 bi14 (nI (2 ^ np - 1)) ag0 lim0 lam0 lj)) (nI z24)) z24 (z24 + 1) = (RLF (YI B5 B6 (INL li0 wo0 de0 su0 B4 B5 B6 bi14 (nI (2 ^ np - 1)) ag0 lim0 lam0 lj)) (INL li0 wo0 de0 su0 B4 B5 B6 bi14 (nI (2 ^ np - 1)) ag0 lim0 lam0 lj)) := rlf_eq (by omega) (lcs_nl (hz29 (Nat.succ_pos _))).1
    rw [hrl9]
    have hrb9 : (RLF (YI B5 B6 (INL li0 wo0 de0 su0 B4 B5 B6 bi14 (nI (2 ^ np - 1)) ag0 lim0 lam0 lj)) (INL li0 wo0 de0 su0 B4 B5 B6 bi14 (nI (2 ^ np - 1)) ag0 lim0 lam0 lj)) < 256 := rlf_lt (ors_w8 (Nat.le_refl _))
    refine lv_istore_n (lv' := [(3, .int (nI (RLF (YI B5 B6 (INL li0 wo0 de0 su0 B4 B5 B6 bi14 (nI (2 ^ np - 1)) ag0 lim0 lam0 lj)) (INL li0 wo0 de0 su0 B4 B5 B6 bi14 (nI (2 ^ np - 1)) ag0 lim0 lam0 lj)))), (0, .ref x), (1, .int (nI lj)), (2, .int p1)]) hx hb dX7_ringless_25 rfl hl (by decide) rfl (fun ls hl => ?_)
    refine lv_iload_n hx hb dX7_ringless_26 rfl (lv_at hl 3 rfl) ?_
    refine lv_if_eq (tgt := 34) hx hb dX7_ringless_27 (by decide) (fun c34 => ?_) (fun c34 => ?_)
    · skip
      refine lv_iload_n hx hb dX7_ringless_34 rfl (lv_at hl 0 rfl) ?_
      refine k_iS (va_runS (As := [.int (nI (RLF (YI B5 B6 (INL li0 wo0 de0 su0 B4 B5 B6 bi14 (nI (2 ^ np - 1)) ag0 lim0 lam0 lj)) (INL li0 wo0 de0 su0 B4 B5 B6 bi14 (nI (2 ^ np - 1)) ag0 lim0 lam0 lj)))]) (rest := []) ⟨hx, hb, hml, hown, hts⟩ (m_bitCount l D cI cJ H.size (nI (RLF (YI B5 B6 (INL li0 wo0 de0 su0 B4 B5 B6 bi14 (nI (2 ^ np - 1)) ag0 lim0 lam0 lj)) (INL li0 wo0 de0 su0 B4 B5 B6 bi14 (nI (2 ^ np - 1)) ag0 lim0 lam0 lj)))) (va_cwS 1 hts gX7_ringless_J6_bitCount_0f7a4 rfl rfl rfl (by decide +kernel) ⟨Nat.le_of_ble_eq_true rfl, Nat.le_of_ble_eq_true rfl⟩) (k_pre hE hP hD [] (by decide +kernel) rfl) rfl rfl hl.1 rfl (lv_room (Nat.le_of_ble_eq_true rfl)) dX7_ringless_35 ⟨Nat.le_of_ble_eq_true rfl, Nat.le_of_ble_eq_true rfl⟩) hP hD hS hA [] rfl (fun _ _ ⟨_, h9⟩ => h9) (fun r35 H locs hw36 hP hD hS => ?_)
      obtain ⟨rfl, -⟩ := hw36
      rw [bc_w8 (a := nI (RLF (YI B5 B6 (INL li0 wo0 de0 su0 B4 B5 B6 bi14 (nI (2 ^ np - 1)) ag0 lim0 lam0 lj)) (INL li0 wo0 de0 su0 B4 B5 B6 bi14 (nI (2 ^ np - 1)) ag0 lim0 lam0 lj))) ⟨(RLF (YI B5 B6 (INL li0 wo0 de0 su0 B4 B5 B6 bi14 (nI (2 ^ np - 1)) ag0 lim0 lam0 lj)) (INL li0 wo0 de0 su0 B4 B5 B6 bi14 (nI (2 ^ np - 1)) ag0 lim0 lam0 lj)), by omega, rfl⟩]
      refine k_iret (u := [(oX7 x x0 x1 x2 x3 x4 x5), (oX4 x1 x0 s1 s2 (nI (2 ^ np - 1)) bi14 s5 s6 s7 s8 s9 s10 s11 (nI z20) (nI z21)), (oX0 x0 b0 b1 b2 b3 b4 b5 b6 b7 b8 b9 b10 b11 (nI np) (nI nl) bi14), (oX6 s1 w0 w1 w2 w3 w4 (nI z24) z22 (nI z23) w8), (oX2 s2 d0 d1 d2), (aIc cI b0 8 B0), (aIc cI b1 8 B1), (aIc cI b2 8 B2), (aIc cI b3 8 B3), (aIc cI b4 8 B4), (aIc cI b6 8 B6), (aIc cI b8 64 B8), (aIc cI b10 10 B10), (aIc cI b11 10 B11), (aIc cI s5 8 z5), (aIc cI s6 8 z6), (aIc cI s7 8 z7), (aIc cI s8 8 z8), (aIc cI s9 8 z9), (aIc cI s10 8 z10), (aIc cI s11 8 z11), (aIc cI w0 8 z25), (aIc cI w1 8 z12), (aIc cI w2 8 z13), (aIc cI w3 8 z14), (aIc cI w4 8 z15), (aIc cI w8 8 z16), (aIc cI d0 8 z17), (aIc cI d1 8 z18), (aJc cJ d2 8 z19), (aIc cI b5 8 B5)]) hx hb hr hlk hP hD hS dX7_ringless_38 ?_
      exact ⟨z5, z6, z7, z8, z9, z10, z11, z12, z13, z14, z15, z16, z17, z18, z19, z20, z21, z22, z23, z24, z25, bi14, 2 ^ np - 1, (by omega), (by omega), (by first | omega | exact ev_lt hnp), (ofl_y hc3 (F := (fun l => ARL (YI B5 B6 (INL li0 wo0 de0 su0 B4 B5 B6 bi14 (nI (2 ^ np - 1)) ag0 lim0 lam0 l)) (INL li0 wo0 de0 su0 B4 B5 B6 bi14 (nI (2 ^ np - 1)) ag0 lim0 lam0 l) p1)) elj (by omega) (by unfold ARL; rw [if_pos c34])), rfl⟩
    · skip
      refine lv_iload_n hx hb dX7_ringless_30 rfl (lv_at hl 0 rfl) ?_
      refine lv_goto (tgt := 38) hx hb dX7_ringless_31 (by decide) ?_
      refine k_iret (u := [(oX7 x x0 x1 x2 x3 x4 x5), (oX4 x1 x0 s1 s2 (nI (2 ^ np - 1)) bi14 s5 s6 s7 s8 s9 s10 s11 (nI z20) (nI z21)), (oX0 x0 b0 b1 b2 b3 b4 b5 b6 b7 b8 b9 b10 b11 (nI np) (nI nl) bi14), (oX6 s1 w0 w1 w2 w3 w4 (nI z24) z22 (nI z23) w8), (oX2 s2 d0 d1 d2), (aIc cI b0 8 B0), (aIc cI b1 8 B1), (aIc cI b2 8 B2), (aIc cI b3 8 B3), (aIc cI b4 8 B4), (aIc cI b6 8 B6), (aIc cI b8 64 B8), (aIc cI b10 10 B10), (aIc cI b11 10 B11), (aIc cI s5 8 z5), (aIc cI s6 8 z6), (aIc cI s7 8 z7), (aIc cI s8 8 z8), (aIc cI s9 8 z9), (aIc cI s10 8 z10), (aIc cI s11 8 z11), (aIc cI w0 8 z25), (aIc cI w1 8 z12), (aIc cI w2 8 z13), (aIc cI w3 8 z14), (aIc cI w4 8 z15), (aIc cI w8 8 z16), (aIc cI d0 8 z17), (aIc cI d1 8 z18), (aJc cJ d2 8 z19), (aIc cI b5 8 B5)]) hx hb hr hlk hP hD hS dX7_ringless_38 ?_
      exact ⟨z5, z6, z7, z8, z9, z10, z11, z12, z13, z14, z15, z16, z17, z18, z19, z20, z21, z22, z23, z24, z25, bi14, 2 ^ np - 1, (by omega), (by omega), (by first | omega | exact ev_lt hnp), (ofl_y hc3 (F := (fun l => ARL (YI B5 B6 (INL li0 wo0 de0 su0 B4 B5 B6 bi14 (nI (2 ^ np - 1)) ag0 lim0 lam0 l)) (INL li0 wo0 de0 su0 B4 B5 B6 bi14 (nI (2 ^ np - 1)) ag0 lim0 lam0 l) p1)) elj (by omega) (by unfold ARL; rw [if_neg c34])), rfl⟩
  · skip
    have hc3 : ¬ (0 ≤ p0 ∧ p0 ≤ (nI nl) - 1) := bz_0 hw2 c3
    refine lv_iconst (v := (-1)) hx hb dX7_ringless_8 (by decide) ?_
    refine k_iret (u := [(oX7 x x0 x1 x2 x3 x4 x5), (oX4 x1 x0 s1 s2 (nI pn) si4 s5 s6 s7 s8 s9 s10 s11 (nI tt0) (nI at0)), (oX0 x0 b0 b1 b2 b3 b4 b5 b6 b7 b8 b9 b10 b11 (nI np) (nI nl) bi14), (oX6 s1 w0 w1 w2 w3 w4 (nI wn) wi6 (nI lv) w8), (oX2 s2 d0 d1 d2), (aIc cI b0 8 B0), (aIc cI b1 8 B1), (aIc cI b2 8 B2), (aIc cI b3 8 B3), (aIc cI b4 8 B4), (aIc cI b6 8 B6), (aIc cI b8 64 B8), (aIc cI b10 10 B10), (aIc cI b11 10 B11), (aIc cI s5 8 S5), (aIc cI s6 8 S6), (aIc cI s7 8 S7), (aIc cI s8 8 S8), (aIc cI s9 8 S9), (aIc cI s10 8 S10), (aIc cI s11 8 S11), (aIc cI w0 8 W0), (aIc cI w1 8 W1), (aIc cI w2 8 W2), (aIc cI w3 8 W3), (aIc cI w4 8 W4), (aIc cI w8 8 W8), (aIc cI d0 8 D0), (aIc cI d1 8 D1), (aJc cJ d2 8 D2), (aIc cI b5 8 B5)]) hx hb hr hlk hP hD hS dX7_ringless_9 ?_
    exact ⟨S5, S6, S7, S8, S9, S10, S11, W1, W2, W3, W4, W8, D0, D1, D2, tt0, at0, wi6, lv, wn, W0, si4, pn, (by omega), (by omega), (by first | omega | exact ev_lt hnp), (ofl_n hc3), rfl⟩

