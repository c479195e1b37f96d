set_option maxHeartbeats 4000000 in
set_option maxRecDepth 100000 in
theorem e_X6_findLevels (l : Launch) (D : va_G) (cI cJ : ClassId) (sz : Nat) (s1 w0 w1 w2 w3 w4 w8 wn lv : Nat) (wi6 : Int32) (W0 W1 W2 W3 W4 Y0 KI0 : Nat → Int32) (hwn : wn < 256) (hlv : lv ≤ 8) (hY : ∀ k, k < 8 → W1 k = Y0 k) (hR : ∀ k, k < 8 → W2 k = RIN (clo Y0 8) k) (hyw : ∀ k, k < 8 → isw8 (Y0 k)) (hyi : ∀ p q, p < 8 → q < 8 → bt (Y0 p) q = true → bt (nI wn) q = true) (hki : ∀ k, k < 8 → W0 k = KI0 k) : Met l yX6_findLevels wtX6_findLevels { frames := 1, cells := 0, slots := 0, locals := 23 } (cPc D cI cJ [.ref s1] sz [(oX6 s1 w0 w1 w2 w3 w4 (nI wn) wi6 (nI lv) w8), (aIc cI w0 8 W0), (aIc cI w1 8 W1), (aIc cI w2 8 W2), (aIc cI w3 8 W3), (aIc cI w4 8 W4)]) (cQv D (fun u => ∃ (W3p W4p : Nat → Int32) (wi6p : Int32) (lvp : Nat), (lvp ≤ 8) ∧ (LD (nI wn) (TT Y0) (KE KI0) W3p wi6p lvp) ∧ (∀ j, j < lvp → W4p j = ORS (fun p => bt (nI wn) p && decide (LVL (TT Y0) p = j)) 8) ∧ u = [(oX6 s1 w0 w1 w2 w3 w4 (nI wn) wi6p (nI lvp) w8), (aIc cI w0 8 W0), (aIc cI w1 8 W1), (aIc cI w2 8 W2), (aIc cI w3 8 W3p), (aIc cI w4 8 W4p)]) (va_A [(oX6 s1 w0 w1 w2 w3 w4 (nI wn) wi6 (nI lv) w8), (aIc cI w0 8 W0), (aIc cI w1 8 W1), (aIc cI w2 8 W2), (aIc cI w3 8 W3), (aIc cI w4 8 W4)] sz)) 0 0 (va_A [(oX6 s1 w0 w1 w2 w3 w4 (nI wn) wi6 (nI lv) w8), (aIc cI w0 8 W0), (aIc cI w1 8 W1), (aIc cI w2 8 W2), (aIc cI w3 8 W3), (aIc cI w4 8 W4)] sz) := by
  refine k_ofW (Qc := cQv D (fun u => ∃ (W3p W4p : Nat → Int32) (wi6p : Int32) (lvp : Nat), (lvp ≤ 8) ∧ (LD (nI wn) (TT Y0) (KE KI0) W3p wi6p lvp) ∧ (∀ j, j < lvp → W4p j = ORS (fun p => bt (nI wn) p && decide (LVL (TT Y0) p = j)) 8) ∧ u = [(oX6 s1 w0 w1 w2 w3 w4 (nI wn) wi6p (nI lvp) w8), (aIc cI w0 8 W0), (aIc cI w1 8 W1), (aIc cI w2 8 W2), (aIc cI w3 8 W3p), (aIc cI w4 8 W4p)])) (by decide) rfl (Nat.le_of_ble_eq_true rfl) ?_
  intro p e s m below meth c A ls hx hb hr hml hts hown hlk hnm hsz hE hP hD hS hA hl
  have hown : s.vm.findClass RX6 = some m.cls := hown
  have hiX6 : ∀ w ∈ u_ws RX6 TX6 9, w ∈ wtX6_findLevels := fun w h => List.mem_cons_of_mem _ (iuX6 w h)
  have hl : lv_has ls 4 [(0, .ref s1)] := hl
  have HR := tt_rk Y0
  have htw : ∀ p, p < 8 → isw8 (TT Y0 p) := fun p hp => tt_w8 (hyw p hp)
  have hti : ∀ p q, p < 8 → q < 8 → bt (TT Y0 p) q = true → bt (nI wn) q = true := fun p q hp hq h => hyi p q hp hq (tt_y hq h)
  have hw9 : isw8 (nI wn) := ⟨wn, hwn, rfl⟩
  refine lv_aload_n hx hb dX6_findLevels_0 rfl (lv_at hl 0 rfl) ?_
  refine va_get (D := D) (ci := 6) (v := .ref w3) (C := RX6) (T := TX6) (N := 9) hx hb hts hiX6 hown hE.1 hP 0 rfl rfl 3 (by decide) (hts _ (List.mem_cons_of_mem _ wd_82)) (fun _ h9 => h9) rfl dX6_findLevels_1 ?_
  refine lv_iconst (v := (-1)) hx hb dX6_findLevels_4 (by decide) ?_
  refine k_v (va_runS (As := [.ref w3, .int (-1)]) (rest := []) ⟨hx, hb, hml, hown, hts⟩ (m_J7_fill l D cI cJ (s.heap).size w3 (-1) 8 W3 (by decide)) (va_cwS 2 hts gX6_findLevels_J7_fill_53178 rfl rfl rfl (by decide +kernel) ⟨Nat.le_of_ble_eq_true rfl, Nat.le_of_ble_eq_true rfl⟩) (k_pre hE hP hD [4] (by decide +kernel) rfl) rfl rfl hl.1 rfl (lv_room (Nat.le_of_ble_eq_true rfl)) dX6_findLevels_5 ⟨Nat.le_of_ble_eq_true rfl, Nat.le_of_ble_eq_true rfl⟩) hP hD hS hA [4] [0, 1, 2, 3, 5] rfl (wr := [(oX6 s1 w0 w1 w2 w3 w4 (nI wn) wi6 (nI lv) w8), (aIc cI w0 8 W0), (aIc cI w1 8 W1), (aIc cI w2 8 W2), (aIc cI w4 8 W4)]) rfl (by decide +kernel) (by decide +kernel) (fun u H locs hw1 hP hD hS => ?_)
  subst hw1
  refine k_re (w := [(oX6 s1 w0 w1 w2 w3 w4 (nI wn) wi6 (nI lv) w8), (aIc cI w0 8 W0), (aIc cI w1 8 W1), (aIc cI w2 8 W2), (aIc cI w4 8 W4), (aIc cI w3 8 (fl 8 (-1) W3))]) hP hD (fun hP hD => ?_)
  refine lv_aload_n hx hb dX6_findLevels_8 rfl (lv_at hl 0 rfl) ?_
  refine lv_iconst (v := 0) hx hb dX6_findLevels_9 (by decide) ?_
  refine va_put (D := D) (ci := 6) (v := .int 0) (ty := .int) (C := RX6) (T := TX6) (N := 9) hx hb hts hiX6 tyX6 tyX6_ok nmX6 hown hE.1 hP hD hS 0 rfl rfl 6 (by decide) (hts _ (List.mem_cons_of_mem _ wd_342)) (fun _ h9 => h9) rfl (by decide +kernel) rfl rfl (Nat.le_of_ble_eq_true rfl) dX6_findLevels_10 (fun H locs hP hD hS => ?_)
  refine k_re (w := [(oX6 s1 w0 w1 w2 w3 w4 (nI wn) 0 (nI lv) w8), (aIc cI w0 8 W0), (aIc cI w1 8 W1), (aIc cI w2 8 W2), (aIc cI w4 8 W4), (aIc cI w3 8 (fl 8 (-1) W3))]) hP hD (fun hP hD => ?_)
  refine lv_aload_n hx hb dX6_findLevels_13 rfl (lv_at hl 0 rfl) ?_
  refine lv_iconst (v := 0) hx hb dX6_findLevels_14 (by decide) ?_
  refine va_put (D := D) (ci := 6) (v := .int 0) (ty := .int) (C := RX6) (T := TX6) (N := 9) hx hb hts hiX6 tyX6 tyX6_ok nmX6 hown hE.1 hP hD hS 0 rfl rfl 7 (by decide) (hts _ (List.mem_cons_of_mem _ wd_343)) (fun _ h9 => h9) rfl (by decide +kernel) rfl rfl (Nat.le_of_ble_eq_true rfl) dX6_findLevels_15 (fun H locs hP hD hS => ?_)
  refine k_re (w := [(oX6 s1 w0 w1 w2 w3 w4 (nI wn) 0 0 w8), (aIc cI w0 8 W0), (aIc cI w1 8 W1), (aIc cI w2 8 W2), (aIc cI w4 8 W4), (aIc cI w3 8 (fl 8 (-1) W3))]) hP hD (fun hP hD => ?_)
  refine lv_iconst (v := 0) hx hb dX6_findLevels_18 (by decide) ?_
  refine lv_istore_n (lv' := [(1, .int 0), (0, .ref s1)]) hx hb dX6_findLevels_19 rfl hl (by decide) rfl (fun ls hl => ?_)
  have J20 : ∀ (zz : Nat) (h1_20 : Int32) (a_w3_20 a_w4_20 : Nat → Int32) (f6_6_20 : Int32) (f6_7_20 : Nat), (FO (nI wn) (TT Y0) (KE KI0) h1_20 a_w3_20 f6_6_20 a_w4_20 f6_7_20) → (f6_7_20 ≤ 8) → (f6_7_20 = 0 ∨ ∃ p, p < 8 ∧ bt (nI wn) p = true ∧ f6_7_20 ≤ LVL (TT Y0) p + 1) → 8 - f6_7_20 < zz → ∀ (H : Heap) (locs : List Loc) (ls : Array Slot), va_P D vwCl [(oX6 s1 w0 w1 w2 w3 w4 (nI wn) f6_6_20 (nI f6_7_20) w8), (aIc cI w0 8 W0), (aIc cI w1 8 W1), (aIc cI w2 8 W2), (aIc cI w4 8 a_w4_20), (aIc cI w3 8 a_w3_20)] H → va_D A [(oX6 s1 w0 w1 w2 w3 w4 (nI wn) f6_6_20 (nI f6_7_20) w8), (aIc cI w0 8 W0), (aIc cI w1 8 W1), (aIc cI w2 8 W2), (aIc cI w4 8 a_w4_20), (aIc cI w3 8 a_w3_20)] → va_S A s.heap H locs → lv_has ls 4 [(1, .int h1_20), (0, .ref s1)] → W p l e { frames := 1, cells := 0, slots := 0, locals := 23 } s m [.ref s1].toArray below meth c H locs 0 0 (MQ below (cQv D (fun u => ∃ (W3p W4p : Nat → Int32) (wi6p : Int32) (lvp : Nat), (lvp ≤ 8) ∧ (LD (nI wn) (TT Y0) (KE KI0) W3p wi6p lvp) ∧ (∀ j, j < lvp → W4p j = ORS (fun p => bt (nI wn) p && decide (LVL (TT Y0) p = j)) 8) ∧ u = [(oX6 s1 w0 w1 w2 w3 w4 (nI wn) wi6p (nI lvp) w8), (aIc cI w0 8 W0), (aIc cI w1 8 W1), (aIc cI w2 8 W2), (aIc cI w3 8 W3p), (aIc cI w4 8 W4p)]) A) [.ref s1].toArray s 0 0 A) (F0 m 20 ls []) := by
    intro zz
    induction zz with
    | zero => intro h1_20 a_w3_20 a_w4_20 f6_6_20 f6_7_20 _ _ _; exact fun h => absurd h (Nat.not_lt_zero _)
    | succ zz ih20 =>
      intro h1_20 a_w3_20 a_w4_20 f6_6_20 f6_7_20 hFO_20 hl8_20 hlow_20 hmu20 H locs ls hP hD hS hl
      refine lv_iload_n hx hb dX6_findLevels_20 rfl (lv_at hl 0 rfl) ?_
      refine lv_aload_n hx hb dX6_findLevels_21 rfl (lv_at hl 1 rfl) ?_
      refine va_get (D := D) (ci := 6) (v := .int (nI wn)) (C := RX6) (T := TX6) (N := 9) hx hb hts hiX6 hown hE.1 hP 0 rfl rfl 5 (by decide) (hts _ (List.mem_cons_of_mem _ wd_333)) (fun _ h9 => h9) rfl dX6_findLevels_22 ?_
      refine lv_icmp_eq (tgt := 160) hx hb dX6_findLevels_25 (by decide) (fun c2 => ?_) (fun c2 => ?_)
      · skip
        refine k_vret (u := [(oX6 s1 w0 w1 w2 w3 w4 (nI wn) f6_6_20 (nI f6_7_20) w8), (aIc cI w0 8 W0), (aIc cI w1 8 W1), (aIc cI w2 8 W2), (aIc cI w3 8 a_w3_20), (aIc cI w4 8 a_w4_20)]) hx hb hr hlk (k_sub hP [0, 1, 2, 3, 5, 4] rfl) (hD.sub [0, 1, 2, 3, 5, 4] (by decide +kernel) rfl) hS dX6_findLevels_160 ?_
        exact ⟨a_w3_20, a_w4_20, f6_6_20, f6_7_20, hl8_20, (fo_end HR hw9 hl8_20 hFO_20 hlow_20 (Or.inl c2)).1, (fo_end HR hw9 hl8_20 hFO_20 hlow_20 (Or.inl c2)).2, rfl⟩
      · skip
        refine lv_aload_n hx hb dX6_findLevels_28 rfl (lv_at hl 1 rfl) ?_
        refine va_get (D := D) (ci := 6) (v := .int (nI f6_7_20)) (C := RX6) (T := TX6) (N := 9) hx hb hts hiX6 hown hE.1 hP 0 rfl rfl 7 (by decide) (hts _ (List.mem_cons_of_mem _ wd_343)) (fun _ h9 => h9) rfl dX6_findLevels_29 ?_
        refine lv_bipush (v := 8) hx hb dX6_findLevels_32 (by decide) ?_
        refine lv_icmp_ge (tgt := 160) hx hb dX6_findLevels_34 (by decide) (fun c3 => ?_) (fun c3 => ?_)
        · skip
          have nc3 : 8 ≤ f6_7_20 := (nI_leI (a := 8) (b := f6_7_20) (by omega) (by omega)).mp c3
          refine k_vret (u := [(oX6 s1 w0 w1 w2 w3 w4 (nI wn) f6_6_20 (nI f6_7_20) w8), (aIc cI w0 8 W0), (aIc cI w1 8 W1), (aIc cI w2 8 W2), (aIc cI w3 8 a_w3_20), (aIc cI w4 8 a_w4_20)]) hx hb hr hlk (k_sub hP [0, 1, 2, 3, 5, 4] rfl) (hD.sub [0, 1, 2, 3, 5, 4] (by decide +kernel) rfl) hS dX6_findLevels_160 ?_
          exact ⟨a_w3_20, a_w4_20, f6_6_20, f6_7_20, hl8_20, (fo_end HR hw9 hl8_20 hFO_20 hlow_20 (Or.inr (by omega))).1, (fo_end HR hw9 hl8_20 hFO_20 hlow_20 (Or.inr (by omega))).2, rfl⟩
        · skip
          have nc3 : ¬ 8 ≤ f6_7_20 := fun q9 => c3 ((nI_leI (a := 8) (b := f6_7_20) (by omega) (by omega)).mpr q9)
          refine lv_iconst (v := 0) hx hb dX6_findLevels_37 (by decide) ?_
          refine lv_istore_n (lv' := [(2, .int 0), (1, .int h1_20), (0, .ref s1)]) hx hb dX6_findLevels_38 rfl hl (by decide) rfl (fun ls hl => ?_)
          refine lv_iconst (v := 0) hx hb dX6_findLevels_39 (by decide) ?_
          refine lv_istore_n (lv' := [(3, .int 0), (2, .int 0), (1, .int h1_20), (0, .ref s1)]) hx hb dX6_findLevels_40 rfl hl (by decide) rfl (fun ls hl => ?_)
          have J41 : ∀ (zz : Nat) (j41 : Nat) (h2_41 : Int32) (a_w3_41 : Nat → Int32) (f6_6_41 : Int32), (j41 ≤ 8) → (FN (nI wn) (TT Y0) (KE KI0) h2_41 a_w3_41 f6_6_41 f6_7_20 j41) → (8 - j41) < zz → ∀ (H : Heap) (locs : List Loc) (ls : Array Slot), va_P D vwCl [(oX6 s1 w0 w1 w2 w3 w4 (nI wn) f6_6_41 (nI f6_7_20) w8), (aIc cI w0 8 W0), (aIc cI w1 8 W1), (aIc cI w2 8 W2), (aIc cI w4 8 a_w4_20), (aIc cI w3 8 a_w3_41)] H → va_D A [(oX6 s1 w0 w1 w2 w3 w4 (nI wn) f6_6_41 (nI f6_7_20) w8), (aIc cI w0 8 W0), (aIc cI w1 8 W1), (aIc cI w2 8 W2), (aIc cI w4 8 a_w4_20), (aIc cI w3 8 a_w3_41)] → va_S A s.heap H locs → lv_has ls 4 [(3, .int (nI j41)), (2, .int h2_41), (1, .int h1_20), (0, .ref s1)] → W p l e { frames := 1, cells := 0, slots := 0, locals := 23 } s m [.ref s1].toArray below meth c H locs 0 0 (MQ below (cQv D (fun u => ∃ (W3p W4p : Nat → Int32) (wi6p : Int32) (lvp : Nat), (lvp ≤ 8) ∧ (LD (nI wn) (TT Y0) (KE KI0) W3p wi6p lvp) ∧ (∀ j, j < lvp → W4p j = ORS (fun p => bt (nI wn) p && decide (LVL (TT Y0) p = j)) 8) ∧ u = [(oX6 s1 w0 w1 w2 w3 w4 (nI wn) wi6p (nI lvp) w8), (aIc cI w0 8 W0), (aIc cI w1 8 W1), (aIc cI w2 8 W2), (aIc cI w3 8 W3p), (aIc cI w4 8 W4p)]) A) [.ref s1].toArray s 0 0 A) (F0 m 41 ls []) := by
            intro zz
            induction zz with
            | zero => intro j41 h2_41 a_w3_41 f6_6_41 _ _; exact fun h => absurd h (Nat.not_lt_zero _)
            | succ zz ih41 =>
              intro j41 h2_41 a_w3_41 f6_6_41 hc3_41 hFN_41 hmu41 H locs ls hP hD hS hl
              refine lv_iload_n hx hb dX6_findLevels_41 rfl (lv_at hl 0 rfl) ?_
              refine lv_bipush (v := 8) hx hb dX6_findLevels_42 (by decide) ?_
              refine lv_icmp_ge (tgt := 133) hx hb dX6_findLevels_44 (by decide) (fun c4 => ?_) (fun c4 => ?_)
              · skip
                have nc4 : 8 ≤ j41 := (nI_leI (a := 8) (b := j41) (by omega) (by omega)).mp c4
                refine lv_aload_n hx hb dX6_findLevels_133 rfl (lv_at hl 3 rfl) ?_
                refine va_get (D := D) (ci := 6) (v := .ref w4) (C := RX6) (T := TX6) (N := 9) hx hb hts hiX6 hown hE.1 hP 0 rfl rfl 4 (by decide) (hts _ (List.mem_cons_of_mem _ wd_83)) (fun _ h9 => h9) rfl dX6_findLevels_134 ?_
                refine lv_aload_n hx hb dX6_findLevels_137 rfl (lv_at hl 3 rfl) ?_
                refine va_get (D := D) (ci := 6) (v := .int (nI f6_7_20)) (C := RX6) (T := TX6) (N := 9) hx hb hts hiX6 hown hE.1 hP 0 rfl rfl 7 (by decide) (hts _ (List.mem_cons_of_mem _ wd_343)) (fun _ h9 => h9) rfl dX6_findLevels_138 ?_
                refine lv_iload_n hx hb dX6_findLevels_141 rfl (lv_at hl 1 rfl) ?_
                refine va_iast hx hb hE.1 hP hD hS 4 0 rfl rfl (vp_in_nI (n := f6_7_20) (by omega) (by decide)) dX6_findLevels_142 (fun H locs hP hD hS => ?_)
                refine k_re (w := [(oX6 s1 w0 w1 w2 w3 w4 (nI wn) f6_6_41 (nI f6_7_20) w8), (aIc cI w0 8 W0), (aIc cI w1 8 W1), (aIc cI w2 8 W2), (aIc cI w4 8 (upd a_w4_20 (Int32.toNatClampNeg (nI f6_7_20)) h2_41)), (aIc cI w3 8 a_w3_41)]) hP hD (fun hP hD => ?_)
                refine lv_aload_n hx hb dX6_findLevels_143 rfl (lv_at hl 3 rfl) ?_
                refine lv_dup hx hb dX6_findLevels_144 rfl ?_
                refine va_get (D := D) (ci := 6) (v := .int (nI f6_7_20)) (C := RX6) (T := TX6) (N := 9) hx hb hts hiX6 hown hE.1 hP 0 rfl rfl 7 (by decide) (hts _ (List.mem_cons_of_mem _ wd_343)) (fun _ h9 => h9) rfl dX6_findLevels_145 ?_
                refine lv_iconst (v := 1) hx hb dX6_findLevels_148 (by decide) ?_
                refine lv_iadd hx hb dX6_findLevels_149 ?_
                refine lv_topi (fun v5 ev5 => ?_)
                obtain rfl : v5 = (nI (f6_7_20 + 1)) := by rw [ev5]; exact nI_add f6_7_20 1
                refine va_put (D := D) (ci := 6) (v := .int (nI (f6_7_20 + 1))) (ty := .int) (C := RX6) (T := TX6) (N := 9) hx hb hts hiX6 tyX6 tyX6_ok nmX6 hown hE.1 hP hD hS 0 rfl rfl 7 (by decide) (hts _ (List.mem_cons_of_mem _ wd_343)) (fun _ h9 => h9) rfl (by decide +kernel) rfl rfl (Nat.le_of_ble_eq_true rfl) dX6_findLevels_150 (fun H locs hP hD hS => ?_)
                refine k_re (w := [(oX6 s1 w0 w1 w2 w3 w4 (nI wn) f6_6_41 (nI (f6_7_20 + 1)) w8), (aIc cI w0 8 W0), (aIc cI w1 8 W1), (aIc cI w2 8 W2), (aIc cI w4 8 (upd a_w4_20 (Int32.toNatClampNeg (nI f6_7_20)) h2_41)), (aIc cI w3 8 a_w3_41)]) hP hD (fun hP hD => ?_)
                refine lv_iload_n hx hb dX6_findLevels_153 rfl (lv_at hl 2 rfl) ?_
                refine lv_iload_n hx hb dX6_findLevels_154 rfl (lv_at hl 1 rfl) ?_
                refine lv_ior hx hb dX6_findLevels_155 ?_
                refine lv_topi (fun v6 ev6 => ?_)
                refine lv_istore_n (lv' := [(1, .int v6), (3, .int (nI j41)), (2, .int h2_41), (0, .ref s1)]) hx hb dX6_findLevels_156 rfl hl (by decide) rfl (fun ls hl => ?_)
                refine lv_goto (tgt := 20) hx hb dX6_findLevels_157 (by decide) ?_
                exact ih20 v6 a_w3_41 (upd a_w4_20 (Int32.toNatClampNeg (nI f6_7_20)) h2_41) f6_6_41 (f6_7_20 + 1) (fo_s (by omega) hFO_20 (by obtain rfl : j41 = 8 := (by omega); exact hFN_41) ev6) (by omega) (Or.inr (fo_low hw9 hFO_20 c2)) (by omega) _ _ _ hP hD hS (lv_sub hl [0, 3] rfl)
              · skip
                have nc4 : ¬ 8 ≤ j41 := fun q9 => c4 ((nI_leI (a := 8) (b := j41) (by omega) (by omega)).mpr q9)
                refine lv_aload_n hx hb dX6_findLevels_47 rfl (lv_at hl 3 rfl) ?_
                refine va_get (D := D) (ci := 6) (v := .int (nI wn)) (C := RX6) (T := TX6) (N := 9) hx hb hts hiX6 hown hE.1 hP 0 rfl rfl 5 (by decide) (hts _ (List.mem_cons_of_mem _ wd_333)) (fun _ h9 => h9) rfl dX6_findLevels_48 ?_
                refine lv_iload_n hx hb dX6_findLevels_51 rfl (lv_at hl 2 rfl) ?_
                refine lv_iconst (v := (-1)) hx hb dX6_findLevels_52 (by decide) ?_
                refine lv_ixor hx hb dX6_findLevels_53 ?_
                refine lv_topi (fun v7 ev7 => ?_)
                refine lv_iand hx hb dX6_findLevels_54 ?_
                refine lv_topi (fun v8 ev8 => ?_)
                refine lv_iload_n hx hb dX6_findLevels_55 rfl (lv_at hl 0 rfl) ?_
                refine k_iS (va_runSN (As := [.int v8, .int (nI j41)]) (rest := []) ⟨hx, hb, hml, hown, hts⟩ (m_X7_has l D cI cJ H.size v8 (nI j41)) ⟨va_cnB 2 hts gX6_findLevels_X7_has_n34 rfl rfl rfl (nwk6 hE.2) (hts _ (List.mem_cons_of_mem _ wd_2)) (by decide +kernel) ⟨Nat.le_of_ble_eq_true rfl, Nat.le_of_ble_eq_true rfl⟩, (hts _ (List.mem_cons_of_mem _ wd_311)), trivial⟩ (k_pre hE hP hD [] (by decide +kernel) rfl) rfl rfl hl.1 rfl (lv_room (Nat.le_of_ble_eq_true rfl)) dX6_findLevels_56 ⟨Nat.le_of_ble_eq_true rfl, Nat.le_of_ble_eq_true rfl⟩) hP hD hS hA [] rfl (fun _ _ h9 => h9.2) (fun r9 H locs hw10 hP hD hS => ?_)
                obtain ⟨hw10, -⟩ := hw10
                refine lv_if_eq (tgt := 127) hx hb dX6_findLevels_59 (by decide) (fun c11 => ?_) (fun c11 => ?_)
                · skip
                  have hc11 : ¬ (¬ (v8 >>> ((nI j41) &&& 31)) &&& 1 = 0) := bz_0 hw10 c11
                  refine lv_iinc (v := (nI (j41 + 1))) (lv' := [(3, .int (nI (j41 + 1))), (2, .int h2_41), (1, .int h1_20), (0, .ref s1)]) hx hb dX6_findLevels_127 hl (k := 0) rfl (nI_1 _) (by decide) rfl (fun ls hl => ?_)
                  refine lv_goto (tgt := 41) hx hb dX6_findLevels_130 (by decide) ?_
                  have hfc := fo_c HR hFO_20 (p := j41) (by omega) (htw j41 (by omega)) (fun q hq => hti j41 q (by omega) hq)
                  have hA9 : ¬ bt ((nI wn) &&& (h1_20 ^^^ (-1))) j41 = true := fun q9 => hc11 ((bt_nz (by omega)).mpr (by rw [ev8, ev7]; exact q9))
                  exact ih41 (j41 + 1) h2_41 a_w3_41 f6_6_41 (by omega) (fn_no hFN_41 (by omega) (fun z9 => hA9 (hfc.mpr z9).1)) (by omega) _ _ _ hP hD hS (lv_sub hl [0, 1, 2, 3] rfl)
                · skip
                  have hc11 : ¬ (v8 >>> ((nI j41) &&& 31)) &&& 1 = 0 := bz_1 hw10 c11
                  refine lv_aload_n hx hb dX6_findLevels_62 rfl (lv_at hl 3 rfl) ?_
                  refine lv_iload_n hx hb dX6_findLevels_63 rfl (lv_at hl 0 rfl) ?_
                  refine k_iS (va_runV (As := [.int (nI j41)]) (rest := []) ⟨hx, hb, hml, hown, hts⟩ (e_X6_trueYields l D cI cJ H.size s1 w0 w1 w2 w3 w4 w8 j41 wn f6_7_20 f6_6_41 W1 W2 Y0 (by omega) hY hR) (cwV 1 hts gX6_findLevels_X6_trueYields rfl rfl rfl (by decide +kernel) ⟨Nat.le_of_ble_eq_true rfl, Nat.le_of_ble_eq_true rfl⟩) (k_preV hE hP hD [0, 2, 3] (by decide +kernel) rfl 0 rfl rfl) rfl rfl hl.1 rfl (lv_room (Nat.le_of_ble_eq_true rfl)) dX6_findLevels_64 ⟨Nat.le_of_ble_eq_true rfl, Nat.le_of_ble_eq_true rfl⟩) hP hD hS hA [0, 2, 3] rfl (fun _ _ ⟨_, h9⟩ => h9) (fun r12 H locs hw13 hP hD hS => ?_)
                  obtain ⟨rfl, -⟩ := hw13
                  refine lv_iload_n hx hb dX6_findLevels_67 rfl (lv_at hl 2 rfl) ?_
                  refine lv_iconst (v := (-1)) hx hb dX6_findLevels_68 (by decide) ?_
                  refine lv_ixor hx hb dX6_findLevels_69 ?_
                  refine lv_topi (fun v14 ev14 => ?_)
                  refine lv_iand hx hb dX6_findLevels_70 ?_
                  refine lv_topi (fun v15 ev15 => ?_)
                  refine lv_if_ne (tgt := 127) hx hb dX6_findLevels_71 (by decide) (fun c16 => ?_) (fun c16 => ?_)
                  · skip
                    refine lv_iinc (v := (nI (j41 + 1))) (lv' := [(3, .int (nI (j41 + 1))), (2, .int h2_41), (1, .int h1_20), (0, .ref s1)]) hx hb dX6_findLevels_127 hl (k := 0) rfl (nI_1 _) (by decide) rfl (fun ls hl => ?_)
                    refine lv_goto (tgt := 41) hx hb dX6_findLevels_130 (by decide) ?_
                    have hfc := fo_c HR hFO_20 (p := j41) (by omega) (htw j41 (by omega)) (fun q hq => hti j41 q (by omega) hq)
                    have hA9 : bt ((nI wn) &&& (h1_20 ^^^ (-1))) j41 = true := by rw [← ev7, ← ev8]; exact (bt_nz (by omega)).mp hc11
                    exact ih41 (j41 + 1) h2_41 a_w3_41 f6_6_41 (by omega) (fn_no hFN_41 (by omega) (fun z9 => c16 (by rw [ev15, ev14]; exact (hfc.mpr z9).2))) (by omega) _ _ _ hP hD hS (lv_sub hl [0, 1, 2, 3] rfl)
                  · skip
                    have hfc := fo_c HR hFO_20 (p := j41) (by omega) (htw j41 (by omega)) (fun q hq => hti j41 q (by omega) hq)
                    have hA9 : bt ((nI wn) &&& (h1_20 ^^^ (-1))) j41 = true := by rw [← ev7, ← ev8]; exact (bt_nz (by omega)).mp hc11
                    have hyes := hfc.mp ⟨hA9, by rw [← ev14, ← ev15]; exact c16⟩
                    have hfo := fn_out HR hFN_41 (by omega) (htw j41 (by omega)) (fun q hq => hti j41 q (by omega) hq) hyes
                    refine lv_iload_n hx hb dX6_findLevels_74 rfl (lv_at hl 1 rfl) ?_
                    refine lv_iconst (v := 1) hx hb dX6_findLevels_75 (by decide) ?_
                    refine lv_iload_n hx hb dX6_findLevels_76 rfl (lv_at hl 0 rfl) ?_
                    refine lv_ishl hx hb dX6_findLevels_77 ?_
                    refine lv_topi (fun v17 ev17 => ?_)
                    refine lv_ior hx hb dX6_findLevels_78 ?_
                    refine lv_topi (fun v18 ev18 => ?_)
                    refine lv_istore_n (lv' := [(2, .int v18), (3, .int (nI j41)), (1, .int h1_20), (0, .ref s1)]) hx hb dX6_findLevels_79 rfl hl (by decide) rfl (fun ls hl => ?_)
                    refine lv_aload_n hx hb dX6_findLevels_80 rfl (lv_at hl 3 rfl) ?_
                    refine va_get (D := D) (ci := 6) (v := .ref w3) (C := RX6) (T := TX6) (N := 9) hx hb hts hiX6 hown hE.1 hP 0 rfl rfl 3 (by decide) (hts _ (List.mem_cons_of_mem _ wd_82)) (fun _ h9 => h9) rfl dX6_findLevels_81 ?_
                    refine lv_iload_n hx hb dX6_findLevels_84 rfl (lv_at hl 1 rfl) ?_
                    refine lv_aload_n hx hb dX6_findLevels_85 rfl (lv_at hl 3 rfl) ?_
                    refine va_get (D := D) (ci := 6) (v := .int (nI f6_7_20)) (C := RX6) (T := TX6) (N := 9) hx hb hts hiX6 hown hE.1 hP 0 rfl rfl 7 (by decide) (hts _ (List.mem_cons_of_mem _ wd_343)) (fun _ h9 => h9) rfl dX6_findLevels_86 ?_
                    refine va_iast hx hb hE.1 hP hD hS 5 0 rfl rfl (vp_in_nI (n := j41) (by omega) (by decide)) dX6_findLevels_89 (fun H locs hP hD hS => ?_)
                    refine k_re (w := [(oX6 s1 w0 w1 w2 w3 w4 (nI wn) f6_6_41 (nI f6_7_20) w8), (aIc cI w0 8 W0), (aIc cI w1 8 W1), (aIc cI w2 8 W2), (aIc cI w4 8 a_w4_20), (aIc cI w3 8 (upd a_w3_41 (Int32.toNatClampNeg (nI j41)) (nI f6_7_20)))]) hP hD (fun hP hD => ?_)
                    refine lv_aload_n hx hb dX6_findLevels_90 rfl (lv_at hl 3 rfl) ?_
                    refine va_get (D := D) (ci := 6) (v := .ref w0) (C := RX6) (T := TX6) (N := 9) hx hb hts hiX6 hown hE.1 hP 0 rfl rfl 0 (by decide) (hts _ (List.mem_cons_of_mem _ wd_79)) (fun _ h9 => h9) rfl dX6_findLevels_91 ?_
                    refine lv_iload_n hx hb dX6_findLevels_94 rfl (lv_at hl 1 rfl) ?_
                    refine va_iald hx hb hE.1 hP 1 0 rfl rfl (vp_in_nI (n := j41) (by omega) (by decide)) dX6_findLevels_95 ?_
                    refine lv_topi (fun v19 ev19 => ?_)
                    refine lv_iconst (v := 3) hx hb dX6_findLevels_96 (by decide) ?_
                    refine lv_icmp_ne (tgt := 127) hx hb dX6_findLevels_97 (by decide) (fun c20 => ?_) (fun c20 => ?_)
                    · skip
                      refine lv_iinc (v := (nI (j41 + 1))) (lv' := [(3, .int (nI (j41 + 1))), (2, .int v18), (1, .int h1_20), (0, .ref s1)]) hx hb dX6_findLevels_127 hl (k := 1) rfl (nI_1 _) (by decide) rfl (fun ls hl => ?_)
                      refine lv_goto (tgt := 41) hx hb dX6_findLevels_130 (by decide) ?_
                      exact ih41 (j41 + 1) v18 (upd a_w3_41 (Int32.toNatClampNeg (nI j41)) (nI f6_7_20)) f6_6_41 (by omega) (fn_yes hFN_41 (by omega) hyes (by rw [ev18, ev17]) (Or.inr ⟨fun z9 => c20 ((ke_t (by omega) ((cl_at (A := W0) (by omega) ev19).trans (hki j41 (by omega)))).mp (hfo.mpr z9).1), rfl⟩)) (by omega) _ _ _ hP hD hS (lv_sub hl [0, 1, 2, 3] rfl)
                    · skip
                      refine lv_aload_n hx hb dX6_findLevels_100 rfl (lv_at hl 3 rfl) ?_
                      refine lv_iload_n hx hb dX6_findLevels_101 rfl (lv_at hl 1 rfl) ?_
                      refine k_iS (va_runV (As := [.int (nI j41)]) (rest := []) ⟨hx, hb, hml, hown, hts⟩ (e_X6_trueYields l D cI cJ H.size s1 w0 w1 w2 w3 w4 w8 j41 wn f6_7_20 f6_6_41 W1 W2 Y0 (by omega) hY hR) (cwV 1 hts gX6_findLevels_X6_trueYields rfl rfl rfl (by decide +kernel) ⟨Nat.le_of_ble_eq_true rfl, Nat.le_of_ble_eq_true rfl⟩) (k_preV hE hP hD [0, 2, 3] (by decide +kernel) rfl 0 rfl rfl) rfl rfl hl.1 rfl (lv_room (Nat.le_of_ble_eq_true rfl)) dX6_findLevels_102 ⟨Nat.le_of_ble_eq_true rfl, Nat.le_of_ble_eq_true rfl⟩) hP hD hS hA [0, 2, 3] rfl (fun _ _ ⟨_, h9⟩ => h9) (fun r21 H locs hw22 hP hD hS => ?_)
                      obtain ⟨rfl, -⟩ := hw22
                      refine lv_aload_n hx hb dX6_findLevels_105 rfl (lv_at hl 3 rfl) ?_
                      refine va_get (D := D) (ci := 6) (v := .int f6_6_41) (C := RX6) (T := TX6) (N := 9) hx hb hts hiX6 hown hE.1 hP 0 rfl rfl 6 (by decide) (hts _ (List.mem_cons_of_mem _ wd_342)) (fun _ h9 => h9) rfl dX6_findLevels_106 ?_
                      refine lv_iconst (v := (-1)) hx hb dX6_findLevels_109 (by decide) ?_
                      refine lv_ixor hx hb dX6_findLevels_110 ?_
                      refine lv_topi (fun v23 ev23 => ?_)
                      refine lv_iand hx hb dX6_findLevels_111 ?_
                      refine lv_topi (fun v24 ev24 => ?_)
                      refine lv_if_eq (tgt := 127) hx hb dX6_findLevels_112 (by decide) (fun c25 => ?_) (fun c25 => ?_)
                      · skip
                        refine lv_iinc (v := (nI (j41 + 1))) (lv' := [(3, .int (nI (j41 + 1))), (2, .int v18), (1, .int h1_20), (0, .ref s1)]) hx hb dX6_findLevels_127 hl (k := 1) rfl (nI_1 _) (by decide) rfl (fun ls hl => ?_)
                        refine lv_goto (tgt := 41) hx hb dX6_findLevels_130 (by decide) ?_
                        exact ih41 (j41 + 1) v18 (upd a_w3_41 (Int32.toNatClampNeg (nI j41)) (nI f6_7_20)) f6_6_41 (by omega) (fn_yes hFN_41 (by omega) hyes (by rw [ev18, ev17]) (Or.inr ⟨fun z9 => (hfo.mpr z9).2 (by rw [← ev23, ← ev24]; exact c25), rfl⟩)) (by omega) _ _ _ hP hD hS (lv_sub hl [0, 1, 2, 3] rfl)
                      · skip
                        refine lv_aload_n hx hb dX6_findLevels_115 rfl (lv_at hl 3 rfl) ?_
                        refine lv_dup hx hb dX6_findLevels_116 rfl ?_
                        refine va_get (D := D) (ci := 6) (v := .int f6_6_41) (C := RX6) (T := TX6) (N := 9) hx hb hts hiX6 hown hE.1 hP 0 rfl rfl 6 (by decide) (hts _ (List.mem_cons_of_mem _ wd_342)) (fun _ h9 => h9) rfl dX6_findLevels_117 ?_
                        refine lv_iconst (v := 1) hx hb dX6_findLevels_120 (by decide) ?_
                        refine lv_iload_n hx hb dX6_findLevels_121 rfl (lv_at hl 1 rfl) ?_
                        refine lv_ishl hx hb dX6_findLevels_122 ?_
                        refine lv_topi (fun v26 ev26 => ?_)
                        refine lv_ior hx hb dX6_findLevels_123 ?_
                        refine lv_topi (fun v27 ev27 => ?_)
                        refine va_put (D := D) (ci := 6) (v := .int v27) (ty := .int) (C := RX6) (T := TX6) (N := 9) hx hb hts hiX6 tyX6 tyX6_ok nmX6 hown hE.1 hP hD hS 0 rfl rfl 6 (by decide) (hts _ (List.mem_cons_of_mem _ wd_342)) (fun _ h9 => h9) rfl (by decide +kernel) rfl rfl (Nat.le_of_ble_eq_true rfl) dX6_findLevels_124 (fun H locs hP hD hS => ?_)
                        refine k_re (w := [(oX6 s1 w0 w1 w2 w3 w4 (nI wn) v27 (nI f6_7_20) w8), (aIc cI w0 8 W0), (aIc cI w1 8 W1), (aIc cI w2 8 W2), (aIc cI w4 8 a_w4_20), (aIc cI w3 8 (upd a_w3_41 (Int32.toNatClampNeg (nI j41)) (nI f6_7_20)))]) hP hD (fun hP hD => ?_)
                        refine lv_iinc (v := (nI (j41 + 1))) (lv' := [(3, .int (nI (j41 + 1))), (2, .int v18), (1, .int h1_20), (0, .ref s1)]) hx hb dX6_findLevels_127 hl (k := 1) rfl (nI_1 _) (by decide) rfl (fun ls hl => ?_)
                        refine lv_goto (tgt := 41) hx hb dX6_findLevels_130 (by decide) ?_
                        exact ih41 (j41 + 1) v18 (upd a_w3_41 (Int32.toNatClampNeg (nI j41)) (nI f6_7_20)) v27 (by omega) (fn_yes hFN_41 (by omega) hyes (by rw [ev18, ev17]) (Or.inl ⟨hfo.mp ⟨(ke_t (by omega) ((cl_at (A := W0) (by omega) ev19).trans (hki j41 (by omega)))).mpr c20, fun z9 => c25 (by rw [ev24, ev23]; exact z9)⟩, by rw [ev27, ev26]⟩)) (by omega) _ _ _ hP hD hS (lv_sub hl [0, 1, 2, 3] rfl)
          exact J41 _ 0 0 a_w3_20 f6_6_20 (by omega) (fn_0 hFO_20) (Nat.lt_succ_self _) _ _ _ hP hD hS (lv_sub hl [0, 1, 2, 3] rfl)
  exact J20 _ 0 (fl 8 (-1) W3) W4 0 0 (fo_0 (fun p hp => if_pos hp)) (by omega) (Or.inl rfl) (Nat.lt_succ_self _) _ _ _ hP hD hS (lv_sub hl [0, 1] rfl)

