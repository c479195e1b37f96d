set_option maxHeartbeats 4000000 in
set_option maxRecDepth 100000 in
theorem e_X6_trueYields (l : Launch) (D : va_G) (cI cJ : ClassId) (sz : Nat) (s1 w0 w1 w2 w3 w4 w8 p0 wn lv : Nat) (wi6 : Int32) (W1 W2 Y0 : Nat → Int32) (hp : p0 < 8) (hY : ∀ k, k < 8 → W1 k = Y0 k) (hR : ∀ k, k < 8 → W2 k = RIN (clo Y0 8) k) : Met l yX6_trueYields wtX6_trueYields { frames := 0, cells := 0, slots := 0, locals := 0 } (cPc D cI cJ [.ref s1, .int (nI p0)] sz [(oX6 s1 w0 w1 w2 w3 w4 (nI wn) wi6 (nI lv) w8), (aIc cI w1 8 W1), (aIc cI w2 8 W2)]) (cQi D (fun r u => r = (TT Y0 p0) ∧ u = [(oX6 s1 w0 w1 w2 w3 w4 (nI wn) wi6 (nI lv) w8), (aIc cI w1 8 W1), (aIc cI w2 8 W2)]) (va_A [(oX6 s1 w0 w1 w2 w3 w4 (nI wn) wi6 (nI lv) w8), (aIc cI w1 8 W1), (aIc cI w2 8 W2)] sz)) 0 0 (va_A [(oX6 s1 w0 w1 w2 w3 w4 (nI wn) wi6 (nI lv) w8), (aIc cI w1 8 W1), (aIc cI w2 8 W2)] sz) := by
  refine k_ofW (Qc := cQi D (fun r u => r = (TT Y0 p0) ∧ u = [(oX6 s1 w0 w1 w2 w3 w4 (nI wn) wi6 (nI lv) w8), (aIc cI w1 8 W1), (aIc cI w2 8 W2)])) (by decide) rfl (Nat.le_of_ble_eq_true rfl) ?_
  intro p e s m below meth c A ls hx hb hr hml hts hown hlk hnm hsz hE hP hD hS hA hl
  have hown : s.vm.findClass RX6 = some m.cls := hown
  have hiX6 : ∀ w ∈ u_ws RX6 TX6 9, w ∈ wtX6_trueYields := fun w h => List.mem_cons_of_mem _ (iuX6 w h)
  have hl : lv_has ls 2 [(0, .ref s1), (1, .int (nI p0))] := hl
  refine lv_aload_n hx hb dX6_trueYields_0 rfl (lv_at hl 0 rfl) ?_
  refine va_get (D := D) (ci := 6) (v := .ref w1) (C := RX6) (T := TX6) (N := 9) hx hb hts hiX6 hown hE.1 hP 0 rfl rfl 1 (by decide) (hts _ (List.mem_cons_of_mem _ wd_80)) (fun _ h9 => h9) rfl dX6_trueYields_1 ?_
  refine lv_iload_n hx hb dX6_trueYields_4 rfl (lv_at hl 1 rfl) ?_
  refine va_iald hx hb hE.1 hP 1 0 rfl rfl (vp_in_nI (n := p0) (by omega) (by decide)) dX6_trueYields_5 ?_
  refine lv_topi (fun v1 ev1 => ?_)
  refine lv_aload_n hx hb dX6_trueYields_6 rfl (lv_at hl 0 rfl) ?_
  refine va_get (D := D) (ci := 6) (v := .ref w2) (C := RX6) (T := TX6) (N := 9) hx hb hts hiX6 hown hE.1 hP 0 rfl rfl 2 (by decide) (hts _ (List.mem_cons_of_mem _ wd_81)) (fun _ h9 => h9) rfl dX6_trueYields_7 ?_
  refine lv_iload_n hx hb dX6_trueYields_10 rfl (lv_at hl 1 rfl) ?_
  refine va_iald hx hb hE.1 hP 2 0 rfl rfl (vp_in_nI (n := p0) (by omega) (by decide)) dX6_trueYields_11 ?_
  refine lv_topi (fun v2 ev2 => ?_)
  refine lv_iconst (v := (-1)) hx hb dX6_trueYields_12 (by decide) ?_
  refine lv_ixor hx hb dX6_trueYields_13 ?_
  refine lv_topi (fun v3 ev3 => ?_)
  refine lv_iand hx hb dX6_trueYields_14 ?_
  refine lv_topi (fun v4 ev4 => ?_)
  refine k_iret (u := [(oX6 s1 w0 w1 w2 w3 w4 (nI wn) wi6 (nI lv) w8), (aIc cI w1 8 W1), (aIc cI w2 8 W2)]) hx hb hr hlk hP hD hS dX6_trueYields_15 ?_
  exact ⟨(by rw [ev4, ev3, cl_at (A := W1) hp ev1, cl_at (A := W2) hp ev2, hY p0 hp, hR p0 hp]; rfl), rfl⟩
set_option maxHeartbeats 4000000 in
set_option maxRecDepth 100000 in
theorem e_X6_findRings (l : Launch) (D : va_G) (cI cJ : ClassId) (sz : Nat) (s1 w0 w1 w2 w3 w4 w8 wn lv : Nat) (wi6 : Int32) (W2 W8 Y0 : Nat → Int32) (hR0 : ∀ k, k < 8 → W8 k = Y0 k) : Met l yX6_findRings wtX6_findRings { frames := 1, cells := 0, slots := 0, locals := 21 } (cPc D cI cJ [.ref s1] sz [(oX6 s1 w0 w1 w2 w3 w4 (nI wn) wi6 (nI lv) w8), (aIc cI w2 8 W2), (aIc cI w8 8 W8)]) (cQv D (fun u => ∃ (W2p W8p : Nat → Int32), (∀ k, k < 8 → W2p k = RIN (clo Y0 8) k) ∧ (∀ k, k < 8 → W8p k = clo Y0 8 k) ∧ u = [(oX6 s1 w0 w1 w2 w3 w4 (nI wn) wi6 (nI lv) w8), (aIc cI w2 8 W2p), (aIc cI w8 8 W8p)]) (va_A [(oX6 s1 w0 w1 w2 w3 w4 (nI wn) wi6 (nI lv) w8), (aIc cI w2 8 W2), (aIc cI w8 8 W8)] sz)) 0 0 (va_A [(oX6 s1 w0 w1 w2 w3 w4 (nI wn) wi6 (nI lv) w8), (aIc cI w2 8 W2), (aIc cI w8 8 W8)] sz) := by
  refine k_ofW (Qc := cQv D (fun u => ∃ (W2p W8p : Nat → Int32), (∀ k, k < 8 → W2p k = RIN (clo Y0 8) k) ∧ (∀ k, k < 8 → W8p k = clo Y0 8 k) ∧ u = [(oX6 s1 w0 w1 w2 w3 w4 (nI wn) wi6 (nI lv) w8), (aIc cI w2 8 W2p), (aIc cI w8 8 W8p)])) (by decide) rfl (Nat.le_of_ble_eq_true rfl) ?_
  intro p e s m below meth c A ls hx hb hr hml hts hown hlk hnm hsz hE hP hD hS hA hl
  have hown : s.vm.findClass RX6 = some m.cls := hown
  have hiX6 : ∀ w ∈ u_ws RX6 TX6 9, w ∈ wtX6_findRings := fun w h => List.mem_cons_of_mem _ (iuX6 w h)
  have hl : lv_has ls 4 [(0, .ref s1)] := hl
  refine lv_iconst (v := 0) hx hb dX6_findRings_0 (by decide) ?_
  refine lv_istore_n (lv' := [(1, .int 0), (0, .ref s1)]) hx hb dX6_findRings_1 rfl hl (by decide) rfl (fun ls hl => ?_)
  have J2 : ∀ (zz : Nat) (i2 : Nat) (a_w8_2 : Nat → Int32), (i2 ≤ 8) → (∀ k, k < 8 → a_w8_2 k = clo Y0 i2 k) → (8 - i2) < zz → ∀ (H : Heap) (locs : List Loc) (ls : Array Slot), va_P D vwCl [(oX6 s1 w0 w1 w2 w3 w4 (nI wn) wi6 (nI lv) w8), (aIc cI w2 8 W2), (aIc cI w8 8 a_w8_2)] H → va_D A [(oX6 s1 w0 w1 w2 w3 w4 (nI wn) wi6 (nI lv) w8), (aIc cI w2 8 W2), (aIc cI w8 8 a_w8_2)] → va_S A s.heap H locs → lv_has ls 4 [(1, .int (nI i2)), (0, .ref s1)] → W p l e { frames := 1, cells := 0, slots := 0, locals := 21 } s m [.ref s1].toArray below meth c H locs 0 0 (MQ below (cQv D (fun u => ∃ (W2p W8p : Nat → Int32), (∀ k, k < 8 → W2p k = RIN (clo Y0 8) k) ∧ (∀ k, k < 8 → W8p k = clo Y0 8 k) ∧ u = [(oX6 s1 w0 w1 w2 w3 w4 (nI wn) wi6 (nI lv) w8), (aIc cI w2 8 W2p), (aIc cI w8 8 W8p)]) A) [.ref s1].toArray s 0 0 A) (F0 m 2 ls []) := by
    intro zz
    induction zz with
    | zero => intro i2 a_w8_2 _ _; exact fun h => absurd h (Nat.not_lt_zero _)
    | succ zz ih2 =>
      intro i2 a_w8_2 hc1_2 hc_2 hmu2 H locs ls hP hD hS hl
      refine lv_iload_n hx hb dX6_findRings_2 rfl (lv_at hl 0 rfl) ?_
      refine lv_bipush (v := 8) hx hb dX6_findRings_3 (by decide) ?_
      refine lv_icmp_ge (tgt := 65) hx hb dX6_findRings_5 (by decide) (fun c1 => ?_) (fun c1 => ?_)
      · skip
        have nc1 : 8 ≤ i2 := (nI_leI (a := 8) (b := i2) (by omega) (by omega)).mp c1
        obtain rfl : i2 = 8 := (by omega)
        refine lv_iconst (v := 0) hx hb dX6_findRings_65 (by decide) ?_
        refine lv_istore_n (lv' := [(1, .int 0), (0, .ref s1)]) hx hb dX6_findRings_66 rfl hl (by decide) rfl (fun ls hl => ?_)
        have J67 : ∀ (zz : Nat) (i67 : Nat) (a_w2_67 : Nat → Int32), (i67 ≤ 8) → (∀ k, k < i67 → a_w2_67 k = RIN (clo Y0 8) k) → (8 - i67) < zz → ∀ (H : Heap) (locs : List Loc) (ls : Array Slot), va_P D vwCl [(oX6 s1 w0 w1 w2 w3 w4 (nI wn) wi6 (nI lv) w8), (aIc cI w2 8 a_w2_67), (aIc cI w8 8 a_w8_2)] H → va_D A [(oX6 s1 w0 w1 w2 w3 w4 (nI wn) wi6 (nI lv) w8), (aIc cI w2 8 a_w2_67), (aIc cI w8 8 a_w8_2)] → va_S A s.heap H locs → lv_has ls 4 [(1, .int (nI i67)), (0, .ref s1)] → W p l e { frames := 1, cells := 0, slots := 0, locals := 21 } s m [.ref s1].toArray below meth c H locs 0 0 (MQ below (cQv D (fun u => ∃ (W2p W8p : Nat → Int32), (∀ k, k < 8 → W2p k = RIN (clo Y0 8) k) ∧ (∀ k, k < 8 → W8p k = clo Y0 8 k) ∧ u = [(oX6 s1 w0 w1 w2 w3 w4 (nI wn) wi6 (nI lv) w8), (aIc cI w2 8 W2p), (aIc cI w8 8 W8p)]) A) [.ref s1].toArray s 0 0 A) (F0 m 67 ls []) := by
          intro zz
          induction zz with
          | zero => intro i67 a_w2_67 _ _; exact fun h => absurd h (Nat.not_lt_zero _)
          | succ zz ih67 =>
            intro i67 a_w2_67 hc1_67 hr_67 hmu67 H locs ls hP hD hS hl
            refine lv_iload_n hx hb dX6_findRings_67 rfl (lv_at hl 0 rfl) ?_
            refine lv_bipush (v := 8) hx hb dX6_findRings_68 (by decide) ?_
            refine lv_icmp_ge (tgt := 153) hx hb dX6_findRings_70 (by decide) (fun c2 => ?_) (fun c2 => ?_)
            · skip
              have nc2 : 8 ≤ i67 := (nI_leI (a := 8) (b := i67) (by omega) (by omega)).mp c2
              refine k_vret (u := [(oX6 s1 w0 w1 w2 w3 w4 (nI wn) wi6 (nI lv) w8), (aIc cI w2 8 a_w2_67), (aIc cI w8 8 a_w8_2)]) hx hb hr hlk hP hD hS dX6_findRings_153 ?_
              exact ⟨a_w2_67, a_w8_2, (fun k hk => hr_67 k (by omega)), hc_2, rfl⟩
            · skip
              have nc2 : ¬ 8 ≤ i67 := fun q9 => c2 ((nI_leI (a := 8) (b := i67) (by omega) (by omega)).mpr q9)
              refine lv_aload_n hx hb dX6_findRings_73 rfl (lv_at hl 1 rfl) ?_
              refine va_get (D := D) (ci := 6) (v := .ref w2) (C := RX6) (T := TX6) (N := 9) hx hb hts hiX6 hown hE.1 hP 0 rfl rfl 2 (by decide) (hts _ (List.mem_cons_of_mem _ wd_81)) (fun _ h9 => h9) rfl dX6_findRings_74 ?_
              refine lv_iload_n hx hb dX6_findRings_77 rfl (lv_at hl 0 rfl) ?_
              refine lv_iconst (v := 0) hx hb dX6_findRings_78 (by decide) ?_
              refine va_iast hx hb hE.1 hP hD hS 1 0 rfl rfl (vp_in_nI (n := i67) (by omega) (by decide)) dX6_findRings_79 (fun H locs hP hD hS => ?_)
              refine k_re (w := [(oX6 s1 w0 w1 w2 w3 w4 (nI wn) wi6 (nI lv) w8), (aIc cI w2 8 (upd a_w2_67 (Int32.toNatClampNeg (nI i67)) 0)), (aIc cI w8 8 a_w8_2)]) hP hD (fun hP hD => ?_)
              refine lv_aload_n hx hb dX6_findRings_80 rfl (lv_at hl 1 rfl) ?_
              refine va_get (D := D) (ci := 6) (v := .ref w8) (C := RX6) (T := TX6) (N := 9) hx hb hts hiX6 hown hE.1 hP 0 rfl rfl 8 (by decide) (hts _ (List.mem_cons_of_mem _ wd_84)) (fun _ h9 => h9) rfl dX6_findRings_81 ?_
              refine lv_iload_n hx hb dX6_findRings_84 rfl (lv_at hl 0 rfl) ?_
              refine va_iald hx hb hE.1 hP 2 0 rfl rfl (vp_in_nI (n := i67) (by omega) (by decide)) dX6_findRings_85 ?_
              refine lv_topi (fun v3 ev3 => ?_)
              refine lv_iload_n hx hb dX6_findRings_86 rfl (lv_at hl 0 rfl) ?_
              refine k_iS (va_runSN (As := [.int v3, .int (nI i67)]) (rest := []) ⟨hx, hb, hml, hown, hts⟩ (m_X7_has l D cI cJ H.size v3 (nI i67)) ⟨va_cnB 2 hts gX6_findRings_X7_has_n34 rfl rfl rfl (nwk6 hE.2) (hts _ (List.mem_cons_of_mem _ wd_2)) (by decide +kernel) ⟨Nat.le_of_ble_eq_true rfl, Nat.le_of_ble_eq_true rfl⟩, (hts _ (List.mem_cons_of_mem _ wd_311)), trivial⟩ (k_pre hE hP hD [] (by decide +kernel) rfl) rfl rfl hl.1 rfl (lv_room (Nat.le_of_ble_eq_true rfl)) dX6_findRings_87 ⟨Nat.le_of_ble_eq_true rfl, Nat.le_of_ble_eq_true rfl⟩) hP hD hS hA [] rfl (fun _ _ h9 => h9.2) (fun r4 H locs hw5 hP hD hS => ?_)
              obtain ⟨hw5, -⟩ := hw5
              refine lv_istore_n (lv' := [(2, .int r4), (1, .int (nI i67)), (0, .ref s1)]) hx hb dX6_findRings_90 rfl hl (by decide) rfl (fun ls hl => ?_)
              refine lv_iconst (v := 0) hx hb dX6_findRings_91 (by decide) ?_
              refine lv_istore_n (lv' := [(3, .int 0), (2, .int r4), (1, .int (nI i67)), (0, .ref s1)]) hx hb dX6_findRings_92 rfl hl (by decide) rfl (fun ls hl => ?_)
              have J93 : ∀ (zz : Nat) (j93 : Nat) (a_w2_93 : Nat → Int32), (j93 ≤ 8) → (RG a_w2_93 (clo Y0 8) i67 j93) → (8 - j93) < zz → ∀ (H : Heap) (locs : List Loc) (ls : Array Slot), va_P D vwCl [(oX6 s1 w0 w1 w2 w3 w4 (nI wn) wi6 (nI lv) w8), (aIc cI w2 8 a_w2_93), (aIc cI w8 8 a_w8_2)] H → va_D A [(oX6 s1 w0 w1 w2 w3 w4 (nI wn) wi6 (nI lv) w8), (aIc cI w2 8 a_w2_93), (aIc cI w8 8 a_w8_2)] → va_S A s.heap H locs → lv_has ls 4 [(3, .int (nI j93)), (2, .int r4), (1, .int (nI i67)), (0, .ref s1)] → W p l e { frames := 1, cells := 0, slots := 0, locals := 21 } s m [.ref s1].toArray below meth c H locs 0 0 (MQ below (cQv D (fun u => ∃ (W2p W8p : Nat → Int32), (∀ k, k < 8 → W2p k = RIN (clo Y0 8) k) ∧ (∀ k, k < 8 → W8p k = clo Y0 8 k) ∧ u = [(oX6 s1 w0 w1 w2 w3 w4 (nI wn) wi6 (nI lv) w8), (aIc cI w2 8 W2p), (aIc cI w8 8 W8p)]) A) [.ref s1].toArray s 0 0 A) (F0 m 93 ls []) := by
                intro zz
                induction zz with
                | zero => intro j93 a_w2_93 _ _; exact fun h => absurd h (Nat.not_lt_zero _)
                | succ zz ih93 =>
                  intro j93 a_w2_93 hc3_93 hq_93 hmu93 H locs ls hP hD hS hl
                  refine lv_iload_n hx hb dX6_findRings_93 rfl (lv_at hl 1 rfl) ?_
                  refine lv_if_eq (tgt := 147) hx hb dX6_findRings_94 (by decide) (fun c6 => ?_) (fun c6 => ?_)
                  · skip
                    have hc6 : ¬ (¬ (v3 >>> ((nI i67) &&& 31)) &&& 1 = 0) := bz_0 hw5 c6
                    refine lv_iinc (v := (nI (i67 + 1))) (lv' := [(1, .int (nI (i67 + 1))), (3, .int (nI j93)), (2, .int r4), (0, .ref s1)]) hx hb dX6_findRings_147 hl (k := 2) rfl (nI_1 _) (by decide) rfl (fun ls hl => ?_)
                    refine lv_goto (tgt := 67) hx hb dX6_findRings_150 (by decide) ?_
                    have hof : ¬ bt (clo Y0 8 i67) i67 = true := fun q9 => hc6 ((bt_nz (by omega)).mpr (by rw [cl_at (A := a_w8_2) (by omega) ev3, hc_2 i67 (by omega)]; exact q9))
                    exact ih67 (i67 + 1) a_w2_93 (by omega) (rg_off (clo_tr 8 (Nat.le_refl _)) (by omega) (by omega) hq_93 hof) (by omega) _ _ _ hP hD hS (lv_sub hl [0, 3] rfl)
                  · skip
                    have hc6 : ¬ (v3 >>> ((nI i67) &&& 31)) &&& 1 = 0 := bz_1 hw5 c6
                    refine lv_iload_n hx hb dX6_findRings_97 rfl (lv_at hl 0 rfl) ?_
                    refine lv_bipush (v := 8) hx hb dX6_findRings_98 (by decide) ?_
                    refine lv_icmp_ge (tgt := 147) hx hb dX6_findRings_100 (by decide) (fun c7 => ?_) (fun c7 => ?_)
                    · skip
                      have nc7 : 8 ≤ j93 := (nI_leI (a := 8) (b := j93) (by omega) (by omega)).mp c7
                      refine lv_iinc (v := (nI (i67 + 1))) (lv' := [(1, .int (nI (i67 + 1))), (3, .int (nI j93)), (2, .int r4), (0, .ref s1)]) hx hb dX6_findRings_147 hl (k := 2) rfl (nI_1 _) (by decide) rfl (fun ls hl => ?_)
                      refine lv_goto (tgt := 67) hx hb dX6_findRings_150 (by decide) ?_
                      exact ih67 (i67 + 1) a_w2_93 (by omega) (by obtain rfl : j93 = 8 := (by omega); exact rg_end hq_93) (by omega) _ _ _ hP hD hS (lv_sub hl [0, 3] rfl)
                    · skip
                      have nc7 : ¬ 8 ≤ j93 := fun q9 => c7 ((nI_leI (a := 8) (b := j93) (by omega) (by omega)).mpr q9)
                      refine lv_aload_n hx hb dX6_findRings_103 rfl (lv_at hl 3 rfl) ?_
                      refine va_get (D := D) (ci := 6) (v := .ref w8) (C := RX6) (T := TX6) (N := 9) hx hb hts hiX6 hown hE.1 hP 0 rfl rfl 8 (by decide) (hts _ (List.mem_cons_of_mem _ wd_84)) (fun _ h9 => h9) rfl dX6_findRings_104 ?_
                      refine lv_iload_n hx hb dX6_findRings_107 rfl (lv_at hl 2 rfl) ?_
                      refine va_iald hx hb hE.1 hP 2 0 rfl rfl (vp_in_nI (n := i67) (by omega) (by decide)) dX6_findRings_108 ?_
                      refine lv_topi (fun v8 ev8 => ?_)
                      refine lv_iload_n hx hb dX6_findRings_109 rfl (lv_at hl 0 rfl) ?_
                      refine k_iS (va_runSN (As := [.int v8, .int (nI j93)]) (rest := []) ⟨hx, hb, hml, hown, hts⟩ (m_X7_has l D cI cJ H.size v8 (nI j93)) ⟨va_cnB 2 hts gX6_findRings_X7_has_n34 rfl rfl rfl (nwk6 hE.2) (hts _ (List.mem_cons_of_mem _ wd_2)) (by decide +kernel) ⟨Nat.le_of_ble_eq_true rfl, Nat.le_of_ble_eq_true rfl⟩, (hts _ (List.mem_cons_of_mem _ wd_311)), trivial⟩ (k_pre hE hP hD [] (by decide +kernel) rfl) rfl rfl hl.1 rfl (lv_room (Nat.le_of_ble_eq_true rfl)) dX6_findRings_110 ⟨Nat.le_of_ble_eq_true rfl, Nat.le_of_ble_eq_true rfl⟩) hP hD hS hA [] rfl (fun _ _ h9 => h9.2) (fun r9 H locs hw10 hP hD hS => ?_)
                      obtain ⟨hw10, -⟩ := hw10
                      refine lv_if_eq (tgt := 141) hx hb dX6_findRings_113 (by decide) (fun c11 => ?_) (fun c11 => ?_)
                      · skip
                        have hc11 : ¬ (¬ (v8 >>> ((nI j93) &&& 31)) &&& 1 = 0) := bz_0 hw10 c11
                        refine lv_iinc (v := (nI (j93 + 1))) (lv' := [(3, .int (nI (j93 + 1))), (2, .int r4), (1, .int (nI i67)), (0, .ref s1)]) hx hb dX6_findRings_141 hl (k := 0) rfl (nI_1 _) (by decide) rfl (fun ls hl => ?_)
                        refine lv_goto (tgt := 93) hx hb dX6_findRings_144 (by decide) ?_
                        have hb1 : ¬ bt (clo Y0 8 i67) j93 = true := fun q9 => hc11 ((bt_nz (by omega)).mpr (by rw [cl_at (A := a_w8_2) (by omega) ev8, hc_2 i67 (by omega)]; exact q9))
                        exact ih93 (j93 + 1) a_w2_93 (by omega) (rg_no hq_93 (fun z9 => hb1 z9.1)) (by omega) _ _ _ hP hD hS (lv_sub hl [0, 1, 2, 3] rfl)
                      · skip
                        have hc11 : ¬ (v8 >>> ((nI j93) &&& 31)) &&& 1 = 0 := bz_1 hw10 c11
                        refine lv_aload_n hx hb dX6_findRings_116 rfl (lv_at hl 3 rfl) ?_
                        refine va_get (D := D) (ci := 6) (v := .ref w8) (C := RX6) (T := TX6) (N := 9) hx hb hts hiX6 hown hE.1 hP 0 rfl rfl 8 (by decide) (hts _ (List.mem_cons_of_mem _ wd_84)) (fun _ h9 => h9) rfl dX6_findRings_117 ?_
                        refine lv_iload_n hx hb dX6_findRings_120 rfl (lv_at hl 0 rfl) ?_
                        refine va_iald hx hb hE.1 hP 2 0 rfl rfl (vp_in_nI (n := j93) (by omega) (by decide)) dX6_findRings_121 ?_
                        refine lv_topi (fun v12 ev12 => ?_)
                        refine lv_iload_n hx hb dX6_findRings_122 rfl (lv_at hl 2 rfl) ?_
                        refine k_iS (va_runSN (As := [.int v12, .int (nI i67)]) (rest := []) ⟨hx, hb, hml, hown, hts⟩ (m_X7_has l D cI cJ H.size v12 (nI i67)) ⟨va_cnB 2 hts gX6_findRings_X7_has_n34 rfl rfl rfl (nwk6 hE.2) (hts _ (List.mem_cons_of_mem _ wd_2)) (by decide +kernel) ⟨Nat.le_of_ble_eq_true rfl, Nat.le_of_ble_eq_true rfl⟩, (hts _ (List.mem_cons_of_mem _ wd_311)), trivial⟩ (k_pre hE hP hD [] (by decide +kernel) rfl) rfl rfl hl.1 rfl (lv_room (Nat.le_of_ble_eq_true rfl)) dX6_findRings_123 ⟨Nat.le_of_ble_eq_true rfl, Nat.le_of_ble_eq_true rfl⟩) hP hD hS hA [] rfl (fun _ _ h9 => h9.2) (fun r13 H locs hw14 hP hD hS => ?_)
                        obtain ⟨hw14, -⟩ := hw14
                        refine lv_if_eq (tgt := 141) hx hb dX6_findRings_126 (by decide) (fun c15 => ?_) (fun c15 => ?_)
                        · skip
                          have hc15 : ¬ (¬ (v12 >>> ((nI i67) &&& 31)) &&& 1 = 0) := bz_0 hw14 c15
                          refine lv_iinc (v := (nI (j93 + 1))) (lv' := [(3, .int (nI (j93 + 1))), (2, .int r4), (1, .int (nI i67)), (0, .ref s1)]) hx hb dX6_findRings_141 hl (k := 0) rfl (nI_1 _) (by decide) rfl (fun ls hl => ?_)
                          refine lv_goto (tgt := 93) hx hb dX6_findRings_144 (by decide) ?_
                          have hb1 : bt (clo Y0 8 i67) j93 = true := by rw [← hc_2 i67 (by omega), ← cl_at (A := a_w8_2) (by omega) ev8]; exact (bt_nz (by omega)).mp hc11
                          have hb2 : ¬ bt (clo Y0 8 j93) i67 = true := fun q9 => hc15 ((bt_nz (by omega)).mpr (by rw [cl_at (A := a_w8_2) (by omega) ev12, hc_2 j93 (by omega)]; exact q9))
                          exact ih93 (j93 + 1) a_w2_93 (by omega) (rg_no hq_93 (fun z9 => hb2 z9.2)) (by omega) _ _ _ hP hD hS (lv_sub hl [0, 1, 2, 3] rfl)
                        · skip
                          have hc15 : ¬ (v12 >>> ((nI i67) &&& 31)) &&& 1 = 0 := bz_1 hw14 c15
                          refine lv_aload_n hx hb dX6_findRings_129 rfl (lv_at hl 3 rfl) ?_
                          refine va_get (D := D) (ci := 6) (v := .ref w2) (C := RX6) (T := TX6) (N := 9) hx hb hts hiX6 hown hE.1 hP 0 rfl rfl 2 (by decide) (hts _ (List.mem_cons_of_mem _ wd_81)) (fun _ h9 => h9) rfl dX6_findRings_130 ?_
                          refine lv_iload_n hx hb dX6_findRings_133 rfl (lv_at hl 2 rfl) ?_
                          refine lv_dup2_11 hx hb dX6_findRings_134 rfl rfl ?_
                          refine va_iald hx hb hE.1 hP 1 0 rfl rfl (vp_in_nI (n := i67) (by omega) (by decide)) dX6_findRings_135 ?_
                          refine lv_topi (fun v16 ev16 => ?_)
                          refine lv_iconst (v := 1) hx hb dX6_findRings_136 (by decide) ?_
                          refine lv_iload_n hx hb dX6_findRings_137 rfl (lv_at hl 0 rfl) ?_
                          refine lv_ishl hx hb dX6_findRings_138 ?_
                          refine lv_topi (fun v17 ev17 => ?_)
                          refine lv_ior hx hb dX6_findRings_139 ?_
                          refine lv_topi (fun v18 ev18 => ?_)
                          refine va_iast hx hb hE.1 hP hD hS 1 0 rfl rfl (vp_in_nI (n := i67) (by omega) (by decide)) dX6_findRings_140 (fun H locs hP hD hS => ?_)
                          refine k_re (w := [(oX6 s1 w0 w1 w2 w3 w4 (nI wn) wi6 (nI lv) w8), (aIc cI w2 8 (upd a_w2_93 (Int32.toNatClampNeg (nI i67)) v18)), (aIc cI w8 8 a_w8_2)]) hP hD (fun hP hD => ?_)
                          refine lv_iinc (v := (nI (j93 + 1))) (lv' := [(3, .int (nI (j93 + 1))), (2, .int r4), (1, .int (nI i67)), (0, .ref s1)]) hx hb dX6_findRings_141 hl (k := 0) rfl (nI_1 _) (by decide) rfl (fun ls hl => ?_)
                          refine lv_goto (tgt := 93) hx hb dX6_findRings_144 (by decide) ?_
                          have hb1 : bt (clo Y0 8 i67) j93 = true := by rw [← hc_2 i67 (by omega), ← cl_at (A := a_w8_2) (by omega) ev8]; exact (bt_nz (by omega)).mp hc11
                          have hb2 : bt (clo Y0 8 j93) i67 = true := by rw [← hc_2 j93 (by omega), ← cl_at (A := a_w8_2) (by omega) ev12]; exact (bt_nz (by omega)).mp hc15
                          exact ih93 (j93 + 1) (upd a_w2_93 (Int32.toNatClampNeg (nI i67)) v18) (by omega) (rg_yes (by omega) hq_93 hb1 hb2 ev16 ev17 ev18) (by omega) _ _ _ hP hD hS (lv_sub hl [0, 1, 2, 3] rfl)
              exact J93 _ 0 (upd a_w2_67 (Int32.toNatClampNeg (nI i67)) 0) (by omega) (rg_0 (by omega) hr_67) (Nat.lt_succ_self _) _ _ _ hP hD hS (lv_sub hl [0, 1, 2, 3] rfl)
        exact J67 _ 0 W2 (by omega) (fun k hk => absurd hk (Nat.not_lt_zero k)) (Nat.lt_succ_self _) _ _ _ hP hD hS (lv_sub hl [0, 1] rfl)
      · skip
        have nc1 : ¬ 8 ≤ i2 := fun q9 => c1 ((nI_leI (a := 8) (b := i2) (by omega) (by omega)).mpr q9)
        refine lv_iconst (v := 0) hx hb dX6_findRings_8 (by decide) ?_
        refine lv_istore_n (lv' := [(2, .int 0), (1, .int (nI i2)), (0, .ref s1)]) hx hb dX6_findRings_9 rfl hl (by decide) rfl (fun ls hl => ?_)
        have J10 : ∀ (zz : Nat) (j10 : Nat) (a_w8_10 : Nat → Int32), (j10 ≤ 8) → (∀ k, k < 8 → a_w8_10 k = cin (clo Y0 i2) i2 j10 k) → (8 - j10) < zz → ∀ (H : Heap) (locs : List Loc) (ls : Array Slot), va_P D vwCl [(oX6 s1 w0 w1 w2 w3 w4 (nI wn) wi6 (nI lv) w8), (aIc cI w2 8 W2), (aIc cI w8 8 a_w8_10)] H → va_D A [(oX6 s1 w0 w1 w2 w3 w4 (nI wn) wi6 (nI lv) w8), (aIc cI w2 8 W2), (aIc cI w8 8 a_w8_10)] → va_S A s.heap H locs → lv_has ls 4 [(2, .int (nI j10)), (1, .int (nI i2)), (0, .ref s1)] → W p l e { frames := 1, cells := 0, slots := 0, locals := 21 } s m [.ref s1].toArray below meth c H locs 0 0 (MQ below (cQv D (fun u => ∃ (W2p W8p : Nat → Int32), (∀ k, k < 8 → W2p k = RIN (clo Y0 8) k) ∧ (∀ k, k < 8 → W8p k = clo Y0 8 k) ∧ u = [(oX6 s1 w0 w1 w2 w3 w4 (nI wn) wi6 (nI lv) w8), (aIc cI w2 8 W2p), (aIc cI w8 8 W8p)]) A) [.ref s1].toArray s 0 0 A) (F0 m 10 ls []) := by
          intro zz
          induction zz with
          | zero => intro j10 a_w8_10 _ _; exact fun h => absurd h (Nat.not_lt_zero _)
          | succ zz ih10 =>
            intro j10 a_w8_10 hc2_10 hd_10 hmu10 H locs ls hP hD hS hl
            refine lv_aload_n hx hb dX6_findRings_10 rfl (lv_at hl 2 rfl) ?_
            refine va_get (D := D) (ci := 6) (v := .ref w8) (C := RX6) (T := TX6) (N := 9) hx hb hts hiX6 hown hE.1 hP 0 rfl rfl 8 (by decide) (hts _ (List.mem_cons_of_mem _ wd_84)) (fun _ h9 => h9) rfl dX6_findRings_11 ?_
            refine lv_iload_n hx hb dX6_findRings_14 rfl (lv_at hl 1 rfl) ?_
            refine va_iald hx hb hE.1 hP 2 0 rfl rfl (vp_in_nI (n := i2) (by omega) (by decide)) dX6_findRings_15 ?_
            refine lv_topi (fun v19 ev19 => ?_)
            refine lv_if_eq (tgt := 59) hx hb dX6_findRings_16 (by decide) (fun c20 => ?_) (fun c20 => ?_)
            · skip
              refine lv_iinc (v := (nI (i2 + 1))) (lv' := [(1, .int (nI (i2 + 1))), (2, .int (nI j10)), (0, .ref s1)]) hx hb dX6_findRings_59 hl (k := 1) rfl (nI_1 _) (by decide) rfl (fun ls hl => ?_)
              refine lv_goto (tgt := 2) hx hb dX6_findRings_62 (by decide) ?_
              exact ih2 (i2 + 1) a_w8_10 (by omega) (clo_z (by omega) hd_10 ((cl_at (A := a_w8_10) (by omega) ev19).symm.trans c20)) (by omega) _ _ _ hP hD hS (lv_sub hl [0, 2] rfl)
            · skip
              refine lv_iload_n hx hb dX6_findRings_19 rfl (lv_at hl 0 rfl) ?_
              refine lv_bipush (v := 8) hx hb dX6_findRings_20 (by decide) ?_
              refine lv_icmp_ge (tgt := 59) hx hb dX6_findRings_22 (by decide) (fun c21 => ?_) (fun c21 => ?_)
              · skip
                have nc21 : 8 ≤ j10 := (nI_leI (a := 8) (b := j10) (by omega) (by omega)).mp c21
                refine lv_iinc (v := (nI (i2 + 1))) (lv' := [(1, .int (nI (i2 + 1))), (2, .int (nI j10)), (0, .ref s1)]) hx hb dX6_findRings_59 hl (k := 1) rfl (nI_1 _) (by decide) rfl (fun ls hl => ?_)
                refine lv_goto (tgt := 2) hx hb dX6_findRings_62 (by decide) ?_
                exact ih2 (i2 + 1) a_w8_10 (by omega) (by obtain rfl : j10 = 8 := (by omega); exact hd_10) (by omega) _ _ _ hP hD hS (lv_sub hl [0, 2] rfl)
              · skip
                have nc21 : ¬ 8 ≤ j10 := fun q9 => c21 ((nI_leI (a := 8) (b := j10) (by omega) (by omega)).mpr q9)
                refine lv_aload_n hx hb dX6_findRings_25 rfl (lv_at hl 2 rfl) ?_
                refine va_get (D := D) (ci := 6) (v := .ref w8) (C := RX6) (T := TX6) (N := 9) hx hb hts hiX6 hown hE.1 hP 0 rfl rfl 8 (by decide) (hts _ (List.mem_cons_of_mem _ wd_84)) (fun _ h9 => h9) rfl dX6_findRings_26 ?_
                refine lv_iload_n hx hb dX6_findRings_29 rfl (lv_at hl 0 rfl) ?_
                refine va_iald hx hb hE.1 hP 2 0 rfl rfl (vp_in_nI (n := j10) (by omega) (by decide)) dX6_findRings_30 ?_
                refine lv_topi (fun v22 ev22 => ?_)
                refine lv_iload_n hx hb dX6_findRings_31 rfl (lv_at hl 1 rfl) ?_
                refine k_iS (va_runSN (As := [.int v22, .int (nI i2)]) (rest := []) ⟨hx, hb, hml, hown, hts⟩ (m_X7_has l D cI cJ H.size v22 (nI i2)) ⟨va_cnB 2 hts gX6_findRings_X7_has_n34 rfl rfl rfl (nwk6 hE.2) (hts _ (List.mem_cons_of_mem _ wd_2)) (by decide +kernel) ⟨Nat.le_of_ble_eq_true rfl, Nat.le_of_ble_eq_true rfl⟩, (hts _ (List.mem_cons_of_mem _ wd_311)), trivial⟩ (k_pre hE hP hD [] (by decide +kernel) rfl) rfl rfl hl.1 rfl (lv_room (Nat.le_of_ble_eq_true rfl)) dX6_findRings_32 ⟨Nat.le_of_ble_eq_true rfl, Nat.le_of_ble_eq_true rfl⟩) hP hD hS hA [] rfl (fun _ _ h9 => h9.2) (fun r23 H locs hw24 hP hD hS => ?_)
                obtain ⟨hw24, -⟩ := hw24
                refine lv_if_eq (tgt := 53) hx hb dX6_findRings_35 (by decide) (fun c25 => ?_) (fun c25 => ?_)
                · skip
                  have hc25 : ¬ (¬ (v22 >>> ((nI i2) &&& 31)) &&& 1 = 0) := bz_0 hw24 c25
                  refine lv_iinc (v := (nI (j10 + 1))) (lv' := [(2, .int (nI (j10 + 1))), (1, .int (nI i2)), (0, .ref s1)]) hx hb dX6_findRings_53 hl (k := 0) rfl (nI_1 _) (by decide) rfl (fun ls hl => ?_)
                  refine lv_goto (tgt := 10) hx hb dX6_findRings_56 (by decide) ?_
                  have hb9 : ¬ bt (a_w8_10 j10) i2 = true := fun q9 => hc25 ((bt_nz (by omega)).mpr (by rw [cl_at (A := a_w8_10) (by omega) ev22]; exact q9))
                  exact ih10 (j10 + 1) a_w8_10 (by omega) (cin_no (by omega) hd_10 hb9) (by omega) _ _ _ hP hD hS (lv_sub hl [0, 1, 2] rfl)
                · skip
                  have hc25 : ¬ (v22 >>> ((nI i2) &&& 31)) &&& 1 = 0 := bz_1 hw24 c25
                  refine lv_aload_n hx hb dX6_findRings_38 rfl (lv_at hl 2 rfl) ?_
                  refine va_get (D := D) (ci := 6) (v := .ref w8) (C := RX6) (T := TX6) (N := 9) hx hb hts hiX6 hown hE.1 hP 0 rfl rfl 8 (by decide) (hts _ (List.mem_cons_of_mem _ wd_84)) (fun _ h9 => h9) rfl dX6_findRings_39 ?_
                  refine lv_iload_n hx hb dX6_findRings_42 rfl (lv_at hl 0 rfl) ?_
                  refine lv_dup2_11 hx hb dX6_findRings_43 rfl rfl ?_
                  refine va_iald hx hb hE.1 hP 2 0 rfl rfl (vp_in_nI (n := j10) (by omega) (by decide)) dX6_findRings_44 ?_
                  refine lv_topi (fun v26 ev26 => ?_)
                  refine lv_aload_n hx hb dX6_findRings_45 rfl (lv_at hl 2 rfl) ?_
                  refine va_get (D := D) (ci := 6) (v := .ref w8) (C := RX6) (T := TX6) (N := 9) hx hb hts hiX6 hown hE.1 hP 0 rfl rfl 8 (by decide) (hts _ (List.mem_cons_of_mem _ wd_84)) (fun _ h9 => h9) rfl dX6_findRings_46 ?_
                  refine lv_iload_n hx hb dX6_findRings_49 rfl (lv_at hl 1 rfl) ?_
                  refine va_iald hx hb hE.1 hP 2 0 rfl rfl (vp_in_nI (n := i2) (by omega) (by decide)) dX6_findRings_50 ?_
                  refine lv_topi (fun v27 ev27 => ?_)
                  refine lv_ior hx hb dX6_findRings_51 ?_
                  refine lv_topi (fun v28 ev28 => ?_)
                  refine va_iast hx hb hE.1 hP hD hS 2 0 rfl rfl (vp_in_nI (n := j10) (by omega) (by decide)) dX6_findRings_52 (fun H locs hP hD hS => ?_)
                  refine k_re (w := [(oX6 s1 w0 w1 w2 w3 w4 (nI wn) wi6 (nI lv) w8), (aIc cI w2 8 W2), (aIc cI w8 8 (upd a_w8_10 (Int32.toNatClampNeg (nI j10)) v28))]) hP hD (fun hP hD => ?_)
                  refine lv_iinc (v := (nI (j10 + 1))) (lv' := [(2, .int (nI (j10 + 1))), (1, .int (nI i2)), (0, .ref s1)]) hx hb dX6_findRings_53 hl (k := 0) rfl (nI_1 _) (by decide) rfl (fun ls hl => ?_)
                  refine lv_goto (tgt := 10) hx hb dX6_findRings_56 (by decide) ?_
                  have hb9 : bt (a_w8_10 j10) i2 = true := by rw [← cl_at (A := a_w8_10) (by omega) ev22]; exact (bt_nz (by omega)).mp hc25
                  exact ih10 (j10 + 1) (upd a_w8_10 (Int32.toNatClampNeg (nI j10)) v28) (by omega) (cin_yes (by omega) (by omega) hd_10 hb9 (by rw [ev28, cl_at (A := a_w8_10) (by omega) ev26, cl_at (A := a_w8_10) (by omega) ev27])) (by omega) _ _ _ hP hD hS (lv_sub hl [0, 1, 2] rfl)
        exact J10 _ 0 a_w8_2 (by omega) hc_2 (Nat.lt_succ_self _) _ _ _ hP hD hS (lv_sub hl [0, 1, 2] rfl)
  exact J2 _ 0 W8 (by omega) hR0 (Nat.lt_succ_self _) _ _ _ hP hD hS (lv_sub hl [0, 1] rfl)

