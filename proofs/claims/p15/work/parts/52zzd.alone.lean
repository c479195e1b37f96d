set_option maxHeartbeats 4000000 in
set_option maxRecDepth 100000 in
theorem e_X4_standAlone (l : Launch) (D : va_G) (cI cJ : ClassId) (sz : Nat) (x1 x0 s1 s2 s5 s6 s7 s8 s9 s10 s11 b0 b1 b2 b3 b4 b5 b6 b7 b8 b9 b10 b11 im am np nl pn : Nat) (si4 si12 si13 bi14 : Int32) (B0 B2 B3 B4 B8 S5 S6 S8 : Nat → Int32) (li0 wo0 de0 su0 lf0 : Nat → Nat) (hit : im < 8) (ham : am ≤ 1000000) (hliv : nv B0 li0) (hlib : ∀ k, k < 8 → li0 k ≤ 1000000) (hwov : nv B3 wo0) (hwob : ∀ k, k < 8 → wo0 k ≤ 9000000) (hdev : nv B2 de0) (hdeb : ∀ k, k < 8 → de0 k ≤ 99999) (hsb : SUB B8 su0) (hlfv : nv S5 lf0) (hlfb : ∀ k, k < 8 → lf0 k ≤ 9000000) : Met l yX4_standAlone wtX4_standAlone { frames := 2, cells := 0, slots := 0, locals := 48 } (cPc D cI cJ [.ref x1, .int (nI im), .int (nI am)] sz [(oX4 x1 x0 s1 s2 (nI pn) si4 s5 s6 s7 s8 s9 s10 s11 si12 si13), (oX0 x0 b0 b1 b2 b3 b4 b5 b6 b7 b8 b9 b10 b11 (nI np) (nI nl) bi14), (aIc cI b0 8 B0), (aIc cI b2 8 B2), (aIc cI b3 8 B3), (aIc cI b4 8 B4), (aIc cI b8 64 B8), (aIc cI s5 8 S5), (aIc cI s6 8 S6), (aIc cI s8 8 S8)]) (cQi D (fun r u => ∃ (q0 : Nat) (S6p S8p : Nat → Int32), (q0 < 256) ∧ (nI q0 = INN li0 wo0 de0 su0 B4 (nI pn) lf0 im am) ∧ (nv S6p lf0) ∧ (nv S8p (LONE li0 wo0 de0 su0 B4 (nI pn) lf0 im am)) ∧ r = (nI q0) ∧ u = [(oX4 x1 x0 s1 s2 (nI pn) si4 s5 s6 s7 s8 s9 s10 s11 si12 si13), (oX0 x0 b0 b1 b2 b3 b4 b5 b6 b7 b8 b9 b10 b11 (nI np) (nI nl) bi14), (aIc cI b0 8 B0), (aIc cI b2 8 B2), (aIc cI b3 8 B3), (aIc cI b4 8 B4), (aIc cI b8 64 B8), (aIc cI s5 8 S5), (aIc cI s6 8 S6p), (aIc cI s8 8 S8p)]) (va_A [(oX4 x1 x0 s1 s2 (nI pn) si4 s5 s6 s7 s8 s9 s10 s11 si12 si13), (oX0 x0 b0 b1 b2 b3 b4 b5 b6 b7 b8 b9 b10 b11 (nI np) (nI nl) bi14), (aIc cI b0 8 B0), (aIc cI b2 8 B2), (aIc cI b3 8 B3), (aIc cI b4 8 B4), (aIc cI b8 64 B8), (aIc cI s5 8 S5), (aIc cI s6 8 S6), (aIc cI s8 8 S8)] sz)) 0 0 (va_A [(oX4 x1 x0 s1 s2 (nI pn) si4 s5 s6 s7 s8 s9 s10 s11 si12 si13), (oX0 x0 b0 b1 b2 b3 b4 b5 b6 b7 b8 b9 b10 b11 (nI np) (nI nl) bi14), (aIc cI b0 8 B0), (aIc cI b2 8 B2), (aIc cI b3 8 B3), (aIc cI b4 8 B4), (aIc cI b8 64 B8), (aIc cI s5 8 S5), (aIc cI s6 8 S6), (aIc cI s8 8 S8)] sz) := by
  refine k_ofW (Qc := cQi D (fun r u => ∃ (q0 : Nat) (S6p S8p : Nat → Int32), (q0 < 256) ∧ (nI q0 = INN li0 wo0 de0 su0 B4 (nI pn) lf0 im am) ∧ (nv S6p lf0) ∧ (nv S8p (LONE li0 wo0 de0 su0 B4 (nI pn) lf0 im am)) ∧ r = (nI q0) ∧ u = [(oX4 x1 x0 s1 s2 (nI pn) si4 s5 s6 s7 s8 s9 s10 s11 si12 si13), (oX0 x0 b0 b1 b2 b3 b4 b5 b6 b7 b8 b9 b10 b11 (nI np) (nI nl) bi14), (aIc cI b0 8 B0), (aIc cI b2 8 B2), (aIc cI b3 8 B3), (aIc cI b4 8 B4), (aIc cI b8 64 B8), (aIc cI s5 8 S5), (aIc cI s6 8 S6p), (aIc cI s8 8 S8p)])) (by decide) rfl (Nat.le_of_ble_eq_true rfl) ?_
  intro p e s m below meth c A ls hx hb hr hml hts hown hlk hnm hsz hE hP hD hS hA hl
  have hown : s.vm.findClass RX4 = some m.cls := hown
  have hiX4 : ∀ w ∈ u_ws RX4 TX4 14, w ∈ wtX4_standAlone := fun w h => List.mem_cons_of_mem _ (iuX4 w h)
  have hl : lv_has ls 5 [(0, .ref x1), (1, .int (nI im)), (2, .int (nI am))] := hl
  refine lv_aload_n hx hb dX4_standAlone_0 rfl (lv_at hl 0 rfl) ?_
  refine va_get (D := D) (ci := 4) (v := .ref s5) (C := RX4) (T := TX4) (N := 14) hx hb hts hiX4 hown hE.1 hP 0 rfl rfl 5 (by decide) (hts _ (List.mem_cons_of_mem _ wd_49)) (fun _ h9 => h9) rfl dX4_standAlone_1 ?_
  refine lv_iconst (v := 0) hx hb dX4_standAlone_4 (by decide) ?_
  refine lv_aload_n hx hb dX4_standAlone_5 rfl (lv_at hl 0 rfl) ?_
  refine va_get (D := D) (ci := 4) (v := .ref s6) (C := RX4) (T := TX4) (N := 14) hx hb hts hiX4 hown hE.1 hP 0 rfl rfl 6 (by decide) (hts _ (List.mem_cons_of_mem _ wd_50)) (fun _ h9 => h9) rfl dX4_standAlone_6 ?_
  refine lv_iconst (v := 0) hx hb dX4_standAlone_9 (by decide) ?_
  refine lv_bipush (v := 8) hx hb dX4_standAlone_10 (by decide) ?_
  refine va_copyi hx hb (by rw [hml]; exact hl.1.symm) hown (hts _ (List.mem_cons_of_mem _ wd_288)) (hts _ (List.mem_cons_of_mem _ wd_289)) (hts _ (List.mem_cons_of_mem _ wd_290)) (hts _ (List.mem_cons_of_mem _ wd_291)) hE.1 hP hD hS 7 8 0 0 rfl rfl rfl rfl rfl (by decide) (by decide) (by decide) (by decide) (by decide) (fun _ _ => rfl) (Nat.le_of_ble_eq_true rfl) (Nat.le_of_ble_eq_true rfl) dX4_standAlone_12 (fun H locs hP hD hS => ?_)
  refine k_re (w := [(oX4 x1 x0 s1 s2 (nI pn) si4 s5 s6 s7 s8 s9 s10 s11 si12 si13), (oX0 x0 b0 b1 b2 b3 b4 b5 b6 b7 b8 b9 b10 b11 (nI np) (nI nl) bi14), (aIc cI b0 8 B0), (aIc cI b2 8 B2), (aIc cI b3 8 B3), (aIc cI b4 8 B4), (aIc cI b8 64 B8), (aIc cI s5 8 S5), (aIc cI s6 8 (va_cpy S5 S6 (0 : Int32).toNatClampNeg (0 : Int32).toNatClampNeg (8 : Int32).toNatClampNeg)), (aIc cI s8 8 S8)]) hP hD (fun hP hD => ?_)
  have hcp9 : nv (va_cpy S5 S6 (0 : Int32).toNatClampNeg (0 : Int32).toNatClampNeg (8 : Int32).toNatClampNeg) lf0 := fun k hk => (cpy8 hk).trans (hlfv k hk)
  refine lv_iconst (v := 0) hx hb dX4_standAlone_15 (by decide) ?_
  refine lv_istore_n (lv' := [(3, .int 0), (0, .ref x1), (1, .int (nI im)), (2, .int (nI am))]) hx hb dX4_standAlone_16 rfl hl (by decide) rfl (fun ls hl => ?_)
  refine lv_iconst (v := 0) hx hb dX4_standAlone_17 (by decide) ?_
  refine lv_istore (lv' := [(4, .int 0), (3, .int 0), (0, .ref x1), (1, .int (nI im)), (2, .int (nI am))]) hx hb dX4_standAlone_18 hl (by decide) rfl (fun ls hl => ?_)
  have J20 : ∀ (zz : Nat) (i20 : Nat) (h3_20 : Int32) (a_s8_20 : Nat → Int32), (i20 ≤ 8) → (h3_20 = ORS (fun p => decide (0 < LONE li0 wo0 de0 su0 B4 (nI pn) lf0 im am p)) i20) → (∀ k, k < i20 → a_s8_20 k = nI (LONE li0 wo0 de0 su0 B4 (nI pn) lf0 im am k)) → (8 - i20) < zz → ∀ (H : Heap) (locs : List Loc) (ls : Array Slot), va_P D vwCl [(oX4 x1 x0 s1 s2 (nI pn) si4 s5 s6 s7 s8 s9 s10 s11 si12 si13), (oX0 x0 b0 b1 b2 b3 b4 b5 b6 b7 b8 b9 b10 b11 (nI np) (nI nl) bi14), (aIc cI b0 8 B0), (aIc cI b2 8 B2), (aIc cI b3 8 B3), (aIc cI b4 8 B4), (aIc cI b8 64 B8), (aIc cI s5 8 S5), (aIc cI s6 8 (va_cpy S5 S6 (0 : Int32).toNatClampNeg (0 : Int32).toNatClampNeg (8 : Int32).toNatClampNeg)), (aIc cI s8 8 a_s8_20)] H → va_D A [(oX4 x1 x0 s1 s2 (nI pn) si4 s5 s6 s7 s8 s9 s10 s11 si12 si13), (oX0 x0 b0 b1 b2 b3 b4 b5 b6 b7 b8 b9 b10 b11 (nI np) (nI nl) bi14), (aIc cI b0 8 B0), (aIc cI b2 8 B2), (aIc cI b3 8 B3), (aIc cI b4 8 B4), (aIc cI b8 64 B8), (aIc cI s5 8 S5), (aIc cI s6 8 (va_cpy S5 S6 (0 : Int32).toNatClampNeg (0 : Int32).toNatClampNeg (8 : Int32).toNatClampNeg)), (aIc cI s8 8 a_s8_20)] → va_S A s.heap H locs → lv_has ls 5 [(4, .int (nI i20)), (3, .int h3_20), (0, .ref x1), (1, .int (nI im)), (2, .int (nI am))] → W p l e { frames := 2, cells := 0, slots := 0, locals := 48 } s m [.ref x1, .int (nI im), .int (nI am)].toArray below meth c H locs 0 0 (MQ below (cQi D (fun r u => ∃ (q0 : Nat) (S6p S8p : Nat → Int32), (q0 < 256) ∧ (nI q0 = INN li0 wo0 de0 su0 B4 (nI pn) lf0 im am) ∧ (nv S6p lf0) ∧ (nv S8p (LONE li0 wo0 de0 su0 B4 (nI pn) lf0 im am)) ∧ r = (nI q0) ∧ u = [(oX4 x1 x0 s1 s2 (nI pn) si4 s5 s6 s7 s8 s9 s10 s11 si12 si13), (oX0 x0 b0 b1 b2 b3 b4 b5 b6 b7 b8 b9 b10 b11 (nI np) (nI nl) bi14), (aIc cI b0 8 B0), (aIc cI b2 8 B2), (aIc cI b3 8 B3), (aIc cI b4 8 B4), (aIc cI b8 64 B8), (aIc cI s5 8 S5), (aIc cI s6 8 S6p), (aIc cI s8 8 S8p)]) A) [.ref x1, .int (nI im), .int (nI am)].toArray s 0 0 A) (F0 m 20 ls []) := by
    intro zz
    induction zz with
    | zero => intro i20 h3_20 a_s8_20 _ _ _; exact fun h => absurd h (Nat.not_lt_zero _)
    | succ zz ih20 =>
      intro i20 h3_20 a_s8_20 hc4_20 hin_20 hlo_20 hmu20 H locs ls hP hD hS hl
      refine lv_iload hx hb dX4_standAlone_20 (lv_at hl 0 rfl) ?_
      refine lv_bipush (v := 8) hx hb dX4_standAlone_22 (by decide) ?_
      refine lv_icmp_ge (tgt := 81) hx hb dX4_standAlone_24 (by decide) (fun c1 => ?_) (fun c1 => ?_)
      · skip
        have nc1 : 8 ≤ i20 := (nI_leI (a := 8) (b := i20) (by omega) (by omega)).mp c1
        obtain rfl : i20 = 8 := (by omega)
        obtain ⟨q9, hq9, eq9⟩ : isw8 h3_20 := by rw [hin_20]; exact ors_w8 (Nat.le_refl _)
        subst eq9
        refine lv_iload_n hx hb dX4_standAlone_81 rfl (lv_at hl 1 rfl) ?_
        refine k_iret (u := [(oX4 x1 x0 s1 s2 (nI pn) si4 s5 s6 s7 s8 s9 s10 s11 si12 si13), (oX0 x0 b0 b1 b2 b3 b4 b5 b6 b7 b8 b9 b10 b11 (nI np) (nI nl) bi14), (aIc cI b0 8 B0), (aIc cI b2 8 B2), (aIc cI b3 8 B3), (aIc cI b4 8 B4), (aIc cI b8 64 B8), (aIc cI s5 8 S5), (aIc cI s6 8 (va_cpy S5 S6 (0 : Int32).toNatClampNeg (0 : Int32).toNatClampNeg (8 : Int32).toNatClampNeg)), (aIc cI s8 8 a_s8_20)]) hx hb hr hlk hP hD hS dX4_standAlone_82 ?_
        exact ⟨q9, (va_cpy S5 S6 (0 : Int32).toNatClampNeg (0 : Int32).toNatClampNeg (8 : Int32).toNatClampNeg), a_s8_20, hq9, hin_20, hcp9, (fun k hk => hlo_20 k hk), rfl, rfl⟩
      · skip
        have nc1 : ¬ 8 ≤ i20 := fun q9 => c1 ((nI_leI (a := 8) (b := i20) (by omega) (by omega)).mpr q9)
        refine lv_aload_n hx hb dX4_standAlone_27 rfl (lv_at hl 2 rfl) ?_
        refine va_get (D := D) (ci := 4) (v := .ref s8) (C := RX4) (T := TX4) (N := 14) hx hb hts hiX4 hown hE.1 hP 0 rfl rfl 8 (by decide) (hts _ (List.mem_cons_of_mem _ wd_52)) (fun _ h9 => h9) rfl dX4_standAlone_28 ?_
        refine lv_iload hx hb dX4_standAlone_31 (lv_at hl 0 rfl) ?_
        refine lv_aload_n hx hb dX4_standAlone_33 rfl (lv_at hl 2 rfl) ?_
        refine va_get (D := D) (ci := 4) (v := .int (nI pn)) (C := RX4) (T := TX4) (N := 14) hx hb hts hiX4 hown hE.1 hP 0 rfl rfl 3 (by decide) (hts _ (List.mem_cons_of_mem _ wd_283)) (fun _ h9 => h9) rfl dX4_standAlone_34 ?_
        refine lv_iload hx hb dX4_standAlone_37 (lv_at hl 0 rfl) ?_
        refine k_iS (va_runSN (As := [.int (nI pn), .int (nI i20)]) (rest := [.int (nI i20), .ref s8]) ⟨hx, hb, hml, hown, hts⟩ (m_X7_has l D cI cJ H.size (nI pn) (nI i20)) ⟨va_cnB 2 hts gX4_standAlone_X7_has_n113 rfl rfl rfl (nwk5 hE.2) (hts _ (List.mem_cons_of_mem _ wd_2)) (by decide +kernel) ⟨Nat.le_of_ble_eq_true rfl, Nat.le_of_ble_eq_true rfl⟩, (hts _ (List.mem_cons_of_mem _ wd_311)), trivial⟩ (k_pre hE hP hD [] (by decide +kernel) rfl) rfl rfl hl.1 rfl (lv_room (Nat.le_of_ble_eq_true rfl)) dX4_standAlone_39 ⟨Nat.le_of_ble_eq_true rfl, Nat.le_of_ble_eq_true rfl⟩) hP hD hS hA [] rfl (fun _ _ h9 => h9.2) (fun r2 H locs hw3 hP hD hS => ?_)
        obtain ⟨hw3, -⟩ := hw3
        refine lv_if_eq (tgt := 56) hx hb dX4_standAlone_42 (by decide) (fun c4 => ?_) (fun c4 => ?_)
        · skip
          have hc4 : ¬ (¬ ((nI pn) >>> ((nI i20) &&& 31)) &&& 1 = 0) := bz_0 hw3 c4
          refine lv_iconst (v := 0) hx hb dX4_standAlone_56 (by decide) ?_
          refine va_iast hx hb hE.1 hP hD hS 9 0 rfl rfl (vp_in_nI (n := i20) (by omega) (by decide)) dX4_standAlone_57 (fun H locs hP hD hS => ?_)
          refine k_re (w := [(oX4 x1 x0 s1 s2 (nI pn) si4 s5 s6 s7 s8 s9 s10 s11 si12 si13), (oX0 x0 b0 b1 b2 b3 b4 b5 b6 b7 b8 b9 b10 b11 (nI np) (nI nl) bi14), (aIc cI b0 8 B0), (aIc cI b2 8 B2), (aIc cI b3 8 B3), (aIc cI b4 8 B4), (aIc cI b8 64 B8), (aIc cI s5 8 S5), (aIc cI s6 8 (va_cpy S5 S6 (0 : Int32).toNatClampNeg (0 : Int32).toNatClampNeg (8 : Int32).toNatClampNeg)), (aIc cI s8 8 (upd a_s8_20 (Int32.toNatClampNeg (nI i20)) 0))]) hP hD (fun hP hD => ?_)
          refine lv_aload_n hx hb dX4_standAlone_58 rfl (lv_at hl 2 rfl) ?_
          refine va_get (D := D) (ci := 4) (v := .ref s8) (C := RX4) (T := TX4) (N := 14) hx hb hts hiX4 hown hE.1 hP 0 rfl rfl 8 (by decide) (hts _ (List.mem_cons_of_mem _ wd_52)) (fun _ h9 => h9) rfl dX4_standAlone_59 ?_
          refine lv_iload hx hb dX4_standAlone_62 (lv_at hl 0 rfl) ?_
          refine va_iald hx hb hE.1 hP 9 0 rfl rfl (vp_in_nI (n := i20) (by omega) (by decide)) dX4_standAlone_64 ?_
          refine lv_topi (fun v5 ev5 => ?_)
          have hb9 : ¬ bt (nI pn) i20 = true := fun q9 => hc4 ((bt_nz (by omega)).mpr q9)
          have hx9 : 0 = nI (LONE li0 wo0 de0 su0 B4 (nI pn) lf0 im am i20) := congrArg nI (lone_n hb9)
          have hlb9 : LONE li0 wo0 de0 su0 B4 (nI pn) lf0 im am i20 ≤ 1000000 := lone_b (hlib i20 (by omega))
          obtain rfl : v5 = nI (LONE li0 wo0 de0 su0 B4 (nI pn) lf0 im am i20) := ev5.trans (pk_us.trans hx9)
          refine lv_if_le (tgt := 75) hx hb dX4_standAlone_65 (by decide) (fun c6 => ?_) (fun c6 => ?_)
          · skip
            have nc6 : LONE li0 wo0 de0 su0 B4 (nI pn) lf0 im am i20 ≤ 0 := (nI_leI (a := (LONE li0 wo0 de0 su0 B4 (nI pn) lf0 im am i20)) (b := 0) (by omega) (by omega)).mp c6
            refine lv_iinc (v := (nI (i20 + 1))) (lv' := [(4, .int (nI (i20 + 1))), (3, .int h3_20), (0, .ref x1), (1, .int (nI im)), (2, .int (nI am))]) hx hb dX4_standAlone_75 hl (k := 0) rfl (nI_1 _) (by decide) rfl (fun ls hl => ?_)
            refine lv_goto (tgt := 20) hx hb dX4_standAlone_78 (by decide) ?_
            exact ih20 (i20 + 1) h3_20 (upd a_s8_20 (Int32.toNatClampNeg (nI i20)) 0) (by omega) (ors_k (fun z9 => by have := of_decide_eq_true z9; omega) hin_20) (row_up (F := LONE li0 wo0 de0 su0 B4 (nI pn) lf0 im am) (by omega) hlo_20 hx9) (by omega) _ _ _ hP hD hS (lv_sub hl [0, 1, 2, 3, 4] rfl)
          · skip
            have nc6 : ¬ LONE li0 wo0 de0 su0 B4 (nI pn) lf0 im am i20 ≤ 0 := fun q9 => c6 ((nI_leI (a := (LONE li0 wo0 de0 su0 B4 (nI pn) lf0 im am i20)) (b := 0) (by omega) (by omega)).mpr q9)
            refine lv_iload_n hx hb dX4_standAlone_68 rfl (lv_at hl 1 rfl) ?_
            refine lv_iconst (v := 1) hx hb dX4_standAlone_69 (by decide) ?_
            refine lv_iload hx hb dX4_standAlone_70 (lv_at hl 0 rfl) ?_
            refine lv_ishl hx hb dX4_standAlone_72 ?_
            refine lv_topi (fun v7 ev7 => ?_)
            refine lv_ior hx hb dX4_standAlone_73 ?_
            refine lv_topi (fun v8 ev8 => ?_)
            refine lv_istore_n (lv' := [(3, .int v8), (4, .int (nI i20)), (0, .ref x1), (1, .int (nI im)), (2, .int (nI am))]) hx hb dX4_standAlone_74 rfl hl (by decide) rfl (fun ls hl => ?_)
            refine lv_iinc (v := (nI (i20 + 1))) (lv' := [(4, .int (nI (i20 + 1))), (3, .int v8), (0, .ref x1), (1, .int (nI im)), (2, .int (nI am))]) hx hb dX4_standAlone_75 hl (k := 1) rfl (nI_1 _) (by decide) rfl (fun ls hl => ?_)
            refine lv_goto (tgt := 20) hx hb dX4_standAlone_78 (by decide) ?_
            exact ih20 (i20 + 1) v8 (upd a_s8_20 (Int32.toNatClampNeg (nI i20)) 0) (by omega) (ors_y (decide_eq_true (by omega)) hin_20 ev7 ev8) (row_up (F := LONE li0 wo0 de0 su0 B4 (nI pn) lf0 im am) (by omega) hlo_20 hx9) (by omega) _ _ _ hP hD hS (lv_sub hl [0, 1, 2, 3, 4] rfl)
        · skip
          have hc4 : ¬ ((nI pn) >>> ((nI i20) &&& 31)) &&& 1 = 0 := bz_1 hw3 c4
          refine lv_aload_n hx hb dX4_standAlone_45 rfl (lv_at hl 2 rfl) ?_
          refine lv_iload hx hb dX4_standAlone_46 (lv_at hl 0 rfl) ?_
          refine lv_iload_n hx hb dX4_standAlone_48 rfl (lv_at hl 3 rfl) ?_
          refine lv_iload_n hx hb dX4_standAlone_49 rfl (lv_at hl 4 rfl) ?_
          refine k_iS (va_runV (As := [.int (nI i20), .int (nI im), .int (nI am)]) (rest := [.int (nI i20), .ref s8]) ⟨hx, hb, hml, hown, hts⟩ (e_X4_owed l D cI cJ H.size x1 x0 s1 s2 s5 s6 s7 s8 s9 s10 s11 b0 b1 b2 b3 b4 b5 b6 b7 b8 b9 b10 b11 i20 im am np nl pn si4 si12 si13 bi14 B0 B2 B3 B4 B8 (va_cpy S5 S6 (0 : Int32).toNatClampNeg (0 : Int32).toNatClampNeg (8 : Int32).toNatClampNeg) li0 wo0 de0 su0 lf0 (by omega) hit ham hliv hlib hwov hwob hdev hdeb hsb hcp9 hlfb) (cwV 3 hts gX4_standAlone_X4_owed rfl rfl rfl (by decide +kernel) ⟨Nat.le_of_ble_eq_true rfl, Nat.le_of_ble_eq_true rfl⟩) (k_preV hE hP hD [0, 1, 2, 3, 4, 5, 6, 8] (by decide +kernel) rfl 0 rfl rfl) rfl rfl hl.1 rfl (lv_room (Nat.le_of_ble_eq_true rfl)) dX4_standAlone_50 ⟨Nat.le_of_ble_eq_true rfl, Nat.le_of_ble_eq_true rfl⟩) hP hD hS hA [0, 1, 2, 3, 4, 5, 6, 8] rfl (fun _ _ ⟨_, h9⟩ => h9) (fun r9 H locs hw10 hP hD hS => ?_)
          obtain ⟨rfl, -⟩ := hw10
          refine lv_goto (tgt := 57) hx hb dX4_standAlone_53 (by decide) ?_
          refine va_iast hx hb hE.1 hP hD hS 9 0 rfl rfl (vp_in_nI (n := i20) (by omega) (by decide)) dX4_standAlone_57 (fun H locs hP hD hS => ?_)
          refine k_re (w := [(oX4 x1 x0 s1 s2 (nI pn) si4 s5 s6 s7 s8 s9 s10 s11 si12 si13), (oX0 x0 b0 b1 b2 b3 b4 b5 b6 b7 b8 b9 b10 b11 (nI np) (nI nl) bi14), (aIc cI b0 8 B0), (aIc cI b2 8 B2), (aIc cI b3 8 B3), (aIc cI b4 8 B4), (aIc cI b8 64 B8), (aIc cI s5 8 S5), (aIc cI s6 8 (va_cpy S5 S6 (0 : Int32).toNatClampNeg (0 : Int32).toNatClampNeg (8 : Int32).toNatClampNeg)), (aIc cI s8 8 (upd a_s8_20 (Int32.toNatClampNeg (nI i20)) (nI (OWE li0 wo0 de0 su0 B4 lf0 i20 im am))))]) hP hD (fun hP hD => ?_)
          refine lv_aload_n hx hb dX4_standAlone_58 rfl (lv_at hl 2 rfl) ?_
          refine va_get (D := D) (ci := 4) (v := .ref s8) (C := RX4) (T := TX4) (N := 14) hx hb hts hiX4 hown hE.1 hP 0 rfl rfl 8 (by decide) (hts _ (List.mem_cons_of_mem _ wd_52)) (fun _ h9 => h9) rfl dX4_standAlone_59 ?_
          refine lv_iload hx hb dX4_standAlone_62 (lv_at hl 0 rfl) ?_
          refine va_iald hx hb hE.1 hP 9 0 rfl rfl (vp_in_nI (n := i20) (by omega) (by decide)) dX4_standAlone_64 ?_
          refine lv_topi (fun v11 ev11 => ?_)
          have hb9 : bt (nI pn) i20 = true := (bt_nz (by omega)).mp hc4
          have hx9 : nI (OWE li0 wo0 de0 su0 B4 lf0 i20 im am) = nI (LONE li0 wo0 de0 su0 B4 (nI pn) lf0 im am i20) := congrArg nI (lone_y hb9)
          have hlb9 : LONE li0 wo0 de0 su0 B4 (nI pn) lf0 im am i20 ≤ 1000000 := lone_b (hlib i20 (by omega))
          obtain rfl : v11 = nI (LONE li0 wo0 de0 su0 B4 (nI pn) lf0 im am i20) := ev11.trans (pk_us.trans hx9)
          refine lv_if_le (tgt := 75) hx hb dX4_standAlone_65 (by decide) (fun c12 => ?_) (fun c12 => ?_)
          · skip
            have nc12 : LONE li0 wo0 de0 su0 B4 (nI pn) lf0 im am i20 ≤ 0 := (nI_leI (a := (LONE li0 wo0 de0 su0 B4 (nI pn) lf0 im am i20)) (b := 0) (by omega) (by omega)).mp c12
            refine lv_iinc (v := (nI (i20 + 1))) (lv' := [(4, .int (nI (i20 + 1))), (3, .int h3_20), (0, .ref x1), (1, .int (nI im)), (2, .int (nI am))]) hx hb dX4_standAlone_75 hl (k := 0) rfl (nI_1 _) (by decide) rfl (fun ls hl => ?_)
            refine lv_goto (tgt := 20) hx hb dX4_standAlone_78 (by decide) ?_
            exact ih20 (i20 + 1) h3_20 (upd a_s8_20 (Int32.toNatClampNeg (nI i20)) (nI (OWE li0 wo0 de0 su0 B4 lf0 i20 im am))) (by omega) (ors_k (fun z9 => by have := of_decide_eq_true z9; omega) hin_20) (row_up (F := LONE li0 wo0 de0 su0 B4 (nI pn) lf0 im am) (by omega) hlo_20 hx9) (by omega) _ _ _ hP hD hS (lv_sub hl [0, 1, 2, 3, 4] rfl)
          · skip
            have nc12 : ¬ LONE li0 wo0 de0 su0 B4 (nI pn) lf0 im am i20 ≤ 0 := fun q9 => c12 ((nI_leI (a := (LONE li0 wo0 de0 su0 B4 (nI pn) lf0 im am i20)) (b := 0) (by omega) (by omega)).mpr q9)
            refine lv_iload_n hx hb dX4_standAlone_68 rfl (lv_at hl 1 rfl) ?_
            refine lv_iconst (v := 1) hx hb dX4_standAlone_69 (by decide) ?_
            refine lv_iload hx hb dX4_standAlone_70 (lv_at hl 0 rfl) ?_
            refine lv_ishl hx hb dX4_standAlone_72 ?_
            refine lv_topi (fun v13 ev13 => ?_)
            refine lv_ior hx hb dX4_standAlone_73 ?_
            refine lv_topi (fun v14 ev14 => ?_)
            refine lv_istore_n (lv' := [(3, .int v14), (4, .int (nI i20)), (0, .ref x1), (1, .int (nI im)), (2, .int (nI am))]) hx hb dX4_standAlone_74 rfl hl (by decide) rfl (fun ls hl => ?_)
            refine lv_iinc (v := (nI (i20 + 1))) (lv' := [(4, .int (nI (i20 + 1))), (3, .int v14), (0, .ref x1), (1, .int (nI im)), (2, .int (nI am))]) hx hb dX4_standAlone_75 hl (k := 1) rfl (nI_1 _) (by decide) rfl (fun ls hl => ?_)
            refine lv_goto (tgt := 20) hx hb dX4_standAlone_78 (by decide) ?_
            exact ih20 (i20 + 1) v14 (upd a_s8_20 (Int32.toNatClampNeg (nI i20)) (nI (OWE li0 wo0 de0 su0 B4 lf0 i20 im am))) (by omega) (ors_y (decide_eq_true (by omega)) hin_20 ev13 ev14) (row_up (F := LONE li0 wo0 de0 su0 B4 (nI pn) lf0 im am) (by omega) hlo_20 hx9) (by omega) _ _ _ hP hD hS (lv_sub hl [0, 1, 2, 3, 4] rfl)
  exact J20 _ 0 0 S8 (by omega) rfl (fun k hk => absurd hk (Nat.not_lt_zero k)) (Nat.lt_succ_self _) _ _ _ hP hD hS (lv_sub hl [0, 1, 2, 3, 4] rfl)

