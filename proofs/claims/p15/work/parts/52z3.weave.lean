set_option maxHeartbeats 4000000 in
set_option maxRecDepth 100000 in
theorem e_X6_weave (l : Launch) (D : va_G) (cI cJ : ClassId) (sz : Nat) (s1 w0 w1 w2 w3 w4 w8 b6 th wn lv : Nat) (wi6 : Int32) (W0 W1 W2 W3 W4 W8 B6 KI0 : Nat → Int32) (hwn : wn < 256) (hlv : lv ≤ 8) (hth : th < 256) (hto : ∀ k, k < 8 → isw8 (B6 k)) (hki : ∀ k, k < 8 → W0 k = KI0 k) : Met l yX6_weave wtX6_weave { frames := 2, cells := 0, slots := 0, locals := 46 } (cPc D cI cJ [.ref s1, .int (nI th), .ref b6] sz [(oX6 s1 w0 w1 w2 w3 w4 (nI wn) wi6 (nI lv) w8), (aIc cI w0 8 W0), (aIc cI w1 8 W1), (aIc cI w2 8 W2), (aIc cI w3 8 W3), (aIc cI w4 8 W4), (aIc cI w8 8 W8), (aIc cI b6 8 B6)]) (cQv D (fun u => ∃ (W1p W2p W3p W4p W8p : Nat → Int32) (wi6p : Int32) (lvp : Nat), (lvp ≤ 8) ∧ (∀ k, k < 8 → W1p k = (YI KI0 B6 (nI th)) k) ∧ (∀ k, k < 8 → W2p k = RIN (clo (YI KI0 B6 (nI th)) 8) k) ∧ (LD (nI th) (TT (YI KI0 B6 (nI th))) (KE KI0) W3p wi6p lvp) ∧ (∀ j, j < lvp → W4p j = ORS (fun p => bt (nI th) p && decide (LVL (TT (YI KI0 B6 (nI th))) p = j)) 8) ∧ u = [(oX6 s1 w0 w1 w2 w3 w4 (nI th) wi6p (nI lvp) w8), (aIc cI w0 8 W0), (aIc cI w1 8 W1p), (aIc cI w2 8 W2p), (aIc cI w3 8 W3p), (aIc cI w4 8 W4p), (aIc cI w8 8 W8p), (aIc cI b6 8 B6)]) (va_A [(oX6 s1 w0 w1 w2 w3 w4 (nI wn) wi6 (nI lv) w8), (aIc cI w0 8 W0), (aIc cI w1 8 W1), (aIc cI w2 8 W2), (aIc cI w3 8 W3), (aIc cI w4 8 W4), (aIc cI w8 8 W8), (aIc cI b6 8 B6)] sz)) 0 0 (va_A [(oX6 s1 w0 w1 w2 w3 w4 (nI wn) wi6 (nI lv) w8), (aIc cI w0 8 W0), (aIc cI w1 8 W1), (aIc cI w2 8 W2), (aIc cI w3 8 W3), (aIc cI w4 8 W4), (aIc cI w8 8 W8), (aIc cI b6 8 B6)] sz) := by
  refine k_ofW (Qc := cQv D (fun u => ∃ (W1p W2p W3p W4p W8p : Nat → Int32) (wi6p : Int32) (lvp : Nat), (lvp ≤ 8) ∧ (∀ k, k < 8 → W1p k = (YI KI0 B6 (nI th)) k) ∧ (∀ k, k < 8 → W2p k = RIN (clo (YI KI0 B6 (nI th)) 8) k) ∧ (LD (nI th) (TT (YI KI0 B6 (nI th))) (KE KI0) W3p wi6p lvp) ∧ (∀ j, j < lvp → W4p j = ORS (fun p => bt (nI th) p && decide (LVL (TT (YI KI0 B6 (nI th))) p = j)) 8) ∧ u = [(oX6 s1 w0 w1 w2 w3 w4 (nI th) wi6p (nI lvp) w8), (aIc cI w0 8 W0), (aIc cI w1 8 W1p), (aIc cI w2 8 W2p), (aIc cI w3 8 W3p), (aIc cI w4 8 W4p), (aIc cI w8 8 W8p), (aIc cI b6 8 B6)])) (by decide) rfl (Nat.le_of_ble_eq_true rfl) ?_
  intro p e s m below meth c A ls hx hb hr hml hts hown hlk hnm hsz hE hP hD hS hA hl
  have hown : s.vm.findClass RX6 = some m.cls := hown
  have hiX6 : ∀ w ∈ u_ws RX6 TX6 9, w ∈ wtX6_weave := fun w h => List.mem_cons_of_mem _ (iuX6 w h)
  have hl : lv_has ls 5 [(0, .ref s1), (1, .int (nI th)), (2, .ref b6)] := hl
  refine lv_aload_n hx hb dX6_weave_0 rfl (lv_at hl 0 rfl) ?_
  refine lv_iload_n hx hb dX6_weave_1 rfl (lv_at hl 1 rfl) ?_
  refine va_put (D := D) (ci := 6) (v := .int (nI th)) (ty := .int) (C := RX6) (T := TX6) (N := 9) hx hb hts hiX6 tyX6 tyX6_ok nmX6 hown hE.1 hP hD hS 0 rfl rfl 5 (by decide) (hts _ (List.mem_cons_of_mem _ wd_333)) (fun _ h9 => h9) rfl (by decide +kernel) rfl rfl (Nat.le_of_ble_eq_true rfl) dX6_weave_2 (fun H locs hP hD hS => ?_)
  refine k_re (w := [(oX6 s1 w0 w1 w2 w3 w4 (nI th) wi6 (nI lv) w8), (aIc cI w0 8 W0), (aIc cI w1 8 W1), (aIc cI w2 8 W2), (aIc cI w3 8 W3), (aIc cI w4 8 W4), (aIc cI w8 8 W8), (aIc cI b6 8 B6)]) hP hD (fun hP hD => ?_)
  refine lv_iconst (v := 0) hx hb dX6_weave_5 (by decide) ?_
  refine lv_istore_n (lv' := [(3, .int 0), (0, .ref s1), (1, .int (nI th)), (2, .ref b6)]) hx hb dX6_weave_6 rfl hl (by decide) rfl (fun ls hl => ?_)
  have J7 : ∀ (zz : Nat) (i7 : Nat) (a_w1_7 a_w8_7 : Nat → Int32), (i7 ≤ 8) → (∀ k, k < i7 → a_w1_7 k = (YI KI0 B6 (nI th)) k ∧ a_w8_7 k = (YI KI0 B6 (nI th)) k) → (8 - i7) < zz → ∀ (H : Heap) (locs : List Loc) (ls : Array Slot), va_P D vwCl [(oX6 s1 w0 w1 w2 w3 w4 (nI th) wi6 (nI lv) w8), (aIc cI w0 8 W0), (aIc cI w1 8 a_w1_7), (aIc cI w2 8 W2), (aIc cI w3 8 W3), (aIc cI w4 8 W4), (aIc cI w8 8 a_w8_7), (aIc cI b6 8 B6)] H → va_D A [(oX6 s1 w0 w1 w2 w3 w4 (nI th) wi6 (nI lv) w8), (aIc cI w0 8 W0), (aIc cI w1 8 a_w1_7), (aIc cI w2 8 W2), (aIc cI w3 8 W3), (aIc cI w4 8 W4), (aIc cI w8 8 a_w8_7), (aIc cI b6 8 B6)] → va_S A s.heap H locs → lv_has ls 5 [(3, .int (nI i7)), (0, .ref s1), (1, .int (nI th)), (2, .ref b6)] → W p l e { frames := 2, cells := 0, slots := 0, locals := 46 } s m [.ref s1, .int (nI th), .ref b6].toArray below meth c H locs 0 0 (MQ below (cQv D (fun u => ∃ (W1p W2p W3p W4p W8p : Nat → Int32) (wi6p : Int32) (lvp : Nat), (lvp ≤ 8) ∧ (∀ k, k < 8 → W1p k = (YI KI0 B6 (nI th)) k) ∧ (∀ k, k < 8 → W2p k = RIN (clo (YI KI0 B6 (nI th)) 8) k) ∧ (LD (nI th) (TT (YI KI0 B6 (nI th))) (KE KI0) W3p wi6p lvp) ∧ (∀ j, j < lvp → W4p j = ORS (fun p => bt (nI th) p && decide (LVL (TT (YI KI0 B6 (nI th))) p = j)) 8) ∧ u = [(oX6 s1 w0 w1 w2 w3 w4 (nI th) wi6p (nI lvp) w8), (aIc cI w0 8 W0), (aIc cI w1 8 W1p), (aIc cI w2 8 W2p), (aIc cI w3 8 W3p), (aIc cI w4 8 W4p), (aIc cI w8 8 W8p), (aIc cI b6 8 B6)]) A) [.ref s1, .int (nI th), .ref b6].toArray s 0 0 A) (F0 m 7 ls []) := by
    intro zz
    induction zz with
    | zero => intro i7 a_w1_7 a_w8_7 _ _; exact fun h => absurd h (Nat.not_lt_zero _)
    | succ zz ih7 =>
      intro i7 a_w1_7 a_w8_7 hc3_7 hyy_7 hmu7 H locs ls hP hD hS hl
      refine lv_iload_n hx hb dX6_weave_7 rfl (lv_at hl 0 rfl) ?_
      refine lv_bipush (v := 8) hx hb dX6_weave_8 (by decide) ?_
      refine lv_icmp_ge (tgt := 88) hx hb dX6_weave_10 (by decide) (fun c1 => ?_) (fun c1 => ?_)
      · skip
        have nc1 : 8 ≤ i7 := (nI_leI (a := 8) (b := i7) (by omega) (by omega)).mp c1
        refine lv_aload_n hx hb dX6_weave_88 rfl (lv_at hl 1 rfl) ?_
        refine k_v (va_runV (As := []) (rest := []) ⟨hx, hb, hml, hown, hts⟩ (e_X6_findRings l D cI cJ H.size s1 w0 w1 w2 w3 w4 w8 th lv wi6 W2 a_w8_7 (YI KI0 B6 (nI th)) (fun k hk => (hyy_7 k (by omega)).2)) (cwV 0 hts gX6_weave_X6_findRings rfl rfl rfl (by decide +kernel) ⟨Nat.le_of_ble_eq_true rfl, Nat.le_of_ble_eq_true rfl⟩) (k_preV hE hP hD [0, 3, 6] (by decide +kernel) rfl 0 rfl rfl) rfl rfl hl.1 rfl (lv_room (Nat.le_of_ble_eq_true rfl)) dX6_weave_89 ⟨Nat.le_of_ble_eq_true rfl, Nat.le_of_ble_eq_true rfl⟩) hP hD hS hA [0, 3, 6] [1, 2, 4, 5, 7] rfl (wr := [(aIc cI w0 8 W0), (aIc cI w1 8 a_w1_7), (aIc cI w3 8 W3), (aIc cI w4 8 W4), (aIc cI b6 8 B6)]) rfl (by decide +kernel) (by decide +kernel) (fun u H locs hw2 hP hD hS => ?_)
        obtain ⟨z3, z4, hz5, hz6, rfl⟩ := hw2
        refine k_re (w := [(aIc cI w0 8 W0), (aIc cI w1 8 a_w1_7), (aIc cI w3 8 W3), (aIc cI w4 8 W4), (aIc cI b6 8 B6), (oX6 s1 w0 w1 w2 w3 w4 (nI th) wi6 (nI lv) w8), (aIc cI w2 8 z3), (aIc cI w8 8 z4)]) hP hD (fun hP hD => ?_)
        refine lv_aload_n hx hb dX6_weave_92 rfl (lv_at hl 1 rfl) ?_
        refine k_v (va_runV (As := []) (rest := []) ⟨hx, hb, hml, hown, hts⟩ (e_X6_findLevels l D cI cJ H.size s1 w0 w1 w2 w3 w4 w8 th lv wi6 W0 a_w1_7 z3 W3 W4 (YI KI0 B6 (nI th)) KI0 hth hlv (fun k hk => (hyy_7 k (by omega)).1) hz5 (fun k hk => yi_w8 (hto k hk)) (fun p q _ hq h => yi_in hq h) hki) (cwV 0 hts gX6_weave_X6_findLevels rfl rfl rfl (by decide +kernel) ⟨Nat.le_of_ble_eq_true rfl, Nat.le_of_ble_eq_true rfl⟩) (k_preV hE hP hD [5, 0, 1, 6, 2, 3] (by decide +kernel) rfl 5 rfl rfl) rfl rfl hl.1 rfl (lv_room (Nat.le_of_ble_eq_true rfl)) dX6_weave_93 ⟨Nat.le_of_ble_eq_true rfl, Nat.le_of_ble_eq_true rfl⟩) hP hD hS hA [5, 0, 1, 6, 2, 3] [4, 7] rfl (wr := [(aIc cI b6 8 B6), (aIc cI w8 8 z4)]) rfl (by decide +kernel) (by decide +kernel) (fun u H locs hw7 hP hD hS => ?_)
        obtain ⟨z8, z9, z10, z11, hz12, hz13, hz14, rfl⟩ := hw7
        refine k_re (w := [(aIc cI b6 8 B6), (aIc cI w8 8 z4), (oX6 s1 w0 w1 w2 w3 w4 (nI th) z10 (nI z11) w8), (aIc cI w0 8 W0), (aIc cI w1 8 a_w1_7), (aIc cI w2 8 z3), (aIc cI w3 8 z8), (aIc cI w4 8 z9)]) hP hD (fun hP hD => ?_)
        refine k_vret (u := [(oX6 s1 w0 w1 w2 w3 w4 (nI th) z10 (nI z11) w8), (aIc cI w0 8 W0), (aIc cI w1 8 a_w1_7), (aIc cI w2 8 z3), (aIc cI w3 8 z8), (aIc cI w4 8 z9), (aIc cI w8 8 z4), (aIc cI b6 8 B6)]) hx hb hr hlk (k_sub hP [2, 3, 4, 5, 6, 7, 1, 0] rfl) (hD.sub [2, 3, 4, 5, 6, 7, 1, 0] (by decide +kernel) rfl) hS dX6_weave_96 ?_
        exact ⟨a_w1_7, z3, z8, z9, z4, z10, z11, hz12, (fun k hk => (hyy_7 k (by omega)).1), hz5, hz13, hz14, rfl⟩
      · skip
        have nc1 : ¬ 8 ≤ i7 := fun q9 => c1 ((nI_leI (a := 8) (b := i7) (by omega) (by omega)).mpr q9)
        refine lv_aload_n hx hb dX6_weave_13 rfl (lv_at hl 1 rfl) ?_
        refine va_get (D := D) (ci := 6) (v := .int (nI th)) (C := RX6) (T := TX6) (N := 9) hx hb hts hiX6 hown hE.1 hP 0 rfl rfl 5 (by decide) (hts _ (List.mem_cons_of_mem _ wd_333)) (fun _ h9 => h9) rfl dX6_weave_14 ?_
        refine lv_iload_n hx hb dX6_weave_17 rfl (lv_at hl 0 rfl) ?_
        refine k_iS (va_runSN (As := [.int (nI th), .int (nI i7)]) (rest := []) ⟨hx, hb, hml, hown, hts⟩ (m_X7_has l D cI cJ H.size (nI th) (nI i7)) ⟨va_cnB 2 hts gX6_weave_X7_has_n34 rfl rfl rfl (nwk6 hE.2) (hts _ (List.mem_cons_of_mem _ wd_2)) (by decide +kernel) ⟨Nat.le_of_ble_eq_true rfl, Nat.le_of_ble_eq_true rfl⟩, (hts _ (List.mem_cons_of_mem _ wd_311)), trivial⟩ (k_pre hE hP hD [] (by decide +kernel) rfl) rfl rfl hl.1 rfl (lv_room (Nat.le_of_ble_eq_true rfl)) dX6_weave_18 ⟨Nat.le_of_ble_eq_true rfl, Nat.le_of_ble_eq_true rfl⟩) hP hD hS hA [] rfl (fun _ _ h9 => h9.2) (fun r15 H locs hw16 hP hD hS => ?_)
        obtain ⟨hw16, -⟩ := hw16
        refine lv_if_eq (tgt := 38) hx hb dX6_weave_21 (by decide) (fun c17 => ?_) (fun c17 => ?_)
        · skip
          have hc17 : ¬ (¬ ((nI th) >>> ((nI i7) &&& 31)) &&& 1 = 0) := bz_0 hw16 c17
          refine lv_iconst (v := 0) hx hb dX6_weave_38 (by decide) ?_
          refine lv_istore (lv' := [(4, .int 0), (3, .int (nI i7)), (0, .ref s1), (1, .int (nI th)), (2, .ref b6)]) hx hb dX6_weave_39 hl (by decide) rfl (fun ls hl => ?_)
          refine lv_aload_n hx hb dX6_weave_41 rfl (lv_at hl 2 rfl) ?_
          refine va_get (D := D) (ci := 6) (v := .ref w1) (C := RX6) (T := TX6) (N := 9) hx hb hts hiX6 hown hE.1 hP 0 rfl rfl 1 (by decide) (hts _ (List.mem_cons_of_mem _ wd_80)) (fun _ h9 => h9) rfl dX6_weave_42 ?_
          refine lv_iload_n hx hb dX6_weave_45 rfl (lv_at hl 1 rfl) ?_
          refine lv_iload hx hb dX6_weave_46 (lv_at hl 0 rfl) ?_
          refine lv_if_eq (tgt := 68) hx hb dX6_weave_48 (by decide) (fun _ => ?_) (fun c18 => absurd (by decide) c18)
          refine lv_iconst (v := 0) hx hb dX6_weave_68 (by decide) ?_
          refine va_iast hx hb hE.1 hP hD hS 2 0 rfl rfl (vp_in_nI (n := i7) (by omega) (by decide)) dX6_weave_69 (fun H locs hP hD hS => ?_)
          refine k_re (w := [(oX6 s1 w0 w1 w2 w3 w4 (nI th) wi6 (nI lv) w8), (aIc cI w0 8 W0), (aIc cI w1 8 (upd a_w1_7 (Int32.toNatClampNeg (nI i7)) 0)), (aIc cI w2 8 W2), (aIc cI w3 8 W3), (aIc cI w4 8 W4), (aIc cI w8 8 a_w8_7), (aIc cI b6 8 B6)]) hP hD (fun hP hD => ?_)
          refine lv_aload_n hx hb dX6_weave_70 rfl (lv_at hl 2 rfl) ?_
          refine va_get (D := D) (ci := 6) (v := .ref w8) (C := RX6) (T := TX6) (N := 9) hx hb hts hiX6 hown hE.1 hP 0 rfl rfl 8 (by decide) (hts _ (List.mem_cons_of_mem _ wd_84)) (fun _ h9 => h9) rfl dX6_weave_71 ?_
          refine lv_iload_n hx hb dX6_weave_74 rfl (lv_at hl 1 rfl) ?_
          refine lv_aload_n hx hb dX6_weave_75 rfl (lv_at hl 2 rfl) ?_
          refine va_get (D := D) (ci := 6) (v := .ref w1) (C := RX6) (T := TX6) (N := 9) hx hb hts hiX6 hown hE.1 hP 0 rfl rfl 1 (by decide) (hts _ (List.mem_cons_of_mem _ wd_80)) (fun _ h9 => h9) rfl dX6_weave_76 ?_
          refine lv_iload_n hx hb dX6_weave_79 rfl (lv_at hl 1 rfl) ?_
          refine va_iald hx hb hE.1 hP 2 0 rfl rfl (vp_in_nI (n := i7) (by omega) (by decide)) dX6_weave_80 ?_
          refine lv_topi (fun v19 ev19 => ?_)
          refine va_iast hx hb hE.1 hP hD hS 6 0 rfl rfl (vp_in_nI (n := i7) (by omega) (by decide)) dX6_weave_81 (fun H locs hP hD hS => ?_)
          refine k_re (w := [(oX6 s1 w0 w1 w2 w3 w4 (nI th) wi6 (nI lv) w8), (aIc cI w0 8 W0), (aIc cI w1 8 (upd a_w1_7 (Int32.toNatClampNeg (nI i7)) 0)), (aIc cI w2 8 W2), (aIc cI w3 8 W3), (aIc cI w4 8 W4), (aIc cI w8 8 (upd a_w8_7 (Int32.toNatClampNeg (nI i7)) v19)), (aIc cI b6 8 B6)]) hP hD (fun hP hD => ?_)
          refine lv_iinc (v := (nI (i7 + 1))) (lv' := [(3, .int (nI (i7 + 1))), (4, .int 0), (0, .ref s1), (1, .int (nI th)), (2, .ref b6)]) hx hb dX6_weave_82 hl (k := 1) rfl (nI_1 _) (by decide) rfl (fun ls hl => ?_)
          refine lv_goto (tgt := 7) hx hb dX6_weave_85 (by decide) ?_
          exact ih7 (i7 + 1) (upd a_w1_7 (Int32.toNatClampNeg (nI i7)) 0) (upd a_w8_7 (Int32.toNatClampNeg (nI i7)) v19) (by omega) (rows2_up (F := (YI KI0 B6 (nI th))) (by omega) hyy_7 (yi_n (fun q9 => hc17 ((bt_nz (by omega)).mpr q9))) ev19) (by omega) _ _ _ hP hD hS (lv_sub hl [0, 2, 3, 4] rfl)
        · skip
          have hc17 : ¬ ((nI th) >>> ((nI i7) &&& 31)) &&& 1 = 0 := bz_1 hw16 c17
          refine lv_aload_n hx hb dX6_weave_24 rfl (lv_at hl 1 rfl) ?_
          refine va_get (D := D) (ci := 6) (v := .ref w0) (C := RX6) (T := TX6) (N := 9) hx hb hts hiX6 hown hE.1 hP 0 rfl rfl 0 (by decide) (hts _ (List.mem_cons_of_mem _ wd_79)) (fun _ h9 => h9) rfl dX6_weave_25 ?_
          refine lv_iload_n hx hb dX6_weave_28 rfl (lv_at hl 0 rfl) ?_
          refine va_iald hx hb hE.1 hP 1 0 rfl rfl (vp_in_nI (n := i7) (by omega) (by decide)) dX6_weave_29 ?_
          refine lv_topi (fun v20 ev20 => ?_)
          refine lv_iconst (v := 2) hx hb dX6_weave_30 (by decide) ?_
          refine lv_icmp_lt (tgt := 38) hx hb dX6_weave_31 (by decide) (fun c21 => ?_) (fun c21 => ?_)
          · skip
            refine lv_iconst (v := 0) hx hb dX6_weave_38 (by decide) ?_
            refine lv_istore (lv' := [(4, .int 0), (3, .int (nI i7)), (0, .ref s1), (1, .int (nI th)), (2, .ref b6)]) hx hb dX6_weave_39 hl (by decide) rfl (fun ls hl => ?_)
            refine lv_aload_n hx hb dX6_weave_41 rfl (lv_at hl 2 rfl) ?_
            refine va_get (D := D) (ci := 6) (v := .ref w1) (C := RX6) (T := TX6) (N := 9) hx hb hts hiX6 hown hE.1 hP 0 rfl rfl 1 (by decide) (hts _ (List.mem_cons_of_mem _ wd_80)) (fun _ h9 => h9) rfl dX6_weave_42 ?_
            refine lv_iload_n hx hb dX6_weave_45 rfl (lv_at hl 1 rfl) ?_
            refine lv_iload hx hb dX6_weave_46 (lv_at hl 0 rfl) ?_
            refine lv_if_eq (tgt := 68) hx hb dX6_weave_48 (by decide) (fun _ => ?_) (fun c22 => absurd (by decide) c22)
            refine lv_iconst (v := 0) hx hb dX6_weave_68 (by decide) ?_
            refine va_iast hx hb hE.1 hP hD hS 2 0 rfl rfl (vp_in_nI (n := i7) (by omega) (by decide)) dX6_weave_69 (fun H locs hP hD hS => ?_)
            refine k_re (w := [(oX6 s1 w0 w1 w2 w3 w4 (nI th) wi6 (nI lv) w8), (aIc cI w0 8 W0), (aIc cI w1 8 (upd a_w1_7 (Int32.toNatClampNeg (nI i7)) 0)), (aIc cI w2 8 W2), (aIc cI w3 8 W3), (aIc cI w4 8 W4), (aIc cI w8 8 a_w8_7), (aIc cI b6 8 B6)]) hP hD (fun hP hD => ?_)
            refine lv_aload_n hx hb dX6_weave_70 rfl (lv_at hl 2 rfl) ?_
            refine va_get (D := D) (ci := 6) (v := .ref w8) (C := RX6) (T := TX6) (N := 9) hx hb hts hiX6 hown hE.1 hP 0 rfl rfl 8 (by decide) (hts _ (List.mem_cons_of_mem _ wd_84)) (fun _ h9 => h9) rfl dX6_weave_71 ?_
            refine lv_iload_n hx hb dX6_weave_74 rfl (lv_at hl 1 rfl) ?_
            refine lv_aload_n hx hb dX6_weave_75 rfl (lv_at hl 2 rfl) ?_
            refine va_get (D := D) (ci := 6) (v := .ref w1) (C := RX6) (T := TX6) (N := 9) hx hb hts hiX6 hown hE.1 hP 0 rfl rfl 1 (by decide) (hts _ (List.mem_cons_of_mem _ wd_80)) (fun _ h9 => h9) rfl dX6_weave_76 ?_
            refine lv_iload_n hx hb dX6_weave_79 rfl (lv_at hl 1 rfl) ?_
            refine va_iald hx hb hE.1 hP 2 0 rfl rfl (vp_in_nI (n := i7) (by omega) (by decide)) dX6_weave_80 ?_
            refine lv_topi (fun v23 ev23 => ?_)
            refine va_iast hx hb hE.1 hP hD hS 6 0 rfl rfl (vp_in_nI (n := i7) (by omega) (by decide)) dX6_weave_81 (fun H locs hP hD hS => ?_)
            refine k_re (w := [(oX6 s1 w0 w1 w2 w3 w4 (nI th) wi6 (nI lv) w8), (aIc cI w0 8 W0), (aIc cI w1 8 (upd a_w1_7 (Int32.toNatClampNeg (nI i7)) 0)), (aIc cI w2 8 W2), (aIc cI w3 8 W3), (aIc cI w4 8 W4), (aIc cI w8 8 (upd a_w8_7 (Int32.toNatClampNeg (nI i7)) v23)), (aIc cI b6 8 B6)]) hP hD (fun hP hD => ?_)
            refine lv_iinc (v := (nI (i7 + 1))) (lv' := [(3, .int (nI (i7 + 1))), (4, .int 0), (0, .ref s1), (1, .int (nI th)), (2, .ref b6)]) hx hb dX6_weave_82 hl (k := 1) rfl (nI_1 _) (by decide) rfl (fun ls hl => ?_)
            refine lv_goto (tgt := 7) hx hb dX6_weave_85 (by decide) ?_
            exact ih7 (i7 + 1) (upd a_w1_7 (Int32.toNatClampNeg (nI i7)) 0) (upd a_w8_7 (Int32.toNatClampNeg (nI i7)) v23) (by omega) (rows2_up (F := (YI KI0 B6 (nI th))) (by omega) hyy_7 (yi_k (by omega) ((cl_at (A := W0) (by omega) ev20).trans (hki i7 (by omega))) c21) ev23) (by omega) _ _ _ hP hD hS (lv_sub hl [0, 2, 3, 4] rfl)
          · skip
            refine lv_iconst (v := 1) hx hb dX6_weave_34 (by decide) ?_
            refine lv_goto (tgt := 39) hx hb dX6_weave_35 (by decide) ?_
            refine lv_istore (lv' := [(4, .int 1), (3, .int (nI i7)), (0, .ref s1), (1, .int (nI th)), (2, .ref b6)]) hx hb dX6_weave_39 hl (by decide) rfl (fun ls hl => ?_)
            refine lv_aload_n hx hb dX6_weave_41 rfl (lv_at hl 2 rfl) ?_
            refine va_get (D := D) (ci := 6) (v := .ref w1) (C := RX6) (T := TX6) (N := 9) hx hb hts hiX6 hown hE.1 hP 0 rfl rfl 1 (by decide) (hts _ (List.mem_cons_of_mem _ wd_80)) (fun _ h9 => h9) rfl dX6_weave_42 ?_
            refine lv_iload_n hx hb dX6_weave_45 rfl (lv_at hl 1 rfl) ?_
            refine lv_iload hx hb dX6_weave_46 (lv_at hl 0 rfl) ?_
            refine lv_if_eq (tgt := 68) hx hb dX6_weave_48 (by decide) (fun c24 => absurd c24 (by decide)) (fun _ => ?_)
            refine lv_aload_n hx hb dX6_weave_51 rfl (lv_at hl 4 rfl) ?_
            refine lv_iload_n hx hb dX6_weave_52 rfl (lv_at hl 1 rfl) ?_
            refine va_iald hx hb hE.1 hP 7 0 rfl rfl (vp_in_nI (n := i7) (by omega) (by decide)) dX6_weave_53 ?_
            refine lv_topi (fun v25 ev25 => ?_)
            refine lv_aload_n hx hb dX6_weave_54 rfl (lv_at hl 2 rfl) ?_
            refine va_get (D := D) (ci := 6) (v := .int (nI th)) (C := RX6) (T := TX6) (N := 9) hx hb hts hiX6 hown hE.1 hP 0 rfl rfl 5 (by decide) (hts _ (List.mem_cons_of_mem _ wd_333)) (fun _ h9 => h9) rfl dX6_weave_55 ?_
            refine lv_iand hx hb dX6_weave_58 ?_
            refine lv_topi (fun v26 ev26 => ?_)
            refine lv_iconst (v := 1) hx hb dX6_weave_59 (by decide) ?_
            refine lv_iload_n hx hb dX6_weave_60 rfl (lv_at hl 1 rfl) ?_
            refine lv_ishl hx hb dX6_weave_61 ?_
            refine lv_topi (fun v27 ev27 => ?_)
            refine lv_iconst (v := (-1)) hx hb dX6_weave_62 (by decide) ?_
            refine lv_ixor hx hb dX6_weave_63 ?_
            refine lv_topi (fun v28 ev28 => ?_)
            refine lv_iand hx hb dX6_weave_64 ?_
            refine lv_topi (fun v29 ev29 => ?_)
            refine lv_goto (tgt := 69) hx hb dX6_weave_65 (by decide) ?_
            refine va_iast hx hb hE.1 hP hD hS 2 0 rfl rfl (vp_in_nI (n := i7) (by omega) (by decide)) dX6_weave_69 (fun H locs hP hD hS => ?_)
            refine k_re (w := [(oX6 s1 w0 w1 w2 w3 w4 (nI th) wi6 (nI lv) w8), (aIc cI w0 8 W0), (aIc cI w1 8 (upd a_w1_7 (Int32.toNatClampNeg (nI i7)) v29)), (aIc cI w2 8 W2), (aIc cI w3 8 W3), (aIc cI w4 8 W4), (aIc cI w8 8 a_w8_7), (aIc cI b6 8 B6)]) hP hD (fun hP hD => ?_)
            refine lv_aload_n hx hb dX6_weave_70 rfl (lv_at hl 2 rfl) ?_
            refine va_get (D := D) (ci := 6) (v := .ref w8) (C := RX6) (T := TX6) (N := 9) hx hb hts hiX6 hown hE.1 hP 0 rfl rfl 8 (by decide) (hts _ (List.mem_cons_of_mem _ wd_84)) (fun _ h9 => h9) rfl dX6_weave_71 ?_
            refine lv_iload_n hx hb dX6_weave_74 rfl (lv_at hl 1 rfl) ?_
            refine lv_aload_n hx hb dX6_weave_75 rfl (lv_at hl 2 rfl) ?_
            refine va_get (D := D) (ci := 6) (v := .ref w1) (C := RX6) (T := TX6) (N := 9) hx hb hts hiX6 hown hE.1 hP 0 rfl rfl 1 (by decide) (hts _ (List.mem_cons_of_mem _ wd_80)) (fun _ h9 => h9) rfl dX6_weave_76 ?_
            refine lv_iload_n hx hb dX6_weave_79 rfl (lv_at hl 1 rfl) ?_
            refine va_iald hx hb hE.1 hP 2 0 rfl rfl (vp_in_nI (n := i7) (by omega) (by decide)) dX6_weave_80 ?_
            refine lv_topi (fun v30 ev30 => ?_)
            refine va_iast hx hb hE.1 hP hD hS 6 0 rfl rfl (vp_in_nI (n := i7) (by omega) (by decide)) dX6_weave_81 (fun H locs hP hD hS => ?_)
            refine k_re (w := [(oX6 s1 w0 w1 w2 w3 w4 (nI th) wi6 (nI lv) w8), (aIc cI w0 8 W0), (aIc cI w1 8 (upd a_w1_7 (Int32.toNatClampNeg (nI i7)) v29)), (aIc cI w2 8 W2), (aIc cI w3 8 W3), (aIc cI w4 8 W4), (aIc cI w8 8 (upd a_w8_7 (Int32.toNatClampNeg (nI i7)) v30)), (aIc cI b6 8 B6)]) hP hD (fun hP hD => ?_)
            refine lv_iinc (v := (nI (i7 + 1))) (lv' := [(3, .int (nI (i7 + 1))), (4, .int 1), (0, .ref s1), (1, .int (nI th)), (2, .ref b6)]) hx hb dX6_weave_82 hl (k := 1) rfl (nI_1 _) (by decide) rfl (fun ls hl => ?_)
            refine lv_goto (tgt := 7) hx hb dX6_weave_85 (by decide) ?_
            exact ih7 (i7 + 1) (upd a_w1_7 (Int32.toNatClampNeg (nI i7)) v29) (upd a_w8_7 (Int32.toNatClampNeg (nI i7)) v30) (by omega) (rows2_up (F := (YI KI0 B6 (nI th))) (by omega) hyy_7 (yi_y (by omega) ((bt_nz (by omega)).mp hc17) ((cl_at (A := W0) (by omega) ev20).trans (hki i7 (by omega))) c21 ev25 ev26 ev27 ev28 ev29) ev30) (by omega) _ _ _ hP hD hS (lv_sub hl [0, 2, 3, 4] rfl)
  exact J7 _ 0 W1 W8 (by omega) (fun k hk => absurd hk (Nat.not_lt_zero k)) (Nat.lt_succ_self _) _ _ _ hP hD hS (lv_sub hl [0, 1, 2, 3] rfl)

