set_option maxHeartbeats 4000000 in
set_option maxRecDepth 100000 in
theorem e_X7_bitsOfDouble (l : Launch) (D : va_G) (cI cJ : ClassId) (sz : Nat) (fn : Nat) (fx : UInt64) (hfx : fx.toNat = fn) (hfn : fn = 0 ∨ (4503599627370496 ≤ fn ∧ fn ≤ 1023 * 4503599627370496)) : Met l yX7_bitsOfDouble wtX7_bitsOfDouble { frames := 0, cells := 0, slots := 0, locals := 0 } (cPc D cI cJ [.double fx] sz []) (cQl D (fun r u => r = (lN fn) ∧ u = []) (va_A [] sz)) 0 0 (va_A [] sz) := by
  refine k_ofW (Qc := cQl D (fun r u => r = (lN fn) ∧ u = [])) (by decide) rfl (Nat.le_of_ble_eq_true rfl) ?_
  intro p e s m below meth c A ls hx hb hr hml hts hown hlk hnm hsz hE hP hD hS hA hl
  have hown : s.vm.findClass RX7 = some m.cls := hown
  have hl : lv_has ls 7 [(0, .double fx)] := hl
  refine lv_dload_n hx hb dX7_bitsOfDouble_0 rfl (lv_at hl 0 rfl) ?_
  refine lv_dconst0 hx hb dX7_bitsOfDouble_1 ?_
  refine lv_topd (fun y1 ey1 => ?_)
  refine lv_dcmp hx hb dX7_bitsOfDouble_2 ?_
  refine lv_topi (fun v2 ev2 => ?_)
  refine lv_if_gt (tgt := 8) hx hb dX7_bitsOfDouble_3 (by decide) (fun c3 => ?_) (fun c3 => ?_)
  · skip
    have zy9 : y1.toNat = 0 := by rw [ey1]; decide
    have zc9 := q64_gt (x := fx) (y := y1) (by omega) (by omega) ev2
    have zd9 := zc9.mp c3
    have hf1 : 4503599627370496 ≤ fn := by omega
    have hf2 : fn ≤ 1023 * 4503599627370496 := by omega
    refine lv_dload_n hx hb dX7_bitsOfDouble_8 rfl (lv_at hl 0 rfl) ?_
    refine lv_dstore_n (lv' := [(2, .double fx), (0, .double fx)]) hx hb dX7_bitsOfDouble_9 rfl hl (by decide) rfl (fun ls hl => ?_)
    refine lv_ldc2 (v := 1023) hx hb hown (hts _ (List.mem_cons_of_mem _ wd_635)) dX7_bitsOfDouble_10 ?_
    refine lv_lstore (lv' := [(4, .long 1023), (2, .double fx), (0, .double fx)]) hx hb dX7_bitsOfDouble_13 hl (by decide) rfl (fun ls hl => ?_)
    refine lv_iconst (v := 0) hx hb dX7_bitsOfDouble_15 (by decide) ?_
    refine lv_istore (lv' := [(6, .int 0), (4, .long 1023), (2, .double fx), (0, .double fx)]) hx hb dX7_bitsOfDouble_16 hl (by decide) rfl (fun ls hl => ?_)
    have J18 : ∀ (zz : Nat) (i18 : Nat) (h2_18 : UInt64) (h4_18 : Int64), (i18 ≤ 1022) → (h2_18.toNat = fn + i18 * 4503599627370496) → (h4_18 = lN (1023 - i18)) → (fn + i18 * 4503599627370496 < 1024 * 4503599627370496) → (1022 - i18) < zz → ∀ (H : Heap) (locs : List Loc) (ls : Array Slot), va_P D vwCl [] H → va_D A [] → va_S A s.heap H locs → lv_has ls 7 [(6, .int (nI i18)), (4, .long h4_18), (2, .double h2_18), (0, .double fx)] → W p l e { frames := 0, cells := 0, slots := 0, locals := 0 } s m [.double fx].toArray below meth c H locs 0 0 (MQ below (cQl D (fun r u => r = (lN fn) ∧ u = []) A) [.double fx].toArray s 0 0 A) (F0 m 18 ls []) := by
      intro zz
      induction zz with
      | zero => intro i18 h2_18 h4_18 _ _ _ _; exact fun h => absurd h (Nat.not_lt_zero _)
      | succ zz ih18 =>
        intro i18 h2_18 h4_18 hc6_18 hm_18 he_18 hu_18 hmu18 H locs ls hP hD hS hl
        refine lv_iload hx hb dX7_bitsOfDouble_18 (lv_at hl 0 rfl) ?_
        refine lv_sipush (v := 1022) hx hb dX7_bitsOfDouble_20 (by decide) ?_
        refine lv_icmp_ge (tgt := 50) hx hb dX7_bitsOfDouble_23 (by decide) (fun c4 => ?_) (fun c4 => ?_)
        · skip
          have nc4 : 1022 ≤ i18 := (nI_leI (a := 1022) (b := i18) (by omega) (by omega)).mp c4
          have hge9 : 1023 * 4503599627370496 ≤ fn + i18 * 4503599627370496 := by omega
          obtain ⟨tq, etq⟩ : ∃ z : Nat, z = fn + i18 * 4503599627370496 - 1023 * 4503599627370496 := ⟨_, rfl⟩
          have htq : tq < 4503599627370496 := by omega
          refine lv_lload hx hb dX7_bitsOfDouble_50 (lv_at hl 1 rfl) ?_
          refine lv_bipush (v := 52) hx hb dX7_bitsOfDouble_52 (by decide) ?_
          refine lv_lshl hx hb dX7_bitsOfDouble_54 rfl ?_
          refine lv_topl (fun v5 ev5 => ?_)
          obtain rfl : v5 = lN ((1023 - i18) * 4503599627370496) := sh52 (by omega) he_18 ev5
          refine lv_dload_n hx hb dX7_bitsOfDouble_55 rfl (lv_at hl 2 rfl) ?_
          refine lv_ldc2d (v := 4841369599423283200) hx hb hown (hts _ (List.mem_cons_of_mem _ wd_637)) dX7_bitsOfDouble_56 ?_
          have zm9 := q64_mul (x := h2_18) (y := 4841369599423283200) (n := fn + i18 * 4503599627370496) (k := 52) hm_18 (by omega) (by omega) (by decide) (by decide)
          refine lv_dmul hx hb dX7_bitsOfDouble_59 (q64_n (by rw [zm9]; omega)) ?_
          refine lv_topd (fun y6 ey6 => ?_)
          have ty6 : y6.toNat = fn + i18 * 4503599627370496 + 52 * 4503599627370496 := by rw [ey6]; exact zm9
          refine lv_d2l hx hb dX7_bitsOfDouble_60 ?_
          refine lv_topl (fun v7 ev7 => ?_)
          obtain rfl : v7 = lN (4503599627370496 + tq) := ev7.trans (q64_i htq (by omega))
          refine lv_ldc2 (v := 4503599627370496) hx hb hown (hts _ (List.mem_cons_of_mem _ wd_638)) dX7_bitsOfDouble_61 ?_
          refine lv_lsub hx hb dX7_bitsOfDouble_64 ?_
          refine lv_topl (fun v8 ev8 => ?_)
          obtain rfl : v8 = lN tq := sb52 ev8
          refine lv_lor hx hb dX7_bitsOfDouble_65 ?_
          refine lv_topl (fun v9 ev9 => ?_)
          obtain rfl : v9 = lN ((1023 - i18) * 4503599627370496 + tq) := or52 htq ev9
          refine k_lret (u := []) hx hb hr hlk hP hD hS dX7_bitsOfDouble_66 ?_
          exact ⟨(congrArg lN (by omega)), rfl⟩
        · skip
          have nc4 : ¬ 1022 ≤ i18 := fun q9 => c4 ((nI_leI (a := 1022) (b := i18) (by omega) (by omega)).mpr q9)
          refine lv_dload_n hx hb dX7_bitsOfDouble_26 rfl (lv_at hl 2 rfl) ?_
          refine lv_dconst1 hx hb dX7_bitsOfDouble_27 ?_
          refine lv_topd (fun y10 ey10 => ?_)
          refine lv_dcmp hx hb dX7_bitsOfDouble_28 ?_
          refine lv_topi (fun v11 ev11 => ?_)
          refine lv_if_ge (tgt := 50) hx hb dX7_bitsOfDouble_29 (by decide) (fun c12 => ?_) (fun c12 => ?_)
          · skip
            have zy9 : y10.toNat = 1023 * 4503599627370496 := by rw [ey10]; decide
            have zc9 := q64_ge (x := h2_18) (y := y10) (by omega) (by omega) ev11
            have zd9 := zc9.mp c12
            have hge9 : 1023 * 4503599627370496 ≤ fn + i18 * 4503599627370496 := by omega
            obtain ⟨tq, etq⟩ : ∃ z : Nat, z = fn + i18 * 4503599627370496 - 1023 * 4503599627370496 := ⟨_, rfl⟩
            have htq : tq < 4503599627370496 := by omega
            refine lv_lload hx hb dX7_bitsOfDouble_50 (lv_at hl 1 rfl) ?_
            refine lv_bipush (v := 52) hx hb dX7_bitsOfDouble_52 (by decide) ?_
            refine lv_lshl hx hb dX7_bitsOfDouble_54 rfl ?_
            refine lv_topl (fun v13 ev13 => ?_)
            obtain rfl : v13 = lN ((1023 - i18) * 4503599627370496) := sh52 (by omega) he_18 ev13
            refine lv_dload_n hx hb dX7_bitsOfDouble_55 rfl (lv_at hl 2 rfl) ?_
            refine lv_ldc2d (v := 4841369599423283200) hx hb hown (hts _ (List.mem_cons_of_mem _ wd_637)) dX7_bitsOfDouble_56 ?_
            have zm9 := q64_mul (x := h2_18) (y := 4841369599423283200) (n := fn + i18 * 4503599627370496) (k := 52) hm_18 (by omega) (by omega) (by decide) (by decide)
            refine lv_dmul hx hb dX7_bitsOfDouble_59 (q64_n (by rw [zm9]; omega)) ?_
            refine lv_topd (fun y14 ey14 => ?_)
            have ty14 : y14.toNat = fn + i18 * 4503599627370496 + 52 * 4503599627370496 := by rw [ey14]; exact zm9
            refine lv_d2l hx hb dX7_bitsOfDouble_60 ?_
            refine lv_topl (fun v15 ev15 => ?_)
            obtain rfl : v15 = lN (4503599627370496 + tq) := ev15.trans (q64_i htq (by omega))
            refine lv_ldc2 (v := 4503599627370496) hx hb hown (hts _ (List.mem_cons_of_mem _ wd_638)) dX7_bitsOfDouble_61 ?_
            refine lv_lsub hx hb dX7_bitsOfDouble_64 ?_
            refine lv_topl (fun v16 ev16 => ?_)
            obtain rfl : v16 = lN tq := sb52 ev16
            refine lv_lor hx hb dX7_bitsOfDouble_65 ?_
            refine lv_topl (fun v17 ev17 => ?_)
            obtain rfl : v17 = lN ((1023 - i18) * 4503599627370496 + tq) := or52 htq ev17
            refine k_lret (u := []) hx hb hr hlk hP hD hS dX7_bitsOfDouble_66 ?_
            exact ⟨(congrArg lN (by omega)), rfl⟩
          · skip
            have zy9 : y10.toNat = 1023 * 4503599627370496 := by rw [ey10]; decide
            have zc9 := q64_ge (x := h2_18) (y := y10) (by omega) (by omega) ev11
            have zd9 : ¬ y10.toNat ≤ h2_18.toNat := fun z8 => c12 (zc9.mpr z8)
            have hlt9 : fn + i18 * 4503599627370496 < 1023 * 4503599627370496 := by omega
            have hlu9 : fn + (i18 + 1) * 4503599627370496 < 1024 * 4503599627370496 := lu52 hlt9
            refine lv_dload_n hx hb dX7_bitsOfDouble_32 rfl (lv_at hl 2 rfl) ?_
            refine lv_ldc2d (v := 4611686018427387904) hx hb hown (hts _ (List.mem_cons_of_mem _ wd_636)) dX7_bitsOfDouble_33 ?_
            have zm9 := q64_mul (x := h2_18) (y := 4611686018427387904) (n := fn + i18 * 4503599627370496) (k := 1) hm_18 (by omega) (by omega) (by decide) (by decide)
            refine lv_dmul hx hb dX7_bitsOfDouble_36 (q64_n (by rw [zm9]; omega)) ?_
            refine lv_topd (fun y18 ey18 => ?_)
            have ty18 : y18.toNat = fn + i18 * 4503599627370496 + 1 * 4503599627370496 := by rw [ey18]; exact zm9
            refine lv_dstore_n (lv' := [(2, .double y18), (6, .int (nI i18)), (4, .long h4_18), (0, .double fx)]) hx hb dX7_bitsOfDouble_37 rfl hl (by decide) rfl (fun ls hl => ?_)
            refine lv_lload hx hb dX7_bitsOfDouble_38 (lv_at hl 2 rfl) ?_
            refine lv_lconst (v := 1) hx hb dX7_bitsOfDouble_40 (by decide) ?_
            refine lv_lsub hx hb dX7_bitsOfDouble_41 ?_
            refine lv_topl (fun v19 ev19 => ?_)
            refine lv_lstore (lv' := [(4, .long v19), (2, .double y18), (6, .int (nI i18)), (0, .double fx)]) hx hb dX7_bitsOfDouble_42 hl (by decide) rfl (fun ls hl => ?_)
            refine lv_iinc (v := (nI (i18 + 1))) (lv' := [(6, .int (nI (i18 + 1))), (4, .long v19), (2, .double y18), (0, .double fx)]) hx hb dX7_bitsOfDouble_44 hl (k := 2) rfl (nI_1 _) (by decide) rfl (fun ls hl => ?_)
            refine lv_goto (tgt := 18) hx hb dX7_bitsOfDouble_47 (by decide) ?_
            exact ih18 (i18 + 1) y18 v19 (by omega) (by omega) (ex64 (by omega) he_18 ev19) hlu9 (by omega) _ _ _ hP hD hS (lv_sub hl [0, 1, 2, 3] rfl)
    exact J18 _ 0 fx 1023 (by omega) (by omega) rfl (by omega) (Nat.lt_succ_self _) _ _ _ hP hD hS (lv_sub hl [0, 1, 2, 3] rfl)
  · skip
    refine lv_lconst (v := 0) hx hb dX7_bitsOfDouble_6 (by decide) ?_
    refine k_lret (u := []) hx hb hr hlk hP hD hS dX7_bitsOfDouble_7 ?_
    exact ⟨(by have zy9 : y1.toNat = 0 := (by rw [ey1]; decide); have zc9 := q64_gt (x := fx) (y := y1) (by omega) (by omega) ev2; have zd9 : ¬ y1.toNat < fx.toNat := fun z8 => c3 (zc9.mpr z8); rw [show fn = 0 from by omega]; rfl), rfl⟩
set_option maxHeartbeats 4000000 in
set_option maxRecDepth 100000 in
theorem e_X7_strain (l : Launch) (D : va_G) (cI cJ : ClassId) (sz : Nat) (x x0 x1 x2 x3 x4 x5 s1 s2 s5 s6 s7 s8 s9 s10 s11 b0 b1 b2 b3 b4 b5 b6 b7 b8 b9 b10 b11 w0 w1 w2 w3 w4 w8 d0 d1 d2 wn lv np nl pn tt0 at0 : Nat) (si4 bi14 wi6 p0 p1 : Int32) (B0 B1 B2 B3 B4 B6 B8 B10 B11 S5 S6 S7 S8 S9 S10 S11 W0 W1 W2 W3 W4 W8 D0 D1 : Nat → Int32) (D2 : Nat → Int64) (B5 : Nat → Int32) (li0 wo0 de0 su0 ag0 lim0 lam0 : Nat → Nat) (hnp : np ≤ 8) (hnl : nl ≤ 10) (hwn : wn < 256) (hlv : lv ≤ 8) (hliv : nv B0 li0) (hlib : ∀ k, k < 8 → li0 k ≤ 1000000) (hwov : nv B3 wo0) (hwob : ∀ k, k < 8 → wo0 k ≤ 9000000) (hdev : nv B2 de0) (hdeb : ∀ k, k < 8 → de0 k ≤ 99999) (hsb : SUB B8 su0) (hix : ∀ k, k < 10 → B10 k = nI (lim0 k) ∧ lim0 k < 8) (hax : ∀ k, k < 10 → B11 k = nI (lam0 k) ∧ lam0 k ≤ 1000000) (hagv : nv B1 ag0) (hagb : ∀ k, k < 8 → ag0 k ≤ 9000000) (hto : ∀ k, k < 8 → isw8 (B6 k)) (hpn : pn < 256) (hl1 : ∀ k, k < np → 1 ≤ li0 k) : Met l yX7_strain wtX7_strain { frames := 6, cells := 0, slots := 0, locals := 146 } (cPc D cI cJ [.ref x, .int p0, .int p1] sz [(oX7 x x0 x1 x2 x3 x4 x5), (oX4 x1 x0 s1 s2 (nI pn) si4 s5 s6 s7 s8 s9 s10 s11 (nI tt0) (nI at0)), (oX0 x0 b0 b1 b2 b3 b4 b5 b6 b7 b8 b9 b10 b11 (nI np) (nI nl) bi14), (oX6 s1 w0 w1 w2 w3 w4 (nI wn) wi6 (nI lv) w8), (oX2 s2 d0 d1 d2), (aIc cI b0 8 B0), (aIc cI b1 8 B1), (aIc cI b2 8 B2), (aIc cI b3 8 B3), (aIc cI b4 8 B4), (aIc cI b6 8 B6), (aIc cI b8 64 B8), (aIc cI b10 10 B10), (aIc cI b11 10 B11), (aIc cI s5 8 S5), (aIc cI s6 8 S6), (aIc cI s7 8 S7), (aIc cI s8 8 S8), (aIc cI s9 8 S9), (aIc cI s10 8 S10), (aIc cI s11 8 S11), (aIc cI w0 8 W0), (aIc cI w1 8 W1), (aIc cI w2 8 W2), (aIc cI w3 8 W3), (aIc cI w4 8 W4), (aIc cI w8 8 W8), (aIc cI d0 8 D0), (aIc cI d1 8 D1), (aJc cJ d2 8 D2), (aIc cI b5 8 B5)]) (cQl D (fun r u => ∃ (S5p S6p S7p S8p S9p S10p S11p W1p W2p W3p W4p W8p D0p D1p : Nat → Int32) (D2p : Nat → Int64) (ttp atp : Nat) (wi6p : Int32) (lvp wnp : Nat) (W0p : Nat → Int32) (si4p : Int32) (pnp : Nat), (lvp ≤ 8) ∧ (wnp < 256) ∧ (pnp < 256) ∧ r = (A2J np nl p0 p1 (lN (PBD (SHN li0 wo0 de0 su0 B4 B5 B6 bi14 (nI (2 ^ np - 1)) ag0 lim0 lam0 (Int32.toNatClampNeg p0) (Int32.toNatClampNeg p1)) (li0 (Int32.toNatClampNeg p1))))) ∧ u = [(oX7 x x0 x1 x2 x3 x4 x5), (oX4 x1 x0 s1 s2 (nI pnp) si4p s5 s6 s7 s8 s9 s10 s11 (nI ttp) (nI atp)), (oX0 x0 b0 b1 b2 b3 b4 b5 b6 b7 b8 b9 b10 b11 (nI np) (nI nl) bi14), (oX6 s1 w0 w1 w2 w3 w4 (nI wnp) wi6p (nI lvp) w8), (oX2 s2 d0 d1 d2), (aIc cI b0 8 B0), (aIc cI b1 8 B1), (aIc cI b2 8 B2), (aIc cI b3 8 B3), (aIc cI b4 8 B4), (aIc cI b6 8 B6), (aIc cI b8 64 B8), (aIc cI b10 10 B10), (aIc cI b11 10 B11), (aIc cI s5 8 S5p), (aIc cI s6 8 S6p), (aIc cI s7 8 S7p), (aIc cI s8 8 S8p), (aIc cI s9 8 S9p), (aIc cI s10 8 S10p), (aIc cI s11 8 S11p), (aIc cI w0 8 W0p), (aIc cI w1 8 W1p), (aIc cI w2 8 W2p), (aIc cI w3 8 W3p), (aIc cI w4 8 W4p), (aIc cI w8 8 W8p), (aIc cI d0 8 D0p), (aIc cI d1 8 D1p), (aJc cJ d2 8 D2p), (aIc cI b5 8 B5)]) (va_A [(oX7 x x0 x1 x2 x3 x4 x5), (oX4 x1 x0 s1 s2 (nI pn) si4 s5 s6 s7 s8 s9 s10 s11 (nI tt0) (nI at0)), (oX0 x0 b0 b1 b2 b3 b4 b5 b6 b7 b8 b9 b10 b11 (nI np) (nI nl) bi14), (oX6 s1 w0 w1 w2 w3 w4 (nI wn) wi6 (nI lv) w8), (oX2 s2 d0 d1 d2), (aIc cI b0 8 B0), (aIc cI b1 8 B1), (aIc cI b2 8 B2), (aIc cI b3 8 B3), (aIc cI b4 8 B4), (aIc cI b6 8 B6), (aIc cI b8 64 B8), (aIc cI b10 10 B10), (aIc cI b11 10 B11), (aIc cI s5 8 S5), (aIc cI s6 8 S6), (aIc cI s7 8 S7), (aIc cI s8 8 S8), (aIc cI s9 8 S9), (aIc cI s10 8 S10), (aIc cI s11 8 S11), (aIc cI w0 8 W0), (aIc cI w1 8 W1), (aIc cI w2 8 W2), (aIc cI w3 8 W3), (aIc cI w4 8 W4), (aIc cI w8 8 W8), (aIc cI d0 8 D0), (aIc cI d1 8 D1), (aJc cJ d2 8 D2), (aIc cI b5 8 B5)] sz)) 0 0 (va_A [(oX7 x x0 x1 x2 x3 x4 x5), (oX4 x1 x0 s1 s2 (nI pn) si4 s5 s6 s7 s8 s9 s10 s11 (nI tt0) (nI at0)), (oX0 x0 b0 b1 b2 b3 b4 b5 b6 b7 b8 b9 b10 b11 (nI np) (nI nl) bi14), (oX6 s1 w0 w1 w2 w3 w4 (nI wn) wi6 (nI lv) w8), (oX2 s2 d0 d1 d2), (aIc cI b0 8 B0), (aIc cI b1 8 B1), (aIc cI b2 8 B2), (aIc cI b3 8 B3), (aIc cI b4 8 B4), (aIc cI b6 8 B6), (aIc cI b8 64 B8), (aIc cI b10 10 B10), (aIc cI b11 10 B11), (aIc cI s5 8 S5), (aIc cI s6 8 S6), (aIc cI s7 8 S7), (aIc cI s8 8 S8), (aIc cI s9 8 S9), (aIc cI s10 8 S10), (aIc cI s11 8 S11), (aIc cI w0 8 W0), (aIc cI w1 8 W1), (aIc cI w2 8 W2), (aIc cI w3 8 W3), (aIc cI w4 8 W4), (aIc cI w8 8 W8), (aIc cI d0 8 D0), (aIc cI d1 8 D1), (aJc cJ d2 8 D2), (aIc cI b5 8 B5)] sz) := by
  refine k_ofW (Qc := cQl D (fun r u => ∃ (S5p S6p S7p S8p S9p S10p S11p W1p W2p W3p W4p W8p D0p D1p : Nat → Int32) (D2p : Nat → Int64) (ttp atp : Nat) (wi6p : Int32) (lvp wnp : Nat) (W0p : Nat → Int32) (si4p : Int32) (pnp : Nat), (lvp ≤ 8) ∧ (wnp < 256) ∧ (pnp < 256) ∧ r = (A2J np nl p0 p1 (lN (PBD (SHN li0 wo0 de0 su0 B4 B5 B6 bi14 (nI (2 ^ np - 1)) ag0 lim0 lam0 (Int32.toNatClampNeg p0) (Int32.toNatClampNeg p1)) (li0 (Int32.toNatClampNeg p1))))) ∧ u = [(oX7 x x0 x1 x2 x3 x4 x5), (oX4 x1 x0 s1 s2 (nI pnp) si4p s5 s6 s7 s8 s9 s10 s11 (nI ttp) (nI atp)), (oX0 x0 b0 b1 b2 b3 b4 b5 b6 b7 b8 b9 b10 b11 (nI np) (nI nl) bi14), (oX6 s1 w0 w1 w2 w3 w4 (nI wnp) wi6p (nI lvp) w8), (oX2 s2 d0 d1 d2), (aIc cI b0 8 B0), (aIc cI b1 8 B1), (aIc cI b2 8 B2), (aIc cI b3 8 B3), (aIc cI b4 8 B4), (aIc cI b6 8 B6), (aIc cI b8 64 B8), (aIc cI b10 10 B10), (aIc cI b11 10 B11), (aIc cI s5 8 S5p), (aIc cI s6 8 S6p), (aIc cI s7 8 S7p), (aIc cI s8 8 S8p), (aIc cI s9 8 S9p), (aIc cI s10 8 S10p), (aIc cI s11 8 S11p), (aIc cI w0 8 W0p), (aIc cI w1 8 W1p), (aIc cI w2 8 W2p), (aIc cI w3 8 W3p), (aIc cI w4 8 W4p), (aIc cI w8 8 W8p), (aIc cI d0 8 D0p), (aIc cI d1 8 D1p), (aJc cJ d2 8 D2p), (aIc cI b5 8 B5)])) (by decide) rfl (Nat.le_of_ble_eq_true rfl) ?_
  intro p e s m below meth c A ls hx hb hr hml hts hown hlk hnm hsz hE hP hD hS hA hl
  have hown : s.vm.findClass RX7 = some m.cls := hown
  have hiX7 : ∀ w ∈ u_ws RX7 TX7 6, w ∈ wtX7_strain := fun w h => List.mem_cons_of_mem _ (iuX7 w h)
  have hiX0 : ∀ w ∈ u_ws RX0 TX0 15, w ∈ wtX7_strain := fun w h => List.mem_cons_of_mem _ (iuX0 w h)
  have hiX4 : ∀ w ∈ u_ws RX4 TX4 14, w ∈ wtX7_strain := fun w h => List.mem_cons_of_mem _ (iuX4 w h)
  have hl : lv_has ls 3 [(0, .ref x), (1, .int p0), (2, .int p1)] := hl
  refine lv_aload_n hx hb dX7_strain_0 rfl (lv_at hl 0 rfl) ?_
  refine lv_iload_n hx hb dX7_strain_1 rfl (lv_at hl 1 rfl) ?_
  refine k_iS (va_runV (As := [.int p0]) (rest := []) ⟨hx, hb, hml, hown, hts⟩ (m_X7_isLoss l D cI cJ (s.heap).size x x0 x1 x2 x3 x4 x5 b0 b1 b2 b3 b4 b5 b6 b7 b8 b9 b10 b11 (nI np) (nI nl) bi14 p0) (cwV 1 hts gX7_strain_X7_isLoss rfl rfl rfl (by decide +kernel) ⟨Nat.le_of_ble_eq_true rfl, Nat.le_of_ble_eq_true rfl⟩) (k_preV hE hP hD [0, 2] (by decide +kernel) rfl 0 rfl rfl) rfl rfl hl.1 rfl (lv_room (Nat.le_of_ble_eq_true rfl)) dX7_strain_2 ⟨Nat.le_of_ble_eq_true rfl, Nat.le_of_ble_eq_true rfl⟩) hP hD hS hA [0, 2] rfl (fun _ _ h9 => h9.2) (fun r1 H locs hw2 hP hD hS => ?_)
  obtain ⟨hw2, -⟩ := hw2
  refine lv_if_eq (tgt := 28) hx hb dX7_strain_5 (by decide) (fun c3 => ?_) (fun c3 => ?_)
  · skip
    have hc3 : ¬ (0 ≤ p0 ∧ p0 ≤ (nI nl) - 1) := bz_0 hw2 c3
    refine lv_ldc2 (v := (-1)) hx hb hown (hts _ (List.mem_cons_of_mem _ wd_631)) dX7_strain_28 ?_
    refine k_lret (u := [(oX7 x x0 x1 x2 x3 x4 x5), (oX4 x1 x0 s1 s2 (nI pn) si4 s5 s6 s7 s8 s9 s10 s11 (nI tt0) (nI at0)), (oX0 x0 b0 b1 b2 b3 b4 b5 b6 b7 b8 b9 b10 b11 (nI np) (nI nl) bi14), (oX6 s1 w0 w1 w2 w3 w4 (nI wn) wi6 (nI lv) w8), (oX2 s2 d0 d1 d2), (aIc cI b0 8 B0), (aIc cI b1 8 B1), (aIc cI b2 8 B2), (aIc cI b3 8 B3), (aIc cI b4 8 B4), (aIc cI b6 8 B6), (aIc cI b8 64 B8), (aIc cI b10 10 B10), (aIc cI b11 10 B11), (aIc cI s5 8 S5), (aIc cI s6 8 S6), (aIc cI s7 8 S7), (aIc cI s8 8 S8), (aIc cI s9 8 S9), (aIc cI s10 8 S10), (aIc cI s11 8 S11), (aIc cI w0 8 W0), (aIc cI w1 8 W1), (aIc cI w2 8 W2), (aIc cI w3 8 W3), (aIc cI w4 8 W4), (aIc cI w8 8 W8), (aIc cI d0 8 D0), (aIc cI d1 8 D1), (aJc cJ d2 8 D2), (aIc cI b5 8 B5)]) hx hb hr hlk hP hD hS dX7_strain_31 ?_
    exact ⟨S5, S6, S7, S8, S9, S10, S11, W1, W2, W3, W4, W8, D0, D1, D2, tt0, at0, wi6, lv, wn, W0, si4, pn, (by omega), (by omega), (by first | omega | exact ev_lt hnp), (a2j_n (fun q9 => hc3 q9.1)), rfl⟩
  · skip
    have hc3 : 0 ≤ p0 ∧ p0 ≤ (nI nl) - 1 := bz_1 hw2 c3
    refine lv_aload_n hx hb dX7_strain_8 rfl (lv_at hl 0 rfl) ?_
    refine lv_iload_n hx hb dX7_strain_9 rfl (lv_at hl 2 rfl) ?_
    refine k_iS (va_runV (As := [.int p1]) (rest := []) ⟨hx, hb, hml, hown, hts⟩ (m_X7_isPolicy l D cI cJ H.size x x0 x1 x2 x3 x4 x5 b0 b1 b2 b3 b4 b5 b6 b7 b8 b9 b10 b11 (nI np) (nI nl) bi14 p1) (cwV 1 hts gX7_strain_X7_isPolicy rfl rfl rfl (by decide +kernel) ⟨Nat.le_of_ble_eq_true rfl, Nat.le_of_ble_eq_true rfl⟩) (k_preV hE hP hD [0, 2] (by decide +kernel) rfl 0 rfl rfl) rfl rfl hl.1 rfl (lv_room (Nat.le_of_ble_eq_true rfl)) dX7_strain_10 ⟨Nat.le_of_ble_eq_true rfl, Nat.le_of_ble_eq_true rfl⟩) hP hD hS hA [0, 2] rfl (fun _ _ h9 => h9.2) (fun r4 H locs hw5 hP hD hS => ?_)
    obtain ⟨hw5, -⟩ := hw5
    refine lv_if_eq (tgt := 28) hx hb dX7_strain_13 (by decide) (fun c6 => ?_) (fun c6 => ?_)
    · skip
      have hc6 : ¬ (0 ≤ p1 ∧ p1 ≤ (nI np) - 1) := bz_0 hw5 c6
      refine lv_ldc2 (v := (-1)) hx hb hown (hts _ (List.mem_cons_of_mem _ wd_631)) dX7_strain_28 ?_
      refine k_lret (u := [(oX7 x x0 x1 x2 x3 x4 x5), (oX4 x1 x0 s1 s2 (nI pn) si4 s5 s6 s7 s8 s9 s10 s11 (nI tt0) (nI at0)), (oX0 x0 b0 b1 b2 b3 b4 b5 b6 b7 b8 b9 b10 b11 (nI np) (nI nl) bi14), (oX6 s1 w0 w1 w2 w3 w4 (nI wn) wi6 (nI lv) w8), (oX2 s2 d0 d1 d2), (aIc cI b0 8 B0), (aIc cI b1 8 B1), (aIc cI b2 8 B2), (aIc cI b3 8 B3), (aIc cI b4 8 B4), (aIc cI b6 8 B6), (aIc cI b8 64 B8), (aIc cI b10 10 B10), (aIc cI b11 10 B11), (aIc cI s5 8 S5), (aIc cI s6 8 S6), (aIc cI s7 8 S7), (aIc cI s8 8 S8), (aIc cI s9 8 S9), (aIc cI s10 8 S10), (aIc cI s11 8 S11), (aIc cI w0 8 W0), (aIc cI w1 8 W1), (aIc cI w2 8 W2), (aIc cI w3 8 W3), (aIc cI w4 8 W4), (aIc cI w8 8 W8), (aIc cI d0 8 D0), (aIc cI d1 8 D1), (aJc cJ d2 8 D2), (aIc cI b5 8 B5)]) hx hb hr hlk hP hD hS dX7_strain_31 ?_
      exact ⟨S5, S6, S7, S8, S9, S10, S11, W1, W2, W3, W4, W8, D0, D1, D2, tt0, at0, wi6, lv, wn, W0, si4, pn, (by omega), (by omega), (by first | omega | exact ev_lt hnp), (a2j_n (fun q9 => hc6 q9.2)), rfl⟩
    · skip
      have hc6 : 0 ≤ p1 ∧ p1 ≤ (nI np) - 1 := bz_1 hw5 c6
      obtain ⟨lj, hlj, elj⟩ := wi_n (by omega) hc3
      rw [elj] at hl
      obtain ⟨pj, hpj, epj⟩ := wi_n (by omega) hc6
      rw [epj] at hl
      refine lv_aload_n hx hb dX7_strain_16 rfl (lv_at hl 0 rfl) ?_
      refine va_get (D := D) (ci := 7) (v := .ref x0) (C := RX7) (T := TX7) (N := 6) hx hb hts hiX7 hown hE.1 hP 0 rfl rfl 0 (by decide) (hts _ (List.mem_cons_of_mem _ wd_19)) (fun _ h9 => h9) rfl dX7_strain_17 ?_
      refine va_get (D := D) (ci := 0) (v := .ref b0) (C := RX0) (T := TX0) (N := 15) hx hb hts hiX0 hown hE.1 hP 2 rfl rfl 0 (by decide) (hts _ (List.mem_cons_of_mem _ wd_159)) (fun _ h9 => h9) rfl dX7_strain_20 ?_
      refine lv_iload_n hx hb dX7_strain_23 rfl (lv_at hl 2 rfl) ?_
      refine va_iald hx hb hE.1 hP 5 0 rfl rfl (vp_in_nI (n := pj) (by omega) (by decide)) dX7_strain_24 ?_
      refine lv_topi (fun v7 ev7 => ?_)
      have hlib_ := hlib pj (by omega)
      have hl19 := hl1 pj hpj
      obtain rfl : v7 = nI (li0 pj) := ev7.trans (nv_at hliv (by omega))
      refine lv_if_ne (tgt := 32) hx hb dX7_strain_25 (by decide) (fun c8a => ?_) (fun c8 => (show False from by have h9 := (nI_eq (a := li0 pj) (b := 0) (by omega) (by omega)).mp c8; omega).elim)
      refine lv_aload_n hx hb dX7_strain_32 rfl (lv_at hl 0 rfl) ?_
      refine lv_iload_n hx hb dX7_strain_33 rfl (lv_at hl 1 rfl) ?_
      refine k_v (va_runV (As := [.int (nI lj)]) (rest := []) ⟨hx, hb, hml, hown, hts⟩ (e_X7_settle l D cI cJ H.size x x0 x1 x2 x3 x4 x5 s1 s2 s5 s6 s7 s8 s9 s10 s11 b0 b1 b2 b3 b4 b5 b6 b7 b8 b9 b10 b11 w0 w1 w2 w3 w4 w8 d0 d1 d2 lj wn lv np nl pn tt0 at0 si4 bi14 wi6 B0 B1 B2 B3 B4 B6 B8 B10 B11 S5 S6 S7 S8 S9 S10 S11 W0 W1 W2 W3 W4 W8 D0 D1 D2 B5 li0 wo0 de0 su0 ag0 lim0 lam0 hnp hnl hwn hlv hliv hlib hwov hwob hdev hdeb hsb hix hax hagv hagb hto (by omega)) (cwV 1 hts gX7_strain_X7_settle rfl rfl rfl (by decide +kernel) ⟨Nat.le_of_ble_eq_true rfl, Nat.le_of_ble_eq_true rfl⟩) (k_preV hE hP hD [0, 1, 2, 3, 4, 5, 6, 7, 8, 9, 10, 11, 12, 13, 14, 15, 16, 17, 18, 19, 20, 21, 22, 23, 24, 25, 26, 27, 28, 29, 30] (by decide +kernel) rfl 0 rfl rfl) rfl rfl hl.1 rfl (lv_room (Nat.le_of_ble_eq_true rfl)) dX7_strain_34 ⟨Nat.le_of_ble_eq_true rfl, Nat.le_of_ble_eq_true rfl⟩) hP hD hS hA [0, 1, 2, 3, 4, 5, 6, 7, 8, 9, 10, 11, 12, 13, 14, 15, 16, 17, 18, 19, 20, 21, 22, 23, 24, 25, 26, 27, 28, 29, 30] [] rfl (wr := []) rfl (by decide +kernel) (by decide +kernel) (fun u H locs hw9 hP hD hS => ?_)
      obtain ⟨z10, z11, z12, z13, z14, z15, z16, z17, z18, z19, z20, z21, z22, z23, z24, z25, z26, z27, z28, z29, z30, hz31, hz32, hz33, hz34, hz35, hz36, rfl⟩ := hw9
      refine k_re (w := [(oX7 x x0 x1 x2 x3 x4 x5), (oX4 x1 x0 s1 s2 (nI (2 ^ np - 1)) bi14 s5 s6 s7 s8 s9 s10 s11 (nI z25) (nI z26)), (oX0 x0 b0 b1 b2 b3 b4 b5 b6 b7 b8 b9 b10 b11 (nI np) (nI nl) bi14), (oX6 s1 w0 w1 w2 w3 w4 (nI z29) z27 (nI z28) w8), (oX2 s2 d0 d1 d2), (aIc cI b0 8 B0), (aIc cI b1 8 B1), (aIc cI b2 8 B2), (aIc cI b3 8 B3), (aIc cI b4 8 B4), (aIc cI b6 8 B6), (aIc cI b8 64 B8), (aIc cI b10 10 B10), (aIc cI b11 10 B11), (aIc cI s5 8 z10), (aIc cI s6 8 z11), (aIc cI s7 8 z12), (aIc cI s8 8 z13), (aIc cI s9 8 z14), (aIc cI s10 8 z15), (aIc cI s11 8 z16), (aIc cI w0 8 z30), (aIc cI w1 8 z17), (aIc cI w2 8 z18), (aIc cI w3 8 z19), (aIc cI w4 8 z20), (aIc cI w8 8 z21), (aIc cI d0 8 z22), (aIc cI d1 8 z23), (aJc cJ d2 8 z24), (aIc cI b5 8 B5)]) hP hD (fun hP hD => ?_)
      have hL9 := (hz34 (Nat.succ_pos _))
      have hst9 : (SHN li0 wo0 de0 su0 B4 B5 B6 bi14 (nI (2 ^ np - 1)) ag0 lim0 lam0 lj pj) ≤ li0 pj := shn_li hlib (by omega)
      refine lv_aload_n hx hb dX7_strain_37 rfl (lv_at hl 0 rfl) ?_
      refine va_get (D := D) (ci := 7) (v := .ref x1) (C := RX7) (T := TX7) (N := 6) hx hb hts hiX7 hown hE.1 hP 0 rfl rfl 1 (by decide) (hts _ (List.mem_cons_of_mem _ wd_17)) (fun _ h9 => h9) rfl dX7_strain_38 ?_
      refine va_get (D := D) (ci := 4) (v := .ref s10) (C := RX4) (T := TX4) (N := 14) hx hb hts hiX4 hown hE.1 hP 1 rfl rfl 10 (by decide) (hts _ (List.mem_cons_of_mem _ wd_583)) (fun _ h9 => h9) rfl dX7_strain_41 ?_
      refine lv_iload_n hx hb dX7_strain_44 rfl (lv_at hl 2 rfl) ?_
      refine va_iald hx hb hE.1 hP 19 0 rfl rfl (vp_in_nI (n := pj) (by omega) (by decide)) dX7_strain_45 ?_
      refine lv_topi (fun v37 ev37 => ?_)
      obtain rfl : v37 = nI (SHN li0 wo0 de0 su0 B4 B5 B6 bi14 (nI (2 ^ np - 1)) ag0 lim0 lam0 lj pj) := ev37.trans (by rw [nI_clamp (by omega)]; exact lcs_sh hL9 (by omega))
      refine lv_i2d hx hb dX7_strain_46 ?_
      refine lv_topd (fun y38 ey38 => ?_)
      refine lv_aload_n hx hb dX7_strain_47 rfl (lv_at hl 0 rfl) ?_
      refine va_get (D := D) (ci := 7) (v := .ref x0) (C := RX7) (T := TX7) (N := 6) hx hb hts hiX7 hown hE.1 hP 0 rfl rfl 0 (by decide) (hts _ (List.mem_cons_of_mem _ wd_19)) (fun _ h9 => h9) rfl dX7_strain_48 ?_
      refine va_get (D := D) (ci := 0) (v := .ref b0) (C := RX0) (T := TX0) (N := 15) hx hb hts hiX0 hown hE.1 hP 2 rfl rfl 0 (by decide) (hts _ (List.mem_cons_of_mem _ wd_159)) (fun _ h9 => h9) rfl dX7_strain_51 ?_
      refine lv_iload_n hx hb dX7_strain_54 rfl (lv_at hl 2 rfl) ?_
      refine va_iald hx hb hE.1 hP 5 0 rfl rfl (vp_in_nI (n := pj) (by omega) (by decide)) dX7_strain_55 ?_
      refine lv_topi (fun v39 ev39 => ?_)
      have hlib_ := hlib pj (by omega)
      have hl19 := hl1 pj hpj
      obtain rfl : v39 = nI (li0 pj) := ev39.trans (nv_at hliv (by omega))
      refine lv_i2d hx hb dX7_strain_56 ?_
      refine lv_topd (fun y40 ey40 => ?_)
      have hpb9 : (FP.ddiv y38 y40).toNat = PBD (SHN li0 wo0 de0 su0 B4 B5 B6 bi14 (nI (2 ^ np - 1)) ag0 lim0 lam0 lj pj) (li0 pj) := by rw [ey38, ey40]; rfl
      have hpr9 := q64_or (a := (SHN li0 wo0 de0 su0 B4 B5 B6 bi14 (nI (2 ^ np - 1)) ag0 lim0 lam0 lj pj)) (b := li0 pj) (by omega) (by omega) (by omega)
      refine lv_ddiv hx hb dX7_strain_57 (q64_n (by rw [hpb9]; omega)) ?_
      refine lv_topd (fun y41 ey41 => ?_)
      have ty41 : y41.toNat = PBD (SHN li0 wo0 de0 su0 B4 B5 B6 bi14 (nI (2 ^ np - 1)) ag0 lim0 lam0 lj pj) (li0 pj) := by rw [ey41]; exact hpb9
      refine k_lS (va_runS (As := [.double y41]) (rest := []) ⟨hx, hb, hml, hown, hts⟩ (e_X7_bitsOfDouble l D cI cJ H.size (PBD (SHN li0 wo0 de0 su0 B4 B5 B6 bi14 (nI (2 ^ np - 1)) ag0 lim0 lam0 lj pj) (li0 pj)) y41 ty41 hpr9) (va_cwS 1 hts gX7_strain_X7_bitsOfDouble rfl rfl rfl (by decide +kernel) ⟨Nat.le_of_ble_eq_true rfl, Nat.le_of_ble_eq_true rfl⟩) (k_pre hE hP hD [] (by decide +kernel) rfl) rfl rfl hl.1 rfl (lv_room (Nat.le_of_ble_eq_true rfl)) dX7_strain_58 ⟨Nat.le_of_ble_eq_true rfl, Nat.le_of_ble_eq_true rfl⟩) hP hD hS hA [] rfl (fun _ _ ⟨_, h9⟩ => h9) (fun r42 H locs hw43 hP hD hS => ?_)
      obtain ⟨rfl, -⟩ := hw43
      refine k_lret (u := [(oX7 x x0 x1 x2 x3 x4 x5), (oX4 x1 x0 s1 s2 (nI (2 ^ np - 1)) bi14 s5 s6 s7 s8 s9 s10 s11 (nI z25) (nI z26)), (oX0 x0 b0 b1 b2 b3 b4 b5 b6 b7 b8 b9 b10 b11 (nI np) (nI nl) bi14), (oX6 s1 w0 w1 w2 w3 w4 (nI z29) z27 (nI z28) w8), (oX2 s2 d0 d1 d2), (aIc cI b0 8 B0), (aIc cI b1 8 B1), (aIc cI b2 8 B2), (aIc cI b3 8 B3), (aIc cI b4 8 B4), (aIc cI b6 8 B6), (aIc cI b8 64 B8), (aIc cI b10 10 B10), (aIc cI b11 10 B11), (aIc cI s5 8 z10), (aIc cI s6 8 z11), (aIc cI s7 8 z12), (aIc cI s8 8 z13), (aIc cI s9 8 z14), (aIc cI s10 8 z15), (aIc cI s11 8 z16), (aIc cI w0 8 z30), (aIc cI w1 8 z17), (aIc cI w2 8 z18), (aIc cI w3 8 z19), (aIc cI w4 8 z20), (aIc cI w8 8 z21), (aIc cI d0 8 z22), (aIc cI d1 8 z23), (aJc cJ d2 8 z24), (aIc cI b5 8 B5)]) hx hb hr hlk hP hD hS dX7_strain_61 ?_
      exact ⟨z10, z11, z12, z13, z14, z15, z16, z17, z18, z19, z20, z21, z22, z23, z24, z25, z26, z27, z28, z29, z30, bi14, 2 ^ np - 1, (by omega), (by omega), (by first | omega | exact ev_lt hnp), (a2j_y ⟨hc3, hc6⟩ (F := (fun l p => lN (PBD (SHN li0 wo0 de0 su0 B4 B5 B6 bi14 (nI (2 ^ np - 1)) ag0 lim0 lam0 l p) (li0 p)))) elj epj (by omega) (by omega) rfl), rfl⟩

