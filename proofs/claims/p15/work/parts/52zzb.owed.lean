set_option maxHeartbeats 4000000 in
set_option maxRecDepth 100000 in
theorem e_X4_owed (l : Launch) (D : va_G) (cI cJ : ClassId) (sz : Nat) (x1 x0 s1 s2 s5 s6 s7 s8 s9 s10 s11 b0 b1 b2 b3 b4 b5 b6 b7 b8 b9 b10 b11 p0 im mu0 np nl pn : Nat) (si4 si12 si13 bi14 : Int32) (B0 B2 B3 B4 B8 S6 : Nat → Int32) (li0 wo0 de0 su0 lf0 : Nat → Nat) (hp : p0 < 8) (hit : im < 8) (hmu : mu0 ≤ 1000000) (hliv : nv B0 li0) (hlib : ∀ k, k < 8 → li0 k ≤ 1000000) (hwov : nv B3 wo0) (hwob : ∀ k, k < 8 → wo0 k ≤ 9000000) (hdev : nv B2 de0) (hdeb : ∀ k, k < 8 → de0 k ≤ 99999) (hsb : SUB B8 su0) (hlfv : nv S6 lf0) (hlfb : ∀ k, k < 8 → lf0 k ≤ 9000000) : Met l yX4_owed wtX4_owed { frames := 1, cells := 0, slots := 0, locals := 21 } (cPc D cI cJ [.ref x1, .int (nI p0), .int (nI im), .int (nI mu0)] sz [(oX4 x1 x0 s1 s2 (nI pn) si4 s5 s6 s7 s8 s9 s10 s11 si12 si13), (oX0 x0 b0 b1 b2 b3 b4 b5 b6 b7 b8 b9 b10 b11 (nI np) (nI nl) bi14), (aIc cI b0 8 B0), (aIc cI b2 8 B2), (aIc cI b3 8 B3), (aIc cI b4 8 B4), (aIc cI b8 64 B8), (aIc cI s6 8 S6)]) (cQi D (fun r u => r = (nI (OWE li0 wo0 de0 su0 B4 lf0 p0 im mu0)) ∧ u = [(oX4 x1 x0 s1 s2 (nI pn) si4 s5 s6 s7 s8 s9 s10 s11 si12 si13), (oX0 x0 b0 b1 b2 b3 b4 b5 b6 b7 b8 b9 b10 b11 (nI np) (nI nl) bi14), (aIc cI b0 8 B0), (aIc cI b2 8 B2), (aIc cI b3 8 B3), (aIc cI b4 8 B4), (aIc cI b8 64 B8), (aIc cI s6 8 S6)]) (va_A [(oX4 x1 x0 s1 s2 (nI pn) si4 s5 s6 s7 s8 s9 s10 s11 si12 si13), (oX0 x0 b0 b1 b2 b3 b4 b5 b6 b7 b8 b9 b10 b11 (nI np) (nI nl) bi14), (aIc cI b0 8 B0), (aIc cI b2 8 B2), (aIc cI b3 8 B3), (aIc cI b4 8 B4), (aIc cI b8 64 B8), (aIc cI s6 8 S6)] sz)) 0 0 (va_A [(oX4 x1 x0 s1 s2 (nI pn) si4 s5 s6 s7 s8 s9 s10 s11 si12 si13), (oX0 x0 b0 b1 b2 b3 b4 b5 b6 b7 b8 b9 b10 b11 (nI np) (nI nl) bi14), (aIc cI b0 8 B0), (aIc cI b2 8 B2), (aIc cI b3 8 B3), (aIc cI b4 8 B4), (aIc cI b8 64 B8), (aIc cI s6 8 S6)] sz) := by
  refine k_ofW (Qc := cQi D (fun r u => r = (nI (OWE li0 wo0 de0 su0 B4 lf0 p0 im mu0)) ∧ u = [(oX4 x1 x0 s1 s2 (nI pn) si4 s5 s6 s7 s8 s9 s10 s11 si12 si13), (oX0 x0 b0 b1 b2 b3 b4 b5 b6 b7 b8 b9 b10 b11 (nI np) (nI nl) bi14), (aIc cI b0 8 B0), (aIc cI b2 8 B2), (aIc cI b3 8 B3), (aIc cI b4 8 B4), (aIc cI b8 64 B8), (aIc cI s6 8 S6)])) (by decide) rfl (Nat.le_of_ble_eq_true rfl) ?_
  intro p e s m below meth c A ls hx hb hr hml hts hown hlk hnm hsz hE hP hD hS hA hl
  have hown : s.vm.findClass RX4 = some m.cls := hown
  have hiX4 : ∀ w ∈ u_ws RX4 TX4 14, w ∈ wtX4_owed := fun w h => List.mem_cons_of_mem _ (iuX4 w h)
  have hiX0 : ∀ w ∈ u_ws RX0 TX0 15, w ∈ wtX4_owed := fun w h => List.mem_cons_of_mem _ (iuX0 w h)
  have hl : lv_has ls 8 [(0, .ref x1), (1, .int (nI p0)), (2, .int (nI im)), (3, .int (nI mu0))] := hl
  refine lv_aload_n hx hb dX4_owed_0 rfl (lv_at hl 0 rfl) ?_
  refine va_get (D := D) (ci := 4) (v := .ref x0) (C := RX4) (T := TX4) (N := 14) hx hb hts hiX4 hown hE.1 hP 0 rfl rfl 0 (by decide) (hts _ (List.mem_cons_of_mem _ wd_40)) (fun _ h9 => h9) rfl dX4_owed_1 ?_
  refine va_get (D := D) (ci := 0) (v := .ref b4) (C := RX0) (T := TX0) (N := 15) hx hb hts hiX0 hown hE.1 hP 1 rfl rfl 4 (by decide) (hts _ (List.mem_cons_of_mem _ wd_317)) (fun _ h9 => h9) rfl dX4_owed_4 ?_
  refine lv_iload_n hx hb dX4_owed_7 rfl (lv_at hl 1 rfl) ?_
  refine va_iald hx hb hE.1 hP 5 0 rfl rfl (vp_in_nI (n := p0) (by omega) (by decide)) dX4_owed_8 ?_
  refine lv_topi (fun v1 ev1 => ?_)
  refine lv_iload_n hx hb dX4_owed_9 rfl (lv_at hl 2 rfl) ?_
  refine k_iS (va_runSN (As := [.int v1, .int (nI im)]) (rest := []) ⟨hx, hb, hml, hown, hts⟩ (m_X7_has l D cI cJ (s.heap).size v1 (nI im)) ⟨va_cnB 2 hts gX4_owed_X7_has_n113 rfl rfl rfl (nwk5 hE.2) (hts _ (List.mem_cons_of_mem _ wd_2)) (by decide +kernel) ⟨Nat.le_of_ble_eq_true rfl, Nat.le_of_ble_eq_true rfl⟩, (hts _ (List.mem_cons_of_mem _ wd_311)), trivial⟩ (k_pre hE hP hD [] (by decide +kernel) rfl) rfl rfl hl.1 rfl (lv_room (Nat.le_of_ble_eq_true rfl)) dX4_owed_10 ⟨Nat.le_of_ble_eq_true rfl, Nat.le_of_ble_eq_true rfl⟩) hP hD hS hA [] rfl (fun _ _ h9 => h9.2) (fun r2 H locs hw3 hP hD hS => ?_)
  obtain ⟨hw3, -⟩ := hw3
  refine lv_if_ne (tgt := 18) hx hb dX4_owed_13 (by decide) (fun c4 => ?_) (fun c4 => ?_)
  · skip
    have hc4 : ¬ (v1 >>> ((nI im) &&& 31)) &&& 1 = 0 := bz_1 hw3 c4
    have hbi : bt (B4 p0) im = true := by rw [← cl_at (A := B4) hp ev1]; exact (bt_nz hit).mp hc4
    have hlib_ := hlib p0 hp
    have hwob_ := hwob p0 hp
    have hdeb_ := hdeb p0 hp
    have hlfb_ := hlfb p0 hp
    refine lv_aload_n hx hb dX4_owed_18 rfl (lv_at hl 0 rfl) ?_
    refine va_get (D := D) (ci := 4) (v := .ref x0) (C := RX4) (T := TX4) (N := 14) hx hb hts hiX4 hown hE.1 hP 0 rfl rfl 0 (by decide) (hts _ (List.mem_cons_of_mem _ wd_40)) (fun _ h9 => h9) rfl dX4_owed_19 ?_
    refine va_get (D := D) (ci := 0) (v := .ref b0) (C := RX0) (T := TX0) (N := 15) hx hb hts hiX0 hown hE.1 hP 1 rfl rfl 0 (by decide) (hts _ (List.mem_cons_of_mem _ wd_318)) (fun _ h9 => h9) rfl dX4_owed_22 ?_
    refine lv_iload_n hx hb dX4_owed_25 rfl (lv_at hl 1 rfl) ?_
    refine va_iald hx hb hE.1 hP 2 0 rfl rfl (vp_in_nI (n := p0) (by omega) (by decide)) dX4_owed_26 ?_
    refine lv_topi (fun v5 ev5 => ?_)
    obtain rfl : v5 = nI (li0 p0) := ev5.trans (nv_at hliv hp)
    refine lv_istore (lv' := [(4, .int (nI (li0 p0))), (0, .ref x1), (1, .int (nI p0)), (2, .int (nI im)), (3, .int (nI mu0))]) hx hb dX4_owed_27 hl (by decide) rfl (fun ls hl => ?_)
    refine lv_aload_n hx hb dX4_owed_29 rfl (lv_at hl 1 rfl) ?_
    refine va_get (D := D) (ci := 4) (v := .ref x0) (C := RX4) (T := TX4) (N := 14) hx hb hts hiX4 hown hE.1 hP 0 rfl rfl 0 (by decide) (hts _ (List.mem_cons_of_mem _ wd_40)) (fun _ h9 => h9) rfl dX4_owed_30 ?_
    refine va_get (D := D) (ci := 0) (v := .ref b3) (C := RX0) (T := TX0) (N := 15) hx hb hts hiX0 hown hE.1 hP 1 rfl rfl 3 (by decide) (hts _ (List.mem_cons_of_mem _ wd_319)) (fun _ h9 => h9) rfl dX4_owed_33 ?_
    refine lv_iload_n hx hb dX4_owed_36 rfl (lv_at hl 2 rfl) ?_
    refine va_iald hx hb hE.1 hP 4 0 rfl rfl (vp_in_nI (n := p0) (by omega) (by decide)) dX4_owed_37 ?_
    refine lv_topi (fun v6 ev6 => ?_)
    obtain rfl : v6 = nI (wo0 p0) := ev6.trans (nv_at hwov hp)
    refine lv_istore (lv' := [(5, .int (nI (wo0 p0))), (4, .int (nI (li0 p0))), (0, .ref x1), (1, .int (nI p0)), (2, .int (nI im)), (3, .int (nI mu0))]) hx hb dX4_owed_38 hl (by decide) rfl (fun ls hl => ?_)
    refine lv_aload_n hx hb dX4_owed_40 rfl (lv_at hl 2 rfl) ?_
    refine va_get (D := D) (ci := 4) (v := .ref x0) (C := RX4) (T := TX4) (N := 14) hx hb hts hiX4 hown hE.1 hP 0 rfl rfl 0 (by decide) (hts _ (List.mem_cons_of_mem _ wd_40)) (fun _ h9 => h9) rfl dX4_owed_41 ?_
    refine va_get (D := D) (ci := 0) (v := .ref b8) (C := RX0) (T := TX0) (N := 15) hx hb hts hiX0 hown hE.1 hP 1 rfl rfl 8 (by decide) (hts _ (List.mem_cons_of_mem _ wd_320)) (fun _ h9 => h9) rfl dX4_owed_44 ?_
    refine lv_iload_n hx hb dX4_owed_47 rfl (lv_at hl 3 rfl) ?_
    refine lv_bipush (v := 8) hx hb dX4_owed_48 (by decide) ?_
    refine lv_imul hx hb dX4_owed_50 ?_
    refine lv_topi (fun v7 ev7 => ?_)
    obtain rfl : v7 = (nI (p0 * 8)) := by rw [ev7]; exact pk_mul p0 8
    refine lv_iload_n hx hb dX4_owed_51 rfl (lv_at hl 4 rfl) ?_
    refine lv_iadd hx hb dX4_owed_52 ?_
    refine lv_topi (fun v8 ev8 => ?_)
    obtain rfl : v8 = (nI (p0 * 8 + im)) := by rw [ev8]; exact nI_add (p0 * 8) im
    refine va_iald hx hb hE.1 hP 6 0 rfl rfl (vp_in_nI (n := p0 * 8 + im) (by omega) (by decide)) dX4_owed_53 ?_
    refine lv_topi (fun v9 ev9 => ?_)
    refine lv_istore (lv' := [(6, .int v9), (5, .int (nI (wo0 p0))), (4, .int (nI (li0 p0))), (0, .ref x1), (1, .int (nI p0)), (2, .int (nI im)), (3, .int (nI mu0))]) hx hb dX4_owed_54 hl (by decide) rfl (fun ls hl => ?_)
    refine lv_iload_n hx hb dX4_owed_56 rfl (lv_at hl 6 rfl) ?_
    refine lv_istore (lv' := [(7, .int (nI mu0)), (6, .int v9), (5, .int (nI (wo0 p0))), (4, .int (nI (li0 p0))), (0, .ref x1), (1, .int (nI p0)), (2, .int (nI im)), (3, .int (nI mu0))]) hx hb dX4_owed_57 hl (by decide) rfl (fun ls hl => ?_)
    refine lv_iload hx hb dX4_owed_59 (lv_at hl 2 rfl) ?_
    refine lv_iload hx hb dX4_owed_61 (lv_at hl 3 rfl) ?_
    refine lv_icmp_le (tgt := 84) hx hb dX4_owed_63 (by decide) (fun c10 => ?_) (fun c10 => ?_)
    · skip
      have nc10 : wo0 p0 ≤ li0 p0 := (nI_leI (a := (wo0 p0)) (b := (li0 p0)) (by omega) (by omega)).mp c10
      have hsc : mu0 = if li0 p0 < wo0 p0 then mu0 * li0 p0 / wo0 p0 else mu0 := by rw [if_neg (by omega)]
      refine lv_iload hx hb dX4_owed_84 (lv_at hl 0 rfl) ?_
      refine lv_aload_n hx hb dX4_owed_86 rfl (lv_at hl 4 rfl) ?_
      refine va_get (D := D) (ci := 4) (v := .ref x0) (C := RX4) (T := TX4) (N := 14) hx hb hts hiX4 hown hE.1 hP 0 rfl rfl 0 (by decide) (hts _ (List.mem_cons_of_mem _ wd_40)) (fun _ h9 => h9) rfl dX4_owed_87 ?_
      refine va_get (D := D) (ci := 0) (v := .ref b2) (C := RX0) (T := TX0) (N := 15) hx hb hts hiX0 hown hE.1 hP 1 rfl rfl 2 (by decide) (hts _ (List.mem_cons_of_mem _ wd_321)) (fun _ h9 => h9) rfl dX4_owed_90 ?_
      refine lv_iload_n hx hb dX4_owed_93 rfl (lv_at hl 5 rfl) ?_
      refine va_iald hx hb hE.1 hP 3 0 rfl rfl (vp_in_nI (n := p0) (by omega) (by decide)) dX4_owed_94 ?_
      refine lv_topi (fun v11 ev11 => ?_)
      obtain rfl : v11 = nI (de0 p0) := ev11.trans (nv_at hdev hp)
      refine lv_isub hx hb dX4_owed_95 ?_
      refine lv_topi (fun v12 ev12 => ?_)
      refine lv_iconst (v := 0) hx hb dX4_owed_96 (by decide) ?_
      refine va_mmax hx hb (by rw [hml]; exact hl.1.symm) hown (hts _ (List.mem_cons_of_mem _ wd_322)) (hts _ (List.mem_cons_of_mem _ wd_323)) (hts _ (List.mem_cons_of_mem _ wd_324)) (hts _ (List.mem_cons_of_mem _ wd_325)) (Nat.le_of_ble_eq_true rfl) (Nat.le_of_ble_eq_true rfl) (Nat.le_of_ble_eq_true rfl) (Nat.le_of_ble_eq_true rfl) dX4_owed_97 ?_
      refine lv_topi (fun v13 ev13 => ?_)
      obtain rfl : v13 = nI (mu0 - de0 p0) := ev13.trans (mx_sub (by omega) (by omega) ev12)
      refine lv_istore (lv' := [(7, .int (nI (mu0 - de0 p0))), (6, .int v9), (5, .int (nI (wo0 p0))), (4, .int (nI (li0 p0))), (0, .ref x1), (1, .int (nI p0)), (2, .int (nI im)), (3, .int (nI mu0))]) hx hb dX4_owed_100 hl (by decide) rfl (fun ls hl => ?_)
      refine lv_iload hx hb dX4_owed_102 (lv_at hl 0 rfl) ?_
      refine lv_iload hx hb dX4_owed_104 (lv_at hl 3 rfl) ?_
      refine va_mmin hx hb (by rw [hml]; exact hl.1.symm) hown (hts _ (List.mem_cons_of_mem _ wd_326)) (hts _ (List.mem_cons_of_mem _ wd_327)) (hts _ (List.mem_cons_of_mem _ wd_324)) (hts _ (List.mem_cons_of_mem _ wd_328)) (Nat.le_of_ble_eq_true rfl) (Nat.le_of_ble_eq_true rfl) (Nat.le_of_ble_eq_true rfl) (Nat.le_of_ble_eq_true rfl) dX4_owed_106 ?_
      refine lv_topi (fun v14 ev14 => ?_)
      obtain rfl : v14 = nI (min (mu0 - de0 p0) (li0 p0)) := ev14.trans (min_if (by omega) (by omega))
      refine lv_aload_n hx hb dX4_owed_109 rfl (lv_at hl 4 rfl) ?_
      refine va_get (D := D) (ci := 4) (v := .ref s6) (C := RX4) (T := TX4) (N := 14) hx hb hts hiX4 hown hE.1 hP 0 rfl rfl 6 (by decide) (hts _ (List.mem_cons_of_mem _ wd_50)) (fun _ h9 => h9) rfl dX4_owed_110 ?_
      refine lv_iload_n hx hb dX4_owed_113 rfl (lv_at hl 5 rfl) ?_
      refine va_iald hx hb hE.1 hP 7 0 rfl rfl (vp_in_nI (n := p0) (by omega) (by decide)) dX4_owed_114 ?_
      refine lv_topi (fun v15 ev15 => ?_)
      obtain rfl : v15 = nI (lf0 p0) := ev15.trans (nv_at hlfv hp)
      refine va_mmin hx hb (by rw [hml]; exact hl.1.symm) hown (hts _ (List.mem_cons_of_mem _ wd_326)) (hts _ (List.mem_cons_of_mem _ wd_327)) (hts _ (List.mem_cons_of_mem _ wd_324)) (hts _ (List.mem_cons_of_mem _ wd_328)) (Nat.le_of_ble_eq_true rfl) (Nat.le_of_ble_eq_true rfl) (Nat.le_of_ble_eq_true rfl) (Nat.le_of_ble_eq_true rfl) dX4_owed_115 ?_
      refine lv_topi (fun v16 ev16 => ?_)
      obtain rfl : v16 = nI (min (min (mu0 - de0 p0) (li0 p0)) (lf0 p0)) := ev16.trans (min_if (by omega) (by omega))
      refine lv_istore (lv' := [(7, .int (nI (min (min (mu0 - de0 p0) (li0 p0)) (lf0 p0)))), (6, .int v9), (5, .int (nI (wo0 p0))), (4, .int (nI (li0 p0))), (0, .ref x1), (1, .int (nI p0)), (2, .int (nI im)), (3, .int (nI mu0))]) hx hb dX4_owed_118 hl (by decide) rfl (fun ls hl => ?_)
      refine lv_iload hx hb dX4_owed_120 (lv_at hl 1 rfl) ?_
      refine lv_iconst (v := (-1)) hx hb dX4_owed_122 (by decide) ?_
      refine lv_icmp_ne (tgt := 131) hx hb dX4_owed_123 (by decide) (fun c17 => ?_) (fun c17 => ?_)
      · skip
        obtain ⟨hsu1, hsu2, hsu3⟩ := sub_some (k := p0 * 8 + im) hsb (by omega) ev9 c17
        rw [show p0 * 8 + im = 8 * p0 + im from by omega] at hsu1 hsu2 hsu3
        rw [hsu3] at hl
        refine lv_iload hx hb dX4_owed_131 (lv_at hl 0 rfl) ?_
        refine lv_iload hx hb dX4_owed_133 (lv_at hl 1 rfl) ?_
        refine va_mmin hx hb (by rw [hml]; exact hl.1.symm) hown (hts _ (List.mem_cons_of_mem _ wd_326)) (hts _ (List.mem_cons_of_mem _ wd_327)) (hts _ (List.mem_cons_of_mem _ wd_324)) (hts _ (List.mem_cons_of_mem _ wd_328)) (Nat.le_of_ble_eq_true rfl) (Nat.le_of_ble_eq_true rfl) (Nat.le_of_ble_eq_true rfl) (Nat.le_of_ble_eq_true rfl) dX4_owed_135 ?_
        refine lv_topi (fun v18 ev18 => ?_)
        obtain rfl : v18 = nI (min (min (min (mu0 - de0 p0) (li0 p0)) (lf0 p0)) (su0 (8 * p0 + im) - 1)) := ev18.trans (min_if (by omega) (by omega))
        refine k_iret (u := [(oX4 x1 x0 s1 s2 (nI pn) si4 s5 s6 s7 s8 s9 s10 s11 si12 si13), (oX0 x0 b0 b1 b2 b3 b4 b5 b6 b7 b8 b9 b10 b11 (nI np) (nI nl) bi14), (aIc cI b0 8 B0), (aIc cI b2 8 B2), (aIc cI b3 8 B3), (aIc cI b4 8 B4), (aIc cI b8 64 B8), (aIc cI s6 8 S6)]) hx hb hr hlk hP hD hS dX4_owed_138 ?_
        exact ⟨(congrArg nI ((show _ = min (min (min (mu0 - de0 p0) (li0 p0)) (su0 (8 * p0 + im) - 1)) (lf0 p0) from by omega).trans (owe_s1 hbi hsc hsu1))), rfl⟩
      · skip
        refine lv_iload hx hb dX4_owed_126 (lv_at hl 0 rfl) ?_
        refine lv_goto (tgt := 138) hx hb dX4_owed_128 (by decide) ?_
        refine k_iret (u := [(oX4 x1 x0 s1 s2 (nI pn) si4 s5 s6 s7 s8 s9 s10 s11 si12 si13), (oX0 x0 b0 b1 b2 b3 b4 b5 b6 b7 b8 b9 b10 b11 (nI np) (nI nl) bi14), (aIc cI b0 8 B0), (aIc cI b2 8 B2), (aIc cI b3 8 B3), (aIc cI b4 8 B4), (aIc cI b8 64 B8), (aIc cI s6 8 S6)]) hx hb hr hlk hP hD hS dX4_owed_138 ?_
        exact ⟨(congrArg nI (owe_s0 hbi hsc (by have h9 := sub_none (k := p0 * 8 + im) hsb (by omega) ev9 c17; rwa [show p0 * 8 + im = 8 * p0 + im from by omega] at h9))), rfl⟩
    · skip
      have nc10 : ¬ wo0 p0 ≤ li0 p0 := fun q9 => c10 ((nI_leI (a := (wo0 p0)) (b := (li0 p0)) (by omega) (by omega)).mpr q9)
      refine lv_iload hx hb dX4_owed_66 (lv_at hl 2 rfl) ?_
      refine lv_if_le (tgt := 84) hx hb dX4_owed_68 (by decide) (fun c19 => ?_) (fun c19 => ?_)
      · skip
        have nc19 : wo0 p0 ≤ 0 := (nI_leI (a := (wo0 p0)) (b := 0) (by omega) (by omega)).mp c19
        exact (show False from by omega).elim
      · skip
        have nc19 : ¬ wo0 p0 ≤ 0 := fun q9 => c19 ((nI_leI (a := (wo0 p0)) (b := 0) (by omega) (by omega)).mpr q9)
        refine lv_iload_n hx hb dX4_owed_71 rfl (lv_at hl 7 rfl) ?_
        refine lv_i2l hx hb dX4_owed_72 rfl ?_
        refine lv_iload hx hb dX4_owed_73 (lv_at hl 3 rfl) ?_
        refine lv_i2l hx hb dX4_owed_75 rfl ?_
        refine lv_lmul hx hb dX4_owed_76 ?_
        refine lv_topl (fun v20 ev20 => ?_)
        refine lv_iload hx hb dX4_owed_77 (lv_at hl 2 rfl) ?_
        refine lv_i2l hx hb dX4_owed_79 rfl ?_
        refine lv_ldiv hx hb dX4_owed_80 (ow_ne (by omega) (by omega)) ?_
        refine lv_topl (fun v21 ev21 => ?_)
        refine lv_l2i hx hb dX4_owed_81 rfl ?_
        refine lv_topi (fun v22 ev22 => ?_)
        obtain ⟨vq, evq⟩ : ∃ z : Nat, z = mu0 * li0 p0 / wo0 p0 := ⟨_, rfl⟩
        have hvq : vq ≤ mu0 := by rw [evq]; exact ow_le (by omega)
        obtain rfl : v22 = nI vq := by rw [evq]; exact ow_div (by omega) (hlib p0 hp) (by omega) (by omega) ev20 ev21 ev22
        refine lv_istore (lv' := [(7, .int (nI vq)), (6, .int v9), (5, .int (nI (wo0 p0))), (4, .int (nI (li0 p0))), (0, .ref x1), (1, .int (nI p0)), (2, .int (nI im)), (3, .int (nI mu0))]) hx hb dX4_owed_82 hl (by decide) rfl (fun ls hl => ?_)
        have hsc : vq = if li0 p0 < wo0 p0 then mu0 * li0 p0 / wo0 p0 else mu0 := by rw [if_pos (by omega)]; exact evq
        refine lv_iload hx hb dX4_owed_84 (lv_at hl 0 rfl) ?_
        refine lv_aload_n hx hb dX4_owed_86 rfl (lv_at hl 4 rfl) ?_
        refine va_get (D := D) (ci := 4) (v := .ref x0) (C := RX4) (T := TX4) (N := 14) hx hb hts hiX4 hown hE.1 hP 0 rfl rfl 0 (by decide) (hts _ (List.mem_cons_of_mem _ wd_40)) (fun _ h9 => h9) rfl dX4_owed_87 ?_
        refine va_get (D := D) (ci := 0) (v := .ref b2) (C := RX0) (T := TX0) (N := 15) hx hb hts hiX0 hown hE.1 hP 1 rfl rfl 2 (by decide) (hts _ (List.mem_cons_of_mem _ wd_321)) (fun _ h9 => h9) rfl dX4_owed_90 ?_
        refine lv_iload_n hx hb dX4_owed_93 rfl (lv_at hl 5 rfl) ?_
        refine va_iald hx hb hE.1 hP 3 0 rfl rfl (vp_in_nI (n := p0) (by omega) (by decide)) dX4_owed_94 ?_
        refine lv_topi (fun v23 ev23 => ?_)
        obtain rfl : v23 = nI (de0 p0) := ev23.trans (nv_at hdev hp)
        refine lv_isub hx hb dX4_owed_95 ?_
        refine lv_topi (fun v24 ev24 => ?_)
        refine lv_iconst (v := 0) hx hb dX4_owed_96 (by decide) ?_
        refine va_mmax hx hb (by rw [hml]; exact hl.1.symm) hown (hts _ (List.mem_cons_of_mem _ wd_322)) (hts _ (List.mem_cons_of_mem _ wd_323)) (hts _ (List.mem_cons_of_mem _ wd_324)) (hts _ (List.mem_cons_of_mem _ wd_325)) (Nat.le_of_ble_eq_true rfl) (Nat.le_of_ble_eq_true rfl) (Nat.le_of_ble_eq_true rfl) (Nat.le_of_ble_eq_true rfl) dX4_owed_97 ?_
        refine lv_topi (fun v25 ev25 => ?_)
        obtain rfl : v25 = nI (vq - de0 p0) := ev25.trans (mx_sub (by omega) (by omega) ev24)
        refine lv_istore (lv' := [(7, .int (nI (vq - de0 p0))), (6, .int v9), (5, .int (nI (wo0 p0))), (4, .int (nI (li0 p0))), (0, .ref x1), (1, .int (nI p0)), (2, .int (nI im)), (3, .int (nI mu0))]) hx hb dX4_owed_100 hl (by decide) rfl (fun ls hl => ?_)
        refine lv_iload hx hb dX4_owed_102 (lv_at hl 0 rfl) ?_
        refine lv_iload hx hb dX4_owed_104 (lv_at hl 3 rfl) ?_
        refine va_mmin hx hb (by rw [hml]; exact hl.1.symm) hown (hts _ (List.mem_cons_of_mem _ wd_326)) (hts _ (List.mem_cons_of_mem _ wd_327)) (hts _ (List.mem_cons_of_mem _ wd_324)) (hts _ (List.mem_cons_of_mem _ wd_328)) (Nat.le_of_ble_eq_true rfl) (Nat.le_of_ble_eq_true rfl) (Nat.le_of_ble_eq_true rfl) (Nat.le_of_ble_eq_true rfl) dX4_owed_106 ?_
        refine lv_topi (fun v26 ev26 => ?_)
        obtain rfl : v26 = nI (min (vq - de0 p0) (li0 p0)) := ev26.trans (min_if (by omega) (by omega))
        refine lv_aload_n hx hb dX4_owed_109 rfl (lv_at hl 4 rfl) ?_
        refine va_get (D := D) (ci := 4) (v := .ref s6) (C := RX4) (T := TX4) (N := 14) hx hb hts hiX4 hown hE.1 hP 0 rfl rfl 6 (by decide) (hts _ (List.mem_cons_of_mem _ wd_50)) (fun _ h9 => h9) rfl dX4_owed_110 ?_
        refine lv_iload_n hx hb dX4_owed_113 rfl (lv_at hl 5 rfl) ?_
        refine va_iald hx hb hE.1 hP 7 0 rfl rfl (vp_in_nI (n := p0) (by omega) (by decide)) dX4_owed_114 ?_
        refine lv_topi (fun v27 ev27 => ?_)
        obtain rfl : v27 = nI (lf0 p0) := ev27.trans (nv_at hlfv hp)
        refine va_mmin hx hb (by rw [hml]; exact hl.1.symm) hown (hts _ (List.mem_cons_of_mem _ wd_326)) (hts _ (List.mem_cons_of_mem _ wd_327)) (hts _ (List.mem_cons_of_mem _ wd_324)) (hts _ (List.mem_cons_of_mem _ wd_328)) (Nat.le_of_ble_eq_true rfl) (Nat.le_of_ble_eq_true rfl) (Nat.le_of_ble_eq_true rfl) (Nat.le_of_ble_eq_true rfl) dX4_owed_115 ?_
        refine lv_topi (fun v28 ev28 => ?_)
        obtain rfl : v28 = nI (min (min (vq - de0 p0) (li0 p0)) (lf0 p0)) := ev28.trans (min_if (by omega) (by omega))
        refine lv_istore (lv' := [(7, .int (nI (min (min (vq - de0 p0) (li0 p0)) (lf0 p0)))), (6, .int v9), (5, .int (nI (wo0 p0))), (4, .int (nI (li0 p0))), (0, .ref x1), (1, .int (nI p0)), (2, .int (nI im)), (3, .int (nI mu0))]) hx hb dX4_owed_118 hl (by decide) rfl (fun ls hl => ?_)
        refine lv_iload hx hb dX4_owed_120 (lv_at hl 1 rfl) ?_
        refine lv_iconst (v := (-1)) hx hb dX4_owed_122 (by decide) ?_
        refine lv_icmp_ne (tgt := 131) hx hb dX4_owed_123 (by decide) (fun c29 => ?_) (fun c29 => ?_)
        · skip
          obtain ⟨hsu1, hsu2, hsu3⟩ := sub_some (k := p0 * 8 + im) hsb (by omega) ev9 c29
          rw [show p0 * 8 + im = 8 * p0 + im from by omega] at hsu1 hsu2 hsu3
          rw [hsu3] at hl
          refine lv_iload hx hb dX4_owed_131 (lv_at hl 0 rfl) ?_
          refine lv_iload hx hb dX4_owed_133 (lv_at hl 1 rfl) ?_
          refine va_mmin hx hb (by rw [hml]; exact hl.1.symm) hown (hts _ (List.mem_cons_of_mem _ wd_326)) (hts _ (List.mem_cons_of_mem _ wd_327)) (hts _ (List.mem_cons_of_mem _ wd_324)) (hts _ (List.mem_cons_of_mem _ wd_328)) (Nat.le_of_ble_eq_true rfl) (Nat.le_of_ble_eq_true rfl) (Nat.le_of_ble_eq_true rfl) (Nat.le_of_ble_eq_true rfl) dX4_owed_135 ?_
          refine lv_topi (fun v30 ev30 => ?_)
          obtain rfl : v30 = nI (min (min (min (vq - de0 p0) (li0 p0)) (lf0 p0)) (su0 (8 * p0 + im) - 1)) := ev30.trans (min_if (by omega) (by omega))
          refine k_iret (u := [(oX4 x1 x0 s1 s2 (nI pn) si4 s5 s6 s7 s8 s9 s10 s11 si12 si13), (oX0 x0 b0 b1 b2 b3 b4 b5 b6 b7 b8 b9 b10 b11 (nI np) (nI nl) bi14), (aIc cI b0 8 B0), (aIc cI b2 8 B2), (aIc cI b3 8 B3), (aIc cI b4 8 B4), (aIc cI b8 64 B8), (aIc cI s6 8 S6)]) hx hb hr hlk hP hD hS dX4_owed_138 ?_
          exact ⟨(congrArg nI ((show _ = min (min (min (vq - de0 p0) (li0 p0)) (su0 (8 * p0 + im) - 1)) (lf0 p0) from by omega).trans (owe_s1 hbi hsc hsu1))), rfl⟩
        · skip
          refine lv_iload hx hb dX4_owed_126 (lv_at hl 0 rfl) ?_
          refine lv_goto (tgt := 138) hx hb dX4_owed_128 (by decide) ?_
          refine k_iret (u := [(oX4 x1 x0 s1 s2 (nI pn) si4 s5 s6 s7 s8 s9 s10 s11 si12 si13), (oX0 x0 b0 b1 b2 b3 b4 b5 b6 b7 b8 b9 b10 b11 (nI np) (nI nl) bi14), (aIc cI b0 8 B0), (aIc cI b2 8 B2), (aIc cI b3 8 B3), (aIc cI b4 8 B4), (aIc cI b8 64 B8), (aIc cI s6 8 S6)]) hx hb hr hlk hP hD hS dX4_owed_138 ?_
          exact ⟨(congrArg nI (owe_s0 hbi hsc (by have h9 := sub_none (k := p0 * 8 + im) hsb (by omega) ev9 c29; rwa [show p0 * 8 + im = 8 * p0 + im from by omega] at h9))), rfl⟩
  · skip
    have hc4 : ¬ (¬ (v1 >>> ((nI im) &&& 31)) &&& 1 = 0) := bz_0 hw3 c4
    refine lv_iconst (v := 0) hx hb dX4_owed_16 (by decide) ?_
    refine k_iret (u := [(oX4 x1 x0 s1 s2 (nI pn) si4 s5 s6 s7 s8 s9 s10 s11 si12 si13), (oX0 x0 b0 b1 b2 b3 b4 b5 b6 b7 b8 b9 b10 b11 (nI np) (nI nl) bi14), (aIc cI b0 8 B0), (aIc cI b2 8 B2), (aIc cI b3 8 B3), (aIc cI b4 8 B4), (aIc cI b8 64 B8), (aIc cI s6 8 S6)]) hx hb hr hlk hP hD hS dX4_owed_17 ?_
    exact ⟨(by rw [owe_no (fun q9 => hc4 ((bt_nz hit).mpr (by rw [cl_at (A := B4) hp ev1]; exact q9)))]; rfl), rfl⟩

