set_option maxHeartbeats 4000000 in
set_option maxRecDepth 100000 in
theorem e_X8_owes (l : Launch) (D : va_G) (cI cJ : ClassId) (sz : Nat) (g g2 g3 g4 g5 g6 g7 g8 g9 g10 g12 g13 g15 g16 g17 g19 g20 g21 g22 g23 g24 g25 g26 g27 g28 g33 g34 g35 g36 g37 g38 g39 g41 g42 g44 g45 p0 l0 mu0 mn ml mv : Nat) (gi0 gi14 gi18 gi29 gi30 gi32 gi40 gi43 : Int32) (G2 G4 G5 G6 G10 G12 G19 : Nat → Int32) (li0 wo0 de0 le0 su0 lim0 : Nat → Nat) (hp : p0 < 8) (hl0 : l0 < 10) (hmu : mu0 ≤ 1000000) (hit : ∀ k, k < 10 → G12 k = nI (lim0 k) ∧ lim0 k < 8) (hsu : ∀ k, k < 64 → G10 k = nI (su0 k) ∧ su0 k ≤ 1000001) (hliv : nv G2 li0) (hlib : ∀ k, k < 8 → li0 k ≤ 1000000) (hwov : nv G5 wo0) (hwob : ∀ k, k < 8 → wo0 k ≤ 9000000) (hdev : nv G4 de0) (hdeb : ∀ k, k < 8 → de0 k ≤ 99999) (hlev : G19 p0 = nI (le0 p0)) (hleb : le0 p0 ≤ 9000000) : Met l yX8_owes wtX8_owes { frames := 1, cells := 0, slots := 0, locals := 21 } (cPc D cI cJ [.ref g, .int (nI p0), .int (nI l0), .int (nI mu0)] sz [(oX8 g gi0 (nI mn) g2 g3 g4 g5 g6 g7 g8 g9 g10 (nI ml) g12 g13 gi14 g15 g16 g17 gi18 g19 g20 g21 g22 g23 g24 g25 g26 g27 g28 gi29 gi30 (nI mv) gi32 g33 g34 g35 g36 g37 g38 g39 gi40 g41 g42 gi43 g44 g45), (aIc cI g2 8 G2), (aIc cI g4 8 G4), (aIc cI g5 8 G5), (aIc cI g6 8 G6), (aIc cI g10 64 G10), (aIc cI g12 10 G12), (aIc cI g19 8 G19)]) (cQi D (fun r u => r = (nI (OWE li0 wo0 de0 su0 G6 le0 p0 (lim0 l0) mu0)) ∧ u = [(oX8 g gi0 (nI mn) g2 g3 g4 g5 g6 g7 g8 g9 g10 (nI ml) g12 g13 gi14 g15 g16 g17 gi18 g19 g20 g21 g22 g23 g24 g25 g26 g27 g28 gi29 gi30 (nI mv) gi32 g33 g34 g35 g36 g37 g38 g39 gi40 g41 g42 gi43 g44 g45), (aIc cI g2 8 G2), (aIc cI g4 8 G4), (aIc cI g5 8 G5), (aIc cI g6 8 G6), (aIc cI g10 64 G10), (aIc cI g12 10 G12), (aIc cI g19 8 G19)]) (va_A [(oX8 g gi0 (nI mn) g2 g3 g4 g5 g6 g7 g8 g9 g10 (nI ml) g12 g13 gi14 g15 g16 g17 gi18 g19 g20 g21 g22 g23 g24 g25 g26 g27 g28 gi29 gi30 (nI mv) gi32 g33 g34 g35 g36 g37 g38 g39 gi40 g41 g42 gi43 g44 g45), (aIc cI g2 8 G2), (aIc cI g4 8 G4), (aIc cI g5 8 G5), (aIc cI g6 8 G6), (aIc cI g10 64 G10), (aIc cI g12 10 G12), (aIc cI g19 8 G19)] sz)) 0 0 (va_A [(oX8 g gi0 (nI mn) g2 g3 g4 g5 g6 g7 g8 g9 g10 (nI ml) g12 g13 gi14 g15 g16 g17 gi18 g19 g20 g21 g22 g23 g24 g25 g26 g27 g28 gi29 gi30 (nI mv) gi32 g33 g34 g35 g36 g37 g38 g39 gi40 g41 g42 gi43 g44 g45), (aIc cI g2 8 G2), (aIc cI g4 8 G4), (aIc cI g5 8 G5), (aIc cI g6 8 G6), (aIc cI g10 64 G10), (aIc cI g12 10 G12), (aIc cI g19 8 G19)] sz) := by
  refine k_ofW (Qc := cQi D (fun r u => r = (nI (OWE li0 wo0 de0 su0 G6 le0 p0 (lim0 l0) mu0)) ∧ u = [(oX8 g gi0 (nI mn) g2 g3 g4 g5 g6 g7 g8 g9 g10 (nI ml) g12 g13 gi14 g15 g16 g17 gi18 g19 g20 g21 g22 g23 g24 g25 g26 g27 g28 gi29 gi30 (nI mv) gi32 g33 g34 g35 g36 g37 g38 g39 gi40 g41 g42 gi43 g44 g45), (aIc cI g2 8 G2), (aIc cI g4 8 G4), (aIc cI g5 8 G5), (aIc cI g6 8 G6), (aIc cI g10 64 G10), (aIc cI g12 10 G12), (aIc cI g19 8 G19)])) (by decide) rfl (Nat.le_of_ble_eq_true rfl) ?_
  intro p e s m below meth c A ls hx hb hr hml hts hown hlk hnm hsz hE hP hD hS hA hl
  have hown : s.vm.findClass RX8 = some m.cls := hown
  have hiX8 : ∀ w ∈ u_ws RX8 TX8 46, w ∈ wtX8_owes := fun w h => List.mem_cons_of_mem _ (iuX8 w h)
  have hl : lv_has ls 6 [(0, .ref g), (1, .int (nI p0)), (2, .int (nI l0)), (3, .int (nI mu0))] := hl
  obtain ⟨eil, hil⟩ := hit l0 (by omega)
  refine lv_aload_n hx hb dX8_owes_0 rfl (lv_at hl 0 rfl) ?_
  refine va_get (D := D) (ci := 8) (v := .ref g6) (C := RX8) (T := TX8) (N := 46) hx hb hts hiX8 hown hE.1 hP 0 rfl rfl 6 (by decide) (hts _ (List.mem_cons_of_mem _ wd_120)) (fun _ h9 => h9) rfl dX8_owes_1 ?_
  refine lv_iload_n hx hb dX8_owes_4 rfl (lv_at hl 1 rfl) ?_
  refine va_iald hx hb hE.1 hP 4 0 rfl rfl (vp_in_nI (n := p0) (by omega) (by decide)) dX8_owes_5 ?_
  refine lv_topi (fun v1 ev1 => ?_)
  refine lv_aload_n hx hb dX8_owes_6 rfl (lv_at hl 0 rfl) ?_
  refine va_get (D := D) (ci := 8) (v := .ref g12) (C := RX8) (T := TX8) (N := 46) hx hb hts hiX8 hown hE.1 hP 0 rfl rfl 12 (by decide) (hts _ (List.mem_cons_of_mem _ wd_125)) (fun _ h9 => h9) rfl dX8_owes_7 ?_
  refine lv_iload_n hx hb dX8_owes_10 rfl (lv_at hl 2 rfl) ?_
  refine va_iald hx hb hE.1 hP 6 0 rfl rfl (vp_in_nI (n := l0) (by omega) (by decide)) dX8_owes_11 ?_
  refine lv_topi (fun v2 ev2 => ?_)
  obtain rfl : v2 = nI (lim0 l0) := ev2.trans (by rw [nI_clamp (by omega)]; exact eil)
  refine k_iS (va_runS (As := [.int v1, .int (nI (lim0 l0))]) (rest := []) ⟨hx, hb, hml, hown, hts⟩ (m_X8_isOn l D cI cJ (s.heap).size v1 (nI (lim0 l0))) (va_cwS 2 hts gX8_owes_X8_isOn rfl rfl rfl (by decide +kernel) ⟨Nat.le_of_ble_eq_true rfl, Nat.le_of_ble_eq_true rfl⟩) (k_pre hE hP hD [] (by decide +kernel) rfl) rfl rfl hl.1 rfl (lv_room (Nat.le_of_ble_eq_true rfl)) dX8_owes_12 ⟨Nat.le_of_ble_eq_true rfl, Nat.le_of_ble_eq_true rfl⟩) hP hD hS hA [] rfl (fun _ _ h9 => h9.2) (fun r3 H locs hw4 hP hD hS => ?_)
  obtain ⟨hw4, -⟩ := hw4
  refine lv_if_ne (tgt := 20) hx hb dX8_owes_15 (by decide) (fun c5 => ?_) (fun c5 => ?_)
  · skip
    have hc5 : (v1 >>> ((nI (lim0 l0)) &&& 31)) &&& 1 = 1 := bz_1 hw4 c5
    have hbi : bt (G6 p0) (lim0 l0) = true := by rw [← cl_at (A := G6) hp ev1]; exact (bt_on hil).mp hc5
    have hlib_ := hlib p0 hp
    have hwob_ := hwob p0 hp
    have hdeb_ := hdeb p0 hp
    refine lv_aload_n hx hb dX8_owes_20 rfl (lv_at hl 0 rfl) ?_
    refine va_get (D := D) (ci := 8) (v := .ref g5) (C := RX8) (T := TX8) (N := 46) hx hb hts hiX8 hown hE.1 hP 0 rfl rfl 5 (by decide) (hts _ (List.mem_cons_of_mem _ wd_119)) (fun _ h9 => h9) rfl dX8_owes_21 ?_
    refine lv_iload_n hx hb dX8_owes_24 rfl (lv_at hl 1 rfl) ?_
    refine va_iald hx hb hE.1 hP 3 0 rfl rfl (vp_in_nI (n := p0) (by omega) (by decide)) dX8_owes_25 ?_
    refine lv_topi (fun v6 ev6 => ?_)
    obtain rfl : v6 = nI (wo0 p0) := ev6.trans (nv_at hwov (by omega))
    refine lv_aload_n hx hb dX8_owes_26 rfl (lv_at hl 0 rfl) ?_
    refine va_get (D := D) (ci := 8) (v := .ref g2) (C := RX8) (T := TX8) (N := 46) hx hb hts hiX8 hown hE.1 hP 0 rfl rfl 2 (by decide) (hts _ (List.mem_cons_of_mem _ wd_116)) (fun _ h9 => h9) rfl dX8_owes_27 ?_
    refine lv_iload_n hx hb dX8_owes_30 rfl (lv_at hl 1 rfl) ?_
    refine va_iald hx hb hE.1 hP 1 0 rfl rfl (vp_in_nI (n := p0) (by omega) (by decide)) dX8_owes_31 ?_
    refine lv_topi (fun v7 ev7 => ?_)
    obtain rfl : v7 = nI (li0 p0) := ev7.trans (nv_at hliv (by omega))
    refine lv_icmp_le (tgt := 57) hx hb dX8_owes_32 (by decide) (fun c8 => ?_) (fun c8 => ?_)
    · skip
      have nc8 : wo0 p0 ≤ li0 p0 := (nI_leI (a := (wo0 p0)) (b := (li0 p0)) (by omega) (by omega)).mp c8
      refine lv_iload_n hx hb dX8_owes_57 rfl (lv_at hl 3 rfl) ?_
      refine lv_istore (lv' := [(4, .int (nI mu0)), (0, .ref g), (1, .int (nI p0)), (2, .int (nI l0)), (3, .int (nI mu0))]) hx hb dX8_owes_58 hl (by decide) rfl (fun ls hl => ?_)
      have hsc : mu0 = if li0 p0 < wo0 p0 then mu0 * li0 p0 / wo0 p0 else mu0 := by rw [if_neg (by omega)]
      refine lv_iload hx hb dX8_owes_60 (lv_at hl 0 rfl) ?_
      refine lv_aload_n hx hb dX8_owes_62 rfl (lv_at hl 1 rfl) ?_
      refine va_get (D := D) (ci := 8) (v := .ref g4) (C := RX8) (T := TX8) (N := 46) hx hb hts hiX8 hown hE.1 hP 0 rfl rfl 4 (by decide) (hts _ (List.mem_cons_of_mem _ wd_118)) (fun _ h9 => h9) rfl dX8_owes_63 ?_
      refine lv_iload_n hx hb dX8_owes_66 rfl (lv_at hl 2 rfl) ?_
      refine va_iald hx hb hE.1 hP 2 0 rfl rfl (vp_in_nI (n := p0) (by omega) (by decide)) dX8_owes_67 ?_
      refine lv_topi (fun v9 ev9 => ?_)
      obtain rfl : v9 = nI (de0 p0) := ev9.trans (nv_at hdev (by omega))
      refine lv_isub hx hb dX8_owes_68 ?_
      refine lv_topi (fun v10 ev10 => ?_)
      refine lv_istore (lv' := [(4, .int v10), (0, .ref g), (1, .int (nI p0)), (2, .int (nI l0)), (3, .int (nI mu0))]) hx hb dX8_owes_69 hl (by decide) rfl (fun ls hl => ?_)
      refine lv_iload hx hb dX8_owes_71 (lv_at hl 0 rfl) ?_
      refine lv_if_ge (tgt := 80) hx hb dX8_owes_73 (by decide) (fun c11 => ?_) (fun c11 => ?_)
      · skip
        refine lv_iload hx hb dX8_owes_80 (lv_at hl 0 rfl) ?_
        have hmx9 := mx_sub (by omega) (by omega) ev10
        rw [if_neg (Int32.not_lt.mpr c11)] at hmx9
        rw [hmx9]
        refine lv_aload_n hx hb dX8_owes_82 rfl (lv_at hl 1 rfl) ?_
        refine va_get (D := D) (ci := 8) (v := .ref g2) (C := RX8) (T := TX8) (N := 46) hx hb hts hiX8 hown hE.1 hP 0 rfl rfl 2 (by decide) (hts _ (List.mem_cons_of_mem _ wd_116)) (fun _ h9 => h9) rfl dX8_owes_83 ?_
        refine lv_iload_n hx hb dX8_owes_86 rfl (lv_at hl 2 rfl) ?_
        refine va_iald hx hb hE.1 hP 1 0 rfl rfl (vp_in_nI (n := p0) (by omega) (by decide)) dX8_owes_87 ?_
        refine lv_topi (fun v12 ev12 => ?_)
        obtain rfl : v12 = nI (li0 p0) := ev12.trans (nv_at hliv (by omega))
        refine k_iS (va_runS (As := [.int (nI (mu0 - de0 p0)), .int (nI (li0 p0))]) (rest := []) ⟨hx, hb, hml, hown, hts⟩ (m_X8_least l D cI cJ H.size (mu0 - de0 p0) (li0 p0) (by omega) (by omega)) (va_cwS 2 hts gX8_owes_X8_least rfl rfl rfl (by decide +kernel) ⟨Nat.le_of_ble_eq_true rfl, Nat.le_of_ble_eq_true rfl⟩) (k_pre hE hP hD [] (by decide +kernel) rfl) rfl rfl hl.1 rfl (lv_room (Nat.le_of_ble_eq_true rfl)) dX8_owes_88 ⟨Nat.le_of_ble_eq_true rfl, Nat.le_of_ble_eq_true rfl⟩) hP hD hS hA [] rfl (fun _ _ ⟨_, h9⟩ => h9) (fun r13 H locs hw14 hP hD hS => ?_)
        obtain ⟨rfl, -⟩ := hw14
        refine lv_istore (lv' := [(4, .int (nI (min (mu0 - de0 p0) (li0 p0)))), (0, .ref g), (1, .int (nI p0)), (2, .int (nI l0)), (3, .int (nI mu0))]) hx hb dX8_owes_91 hl (by decide) rfl (fun ls hl => ?_)
        refine lv_aload_n hx hb dX8_owes_93 rfl (lv_at hl 1 rfl) ?_
        refine va_get (D := D) (ci := 8) (v := .ref g10) (C := RX8) (T := TX8) (N := 46) hx hb hts hiX8 hown hE.1 hP 0 rfl rfl 10 (by decide) (hts _ (List.mem_cons_of_mem _ wd_124)) (fun _ h9 => h9) rfl dX8_owes_94 ?_
        refine lv_bipush (v := 8) hx hb dX8_owes_97 (by decide) ?_
        refine lv_iload_n hx hb dX8_owes_99 rfl (lv_at hl 2 rfl) ?_
        refine lv_imul hx hb dX8_owes_100 ?_
        refine lv_topi (fun v15 ev15 => ?_)
        obtain rfl : v15 = (nI (8 * p0)) := by rw [ev15]; exact pk_mul 8 p0
        refine lv_aload_n hx hb dX8_owes_101 rfl (lv_at hl 1 rfl) ?_
        refine va_get (D := D) (ci := 8) (v := .ref g12) (C := RX8) (T := TX8) (N := 46) hx hb hts hiX8 hown hE.1 hP 0 rfl rfl 12 (by decide) (hts _ (List.mem_cons_of_mem _ wd_125)) (fun _ h9 => h9) rfl dX8_owes_102 ?_
        refine lv_iload_n hx hb dX8_owes_105 rfl (lv_at hl 3 rfl) ?_
        refine va_iald hx hb hE.1 hP 6 0 rfl rfl (vp_in_nI (n := l0) (by omega) (by decide)) dX8_owes_106 ?_
        refine lv_topi (fun v16 ev16 => ?_)
        obtain rfl : v16 = nI (lim0 l0) := ev16.trans (by rw [nI_clamp (by omega)]; exact eil)
        refine lv_iadd hx hb dX8_owes_107 ?_
        refine lv_topi (fun v17 ev17 => ?_)
        obtain rfl : v17 = (nI (8 * p0 + (lim0 l0))) := by rw [ev17]; exact nI_add (8 * p0) (lim0 l0)
        refine va_iald hx hb hE.1 hP 5 0 rfl rfl (vp_in_nI (n := 8 * p0 + (lim0 l0)) (by omega) (by decide)) dX8_owes_108 ?_
        refine lv_topi (fun v18 ev18 => ?_)
        obtain rfl : v18 = nI (su0 (8 * p0 + lim0 l0)) := ev18.trans (by rw [nI_clamp (by omega)]; exact (hsu (8 * p0 + lim0 l0) (by omega)).1)
        have hsu_ := (hsu (8 * p0 + lim0 l0) (by omega)).2
        refine lv_istore (lv' := [(5, .int (nI (su0 (8 * p0 + lim0 l0)))), (4, .int (nI (min (mu0 - de0 p0) (li0 p0)))), (0, .ref g), (1, .int (nI p0)), (2, .int (nI l0)), (3, .int (nI mu0))]) hx hb dX8_owes_109 hl (by decide) rfl (fun ls hl => ?_)
        refine lv_iload hx hb dX8_owes_111 (lv_at hl 0 rfl) ?_
        refine lv_if_le (tgt := 128) hx hb dX8_owes_113 (by decide) (fun c19 => ?_) (fun c19 => ?_)
        · skip
          have nc19 : su0 (8 * p0 + lim0 l0) ≤ 0 := (nI_leI (a := (su0 (8 * p0 + lim0 l0))) (b := 0) (by omega) (by omega)).mp c19
          refine lv_iload hx hb dX8_owes_128 (lv_at hl 1 rfl) ?_
          refine lv_istore (lv' := [(4, .int (nI (min (mu0 - de0 p0) (li0 p0)))), (5, .int (nI (su0 (8 * p0 + lim0 l0)))), (0, .ref g), (1, .int (nI p0)), (2, .int (nI l0)), (3, .int (nI mu0))]) hx hb dX8_owes_130 hl (by decide) rfl (fun ls hl => ?_)
          refine lv_iload hx hb dX8_owes_132 (lv_at hl 0 rfl) ?_
          refine lv_aload_n hx hb dX8_owes_134 rfl (lv_at hl 2 rfl) ?_
          refine va_get (D := D) (ci := 8) (v := .ref g19) (C := RX8) (T := TX8) (N := 46) hx hb hts hiX8 hown hE.1 hP 0 rfl rfl 19 (by decide) (hts _ (List.mem_cons_of_mem _ wd_130)) (fun _ h9 => h9) rfl dX8_owes_135 ?_
          refine lv_iload_n hx hb dX8_owes_138 rfl (lv_at hl 3 rfl) ?_
          refine va_iald hx hb hE.1 hP 7 0 rfl rfl (vp_in_nI (n := p0) (by omega) (by decide)) dX8_owes_139 ?_
          refine lv_topi (fun v20 ev20 => ?_)
          obtain rfl : v20 = nI (le0 p0) := ev20.trans (by rw [nI_clamp (by omega)]; exact hlev)
          refine k_iS (va_runS (As := [.int (nI (min (mu0 - de0 p0) (li0 p0))), .int (nI (le0 p0))]) (rest := []) ⟨hx, hb, hml, hown, hts⟩ (m_X8_least l D cI cJ H.size (min (mu0 - de0 p0) (li0 p0)) (le0 p0) (by omega) (by omega)) (va_cwS 2 hts gX8_owes_X8_least rfl rfl rfl (by decide +kernel) ⟨Nat.le_of_ble_eq_true rfl, Nat.le_of_ble_eq_true rfl⟩) (k_pre hE hP hD [] (by decide +kernel) rfl) rfl rfl hl.1 rfl (lv_room (Nat.le_of_ble_eq_true rfl)) dX8_owes_140 ⟨Nat.le_of_ble_eq_true rfl, Nat.le_of_ble_eq_true rfl⟩) hP hD hS hA [] rfl (fun _ _ ⟨_, h9⟩ => h9) (fun r21 H locs hw22 hP hD hS => ?_)
          obtain ⟨rfl, -⟩ := hw22
          refine k_iret (u := [(oX8 g gi0 (nI mn) g2 g3 g4 g5 g6 g7 g8 g9 g10 (nI ml) g12 g13 gi14 g15 g16 g17 gi18 g19 g20 g21 g22 g23 g24 g25 g26 g27 g28 gi29 gi30 (nI mv) gi32 g33 g34 g35 g36 g37 g38 g39 gi40 g41 g42 gi43 g44 g45), (aIc cI g2 8 G2), (aIc cI g4 8 G4), (aIc cI g5 8 G5), (aIc cI g6 8 G6), (aIc cI g10 64 G10), (aIc cI g12 10 G12), (aIc cI g19 8 G19)]) hx hb hr hlk hP hD hS dX8_owes_143 ?_
          exact ⟨(congrArg nI (owe_s0 hbi hsc (by omega))), rfl⟩
        · skip
          have nc19 : ¬ su0 (8 * p0 + lim0 l0) ≤ 0 := fun q9 => c19 ((nI_leI (a := (su0 (8 * p0 + lim0 l0))) (b := 0) (by omega) (by omega)).mpr q9)
          refine lv_iload hx hb dX8_owes_116 (lv_at hl 1 rfl) ?_
          refine lv_iload hx hb dX8_owes_118 (lv_at hl 0 rfl) ?_
          refine lv_iconst (v := 1) hx hb dX8_owes_120 (by decide) ?_
          refine lv_isub hx hb dX8_owes_121 ?_
          refine lv_topi (fun v23 ev23 => ?_)
          obtain rfl : v23 = nI (su0 (8 * p0 + lim0 l0) - 1) := by rw [ev23]; exact pk_sub (a := su0 (8 * p0 + lim0 l0)) (b := 1) (by omega)
          refine k_iS (va_runS (As := [.int (nI (min (mu0 - de0 p0) (li0 p0))), .int (nI (su0 (8 * p0 + lim0 l0) - 1))]) (rest := []) ⟨hx, hb, hml, hown, hts⟩ (m_X8_least l D cI cJ H.size (min (mu0 - de0 p0) (li0 p0)) (su0 (8 * p0 + lim0 l0) - 1) (by omega) (by omega)) (va_cwS 2 hts gX8_owes_X8_least rfl rfl rfl (by decide +kernel) ⟨Nat.le_of_ble_eq_true rfl, Nat.le_of_ble_eq_true rfl⟩) (k_pre hE hP hD [] (by decide +kernel) rfl) rfl rfl hl.1 rfl (lv_room (Nat.le_of_ble_eq_true rfl)) dX8_owes_122 ⟨Nat.le_of_ble_eq_true rfl, Nat.le_of_ble_eq_true rfl⟩) hP hD hS hA [] rfl (fun _ _ ⟨_, h9⟩ => h9) (fun r24 H locs hw25 hP hD hS => ?_)
          obtain ⟨rfl, -⟩ := hw25
          refine lv_goto (tgt := 130) hx hb dX8_owes_125 (by decide) ?_
          refine lv_istore (lv' := [(4, .int (nI (min (min (mu0 - de0 p0) (li0 p0)) (su0 (8 * p0 + lim0 l0) - 1)))), (5, .int (nI (su0 (8 * p0 + lim0 l0)))), (0, .ref g), (1, .int (nI p0)), (2, .int (nI l0)), (3, .int (nI mu0))]) hx hb dX8_owes_130 hl (by decide) rfl (fun ls hl => ?_)
          refine lv_iload hx hb dX8_owes_132 (lv_at hl 0 rfl) ?_
          refine lv_aload_n hx hb dX8_owes_134 rfl (lv_at hl 2 rfl) ?_
          refine va_get (D := D) (ci := 8) (v := .ref g19) (C := RX8) (T := TX8) (N := 46) hx hb hts hiX8 hown hE.1 hP 0 rfl rfl 19 (by decide) (hts _ (List.mem_cons_of_mem _ wd_130)) (fun _ h9 => h9) rfl dX8_owes_135 ?_
          refine lv_iload_n hx hb dX8_owes_138 rfl (lv_at hl 3 rfl) ?_
          refine va_iald hx hb hE.1 hP 7 0 rfl rfl (vp_in_nI (n := p0) (by omega) (by decide)) dX8_owes_139 ?_
          refine lv_topi (fun v26 ev26 => ?_)
          obtain rfl : v26 = nI (le0 p0) := ev26.trans (by rw [nI_clamp (by omega)]; exact hlev)
          refine k_iS (va_runS (As := [.int (nI (min (min (mu0 - de0 p0) (li0 p0)) (su0 (8 * p0 + lim0 l0) - 1))), .int (nI (le0 p0))]) (rest := []) ⟨hx, hb, hml, hown, hts⟩ (m_X8_least l D cI cJ H.size (min (min (mu0 - de0 p0) (li0 p0)) (su0 (8 * p0 + lim0 l0) - 1)) (le0 p0) (by omega) (by omega)) (va_cwS 2 hts gX8_owes_X8_least rfl rfl rfl (by decide +kernel) ⟨Nat.le_of_ble_eq_true rfl, Nat.le_of_ble_eq_true rfl⟩) (k_pre hE hP hD [] (by decide +kernel) rfl) rfl rfl hl.1 rfl (lv_room (Nat.le_of_ble_eq_true rfl)) dX8_owes_140 ⟨Nat.le_of_ble_eq_true rfl, Nat.le_of_ble_eq_true rfl⟩) hP hD hS hA [] rfl (fun _ _ ⟨_, h9⟩ => h9) (fun r27 H locs hw28 hP hD hS => ?_)
          obtain ⟨rfl, -⟩ := hw28
          refine k_iret (u := [(oX8 g gi0 (nI mn) g2 g3 g4 g5 g6 g7 g8 g9 g10 (nI ml) g12 g13 gi14 g15 g16 g17 gi18 g19 g20 g21 g22 g23 g24 g25 g26 g27 g28 gi29 gi30 (nI mv) gi32 g33 g34 g35 g36 g37 g38 g39 gi40 g41 g42 gi43 g44 g45), (aIc cI g2 8 G2), (aIc cI g4 8 G4), (aIc cI g5 8 G5), (aIc cI g6 8 G6), (aIc cI g10 64 G10), (aIc cI g12 10 G12), (aIc cI g19 8 G19)]) hx hb hr hlk hP hD hS dX8_owes_143 ?_
          exact ⟨(congrArg nI (owe_s1 hbi hsc (by omega))), rfl⟩
      · skip
        refine lv_iconst (v := 0) hx hb dX8_owes_76 (by decide) ?_
        refine lv_goto (tgt := 82) hx hb dX8_owes_77 (by decide) ?_
        have hmx9 := mx_sub (by omega) (by omega) ev10
        rw [if_pos (Int32.not_le.mp c11)] at hmx9
        refine W.eq (g2 := F0 m 82 ls [.int (nI (mu0 - de0 p0))]) (by rw [← hmx9]) ?_
        refine lv_aload_n hx hb dX8_owes_82 rfl (lv_at hl 1 rfl) ?_
        refine va_get (D := D) (ci := 8) (v := .ref g2) (C := RX8) (T := TX8) (N := 46) hx hb hts hiX8 hown hE.1 hP 0 rfl rfl 2 (by decide) (hts _ (List.mem_cons_of_mem _ wd_116)) (fun _ h9 => h9) rfl dX8_owes_83 ?_
        refine lv_iload_n hx hb dX8_owes_86 rfl (lv_at hl 2 rfl) ?_
        refine va_iald hx hb hE.1 hP 1 0 rfl rfl (vp_in_nI (n := p0) (by omega) (by decide)) dX8_owes_87 ?_
        refine lv_topi (fun v29 ev29 => ?_)
        obtain rfl : v29 = nI (li0 p0) := ev29.trans (nv_at hliv (by omega))
        refine k_iS (va_runS (As := [.int (nI (mu0 - de0 p0)), .int (nI (li0 p0))]) (rest := []) ⟨hx, hb, hml, hown, hts⟩ (m_X8_least l D cI cJ H.size (mu0 - de0 p0) (li0 p0) (by omega) (by omega)) (va_cwS 2 hts gX8_owes_X8_least rfl rfl rfl (by decide +kernel) ⟨Nat.le_of_ble_eq_true rfl, Nat.le_of_ble_eq_true rfl⟩) (k_pre hE hP hD [] (by decide +kernel) rfl) rfl rfl hl.1 rfl (lv_room (Nat.le_of_ble_eq_true rfl)) dX8_owes_88 ⟨Nat.le_of_ble_eq_true rfl, Nat.le_of_ble_eq_true rfl⟩) hP hD hS hA [] rfl (fun _ _ ⟨_, h9⟩ => h9) (fun r30 H locs hw31 hP hD hS => ?_)
        obtain ⟨rfl, -⟩ := hw31
        refine lv_istore (lv' := [(4, .int (nI (min (mu0 - de0 p0) (li0 p0)))), (0, .ref g), (1, .int (nI p0)), (2, .int (nI l0)), (3, .int (nI mu0))]) hx hb dX8_owes_91 hl (by decide) rfl (fun ls hl => ?_)
        refine lv_aload_n hx hb dX8_owes_93 rfl (lv_at hl 1 rfl) ?_
        refine va_get (D := D) (ci := 8) (v := .ref g10) (C := RX8) (T := TX8) (N := 46) hx hb hts hiX8 hown hE.1 hP 0 rfl rfl 10 (by decide) (hts _ (List.mem_cons_of_mem _ wd_124)) (fun _ h9 => h9) rfl dX8_owes_94 ?_
        refine lv_bipush (v := 8) hx hb dX8_owes_97 (by decide) ?_
        refine lv_iload_n hx hb dX8_owes_99 rfl (lv_at hl 2 rfl) ?_
        refine lv_imul hx hb dX8_owes_100 ?_
        refine lv_topi (fun v32 ev32 => ?_)
        obtain rfl : v32 = (nI (8 * p0)) := by rw [ev32]; exact pk_mul 8 p0
        refine lv_aload_n hx hb dX8_owes_101 rfl (lv_at hl 1 rfl) ?_
        refine va_get (D := D) (ci := 8) (v := .ref g12) (C := RX8) (T := TX8) (N := 46) hx hb hts hiX8 hown hE.1 hP 0 rfl rfl 12 (by decide) (hts _ (List.mem_cons_of_mem _ wd_125)) (fun _ h9 => h9) rfl dX8_owes_102 ?_
        refine lv_iload_n hx hb dX8_owes_105 rfl (lv_at hl 3 rfl) ?_
        refine va_iald hx hb hE.1 hP 6 0 rfl rfl (vp_in_nI (n := l0) (by omega) (by decide)) dX8_owes_106 ?_
        refine lv_topi (fun v33 ev33 => ?_)
        obtain rfl : v33 = nI (lim0 l0) := ev33.trans (by rw [nI_clamp (by omega)]; exact eil)
        refine lv_iadd hx hb dX8_owes_107 ?_
        refine lv_topi (fun v34 ev34 => ?_)
        obtain rfl : v34 = (nI (8 * p0 + (lim0 l0))) := by rw [ev34]; exact nI_add (8 * p0) (lim0 l0)
        refine va_iald hx hb hE.1 hP 5 0 rfl rfl (vp_in_nI (n := 8 * p0 + (lim0 l0)) (by omega) (by decide)) dX8_owes_108 ?_
        refine lv_topi (fun v35 ev35 => ?_)
        obtain rfl : v35 = nI (su0 (8 * p0 + lim0 l0)) := ev35.trans (by rw [nI_clamp (by omega)]; exact (hsu (8 * p0 + lim0 l0) (by omega)).1)
        have hsu_ := (hsu (8 * p0 + lim0 l0) (by omega)).2
        refine lv_istore (lv' := [(5, .int (nI (su0 (8 * p0 + lim0 l0)))), (4, .int (nI (min (mu0 - de0 p0) (li0 p0)))), (0, .ref g), (1, .int (nI p0)), (2, .int (nI l0)), (3, .int (nI mu0))]) hx hb dX8_owes_109 hl (by decide) rfl (fun ls hl => ?_)
        refine lv_iload hx hb dX8_owes_111 (lv_at hl 0 rfl) ?_
        refine lv_if_le (tgt := 128) hx hb dX8_owes_113 (by decide) (fun c36 => ?_) (fun c36 => ?_)
        · skip
          have nc36 : su0 (8 * p0 + lim0 l0) ≤ 0 := (nI_leI (a := (su0 (8 * p0 + lim0 l0))) (b := 0) (by omega) (by omega)).mp c36
          refine lv_iload hx hb dX8_owes_128 (lv_at hl 1 rfl) ?_
          refine lv_istore (lv' := [(4, .int (nI (min (mu0 - de0 p0) (li0 p0)))), (5, .int (nI (su0 (8 * p0 + lim0 l0)))), (0, .ref g), (1, .int (nI p0)), (2, .int (nI l0)), (3, .int (nI mu0))]) hx hb dX8_owes_130 hl (by decide) rfl (fun ls hl => ?_)
          refine lv_iload hx hb dX8_owes_132 (lv_at hl 0 rfl) ?_
          refine lv_aload_n hx hb dX8_owes_134 rfl (lv_at hl 2 rfl) ?_
          refine va_get (D := D) (ci := 8) (v := .ref g19) (C := RX8) (T := TX8) (N := 46) hx hb hts hiX8 hown hE.1 hP 0 rfl rfl 19 (by decide) (hts _ (List.mem_cons_of_mem _ wd_130)) (fun _ h9 => h9) rfl dX8_owes_135 ?_
          refine lv_iload_n hx hb dX8_owes_138 rfl (lv_at hl 3 rfl) ?_
          refine va_iald hx hb hE.1 hP 7 0 rfl rfl (vp_in_nI (n := p0) (by omega) (by decide)) dX8_owes_139 ?_
          refine lv_topi (fun v37 ev37 => ?_)
          obtain rfl : v37 = nI (le0 p0) := ev37.trans (by rw [nI_clamp (by omega)]; exact hlev)
          refine k_iS (va_runS (As := [.int (nI (min (mu0 - de0 p0) (li0 p0))), .int (nI (le0 p0))]) (rest := []) ⟨hx, hb, hml, hown, hts⟩ (m_X8_least l D cI cJ H.size (min (mu0 - de0 p0) (li0 p0)) (le0 p0) (by omega) (by omega)) (va_cwS 2 hts gX8_owes_X8_least rfl rfl rfl (by decide +kernel) ⟨Nat.le_of_ble_eq_true rfl, Nat.le_of_ble_eq_true rfl⟩) (k_pre hE hP hD [] (by decide +kernel) rfl) rfl rfl hl.1 rfl (lv_room (Nat.le_of_ble_eq_true rfl)) dX8_owes_140 ⟨Nat.le_of_ble_eq_true rfl, Nat.le_of_ble_eq_true rfl⟩) hP hD hS hA [] rfl (fun _ _ ⟨_, h9⟩ => h9) (fun r38 H locs hw39 hP hD hS => ?_)
          obtain ⟨rfl, -⟩ := hw39
          refine k_iret (u := [(oX8 g gi0 (nI mn) g2 g3 g4 g5 g6 g7 g8 g9 g10 (nI ml) g12 g13 gi14 g15 g16 g17 gi18 g19 g20 g21 g22 g23 g24 g25 g26 g27 g28 gi29 gi30 (nI mv) gi32 g33 g34 g35 g36 g37 g38 g39 gi40 g41 g42 gi43 g44 g45), (aIc cI g2 8 G2), (aIc cI g4 8 G4), (aIc cI g5 8 G5), (aIc cI g6 8 G6), (aIc cI g10 64 G10), (aIc cI g12 10 G12), (aIc cI g19 8 G19)]) hx hb hr hlk hP hD hS dX8_owes_143 ?_
          exact ⟨(congrArg nI (owe_s0 hbi hsc (by omega))), rfl⟩
        · skip
          have nc36 : ¬ su0 (8 * p0 + lim0 l0) ≤ 0 := fun q9 => c36 ((nI_leI (a := (su0 (8 * p0 + lim0 l0))) (b := 0) (by omega) (by omega)).mpr q9)
          refine lv_iload hx hb dX8_owes_116 (lv_at hl 1 rfl) ?_
          refine lv_iload hx hb dX8_owes_118 (lv_at hl 0 rfl) ?_
          refine lv_iconst (v := 1) hx hb dX8_owes_120 (by decide) ?_
          refine lv_isub hx hb dX8_owes_121 ?_
          refine lv_topi (fun v40 ev40 => ?_)
          obtain rfl : v40 = nI (su0 (8 * p0 + lim0 l0) - 1) := by rw [ev40]; exact pk_sub (a := su0 (8 * p0 + lim0 l0)) (b := 1) (by omega)
          refine k_iS (va_runS (As := [.int (nI (min (mu0 - de0 p0) (li0 p0))), .int (nI (su0 (8 * p0 + lim0 l0) - 1))]) (rest := []) ⟨hx, hb, hml, hown, hts⟩ (m_X8_least l D cI cJ H.size (min (mu0 - de0 p0) (li0 p0)) (su0 (8 * p0 + lim0 l0) - 1) (by omega) (by omega)) (va_cwS 2 hts gX8_owes_X8_least rfl rfl rfl (by decide +kernel) ⟨Nat.le_of_ble_eq_true rfl, Nat.le_of_ble_eq_true rfl⟩) (k_pre hE hP hD [] (by decide +kernel) rfl) rfl rfl hl.1 rfl (lv_room (Nat.le_of_ble_eq_true rfl)) dX8_owes_122 ⟨Nat.le_of_ble_eq_true rfl, Nat.le_of_ble_eq_true rfl⟩) hP hD hS hA [] rfl (fun _ _ ⟨_, h9⟩ => h9) (fun r41 H locs hw42 hP hD hS => ?_)
          obtain ⟨rfl, -⟩ := hw42
          refine lv_goto (tgt := 130) hx hb dX8_owes_125 (by decide) ?_
          refine lv_istore (lv' := [(4, .int (nI (min (min (mu0 - de0 p0) (li0 p0)) (su0 (8 * p0 + lim0 l0) - 1)))), (5, .int (nI (su0 (8 * p0 + lim0 l0)))), (0, .ref g), (1, .int (nI p0)), (2, .int (nI l0)), (3, .int (nI mu0))]) hx hb dX8_owes_130 hl (by decide) rfl (fun ls hl => ?_)
          refine lv_iload hx hb dX8_owes_132 (lv_at hl 0 rfl) ?_
          refine lv_aload_n hx hb dX8_owes_134 rfl (lv_at hl 2 rfl) ?_
          refine va_get (D := D) (ci := 8) (v := .ref g19) (C := RX8) (T := TX8) (N := 46) hx hb hts hiX8 hown hE.1 hP 0 rfl rfl 19 (by decide) (hts _ (List.mem_cons_of_mem _ wd_130)) (fun _ h9 => h9) rfl dX8_owes_135 ?_
          refine lv_iload_n hx hb dX8_owes_138 rfl (lv_at hl 3 rfl) ?_
          refine va_iald hx hb hE.1 hP 7 0 rfl rfl (vp_in_nI (n := p0) (by omega) (by decide)) dX8_owes_139 ?_
          refine lv_topi (fun v43 ev43 => ?_)
          obtain rfl : v43 = nI (le0 p0) := ev43.trans (by rw [nI_clamp (by omega)]; exact hlev)
          refine k_iS (va_runS (As := [.int (nI (min (min (mu0 - de0 p0) (li0 p0)) (su0 (8 * p0 + lim0 l0) - 1))), .int (nI (le0 p0))]) (rest := []) ⟨hx, hb, hml, hown, hts⟩ (m_X8_least l D cI cJ H.size (min (min (mu0 - de0 p0) (li0 p0)) (su0 (8 * p0 + lim0 l0) - 1)) (le0 p0) (by omega) (by omega)) (va_cwS 2 hts gX8_owes_X8_least rfl rfl rfl (by decide +kernel) ⟨Nat.le_of_ble_eq_true rfl, Nat.le_of_ble_eq_true rfl⟩) (k_pre hE hP hD [] (by decide +kernel) rfl) rfl rfl hl.1 rfl (lv_room (Nat.le_of_ble_eq_true rfl)) dX8_owes_140 ⟨Nat.le_of_ble_eq_true rfl, Nat.le_of_ble_eq_true rfl⟩) hP hD hS hA [] rfl (fun _ _ ⟨_, h9⟩ => h9) (fun r44 H locs hw45 hP hD hS => ?_)
          obtain ⟨rfl, -⟩ := hw45
          refine k_iret (u := [(oX8 g gi0 (nI mn) g2 g3 g4 g5 g6 g7 g8 g9 g10 (nI ml) g12 g13 gi14 g15 g16 g17 gi18 g19 g20 g21 g22 g23 g24 g25 g26 g27 g28 gi29 gi30 (nI mv) gi32 g33 g34 g35 g36 g37 g38 g39 gi40 g41 g42 gi43 g44 g45), (aIc cI g2 8 G2), (aIc cI g4 8 G4), (aIc cI g5 8 G5), (aIc cI g6 8 G6), (aIc cI g10 64 G10), (aIc cI g12 10 G12), (aIc cI g19 8 G19)]) hx hb hr hlk hP hD hS dX8_owes_143 ?_
          exact ⟨(congrArg nI (owe_s1 hbi hsc (by omega))), rfl⟩
    · skip
      have nc8 : ¬ wo0 p0 ≤ li0 p0 := fun q9 => c8 ((nI_leI (a := (wo0 p0)) (b := (li0 p0)) (by omega) (by omega)).mpr q9)
      refine lv_iload_n hx hb dX8_owes_35 rfl (lv_at hl 3 rfl) ?_
      refine lv_i2l hx hb dX8_owes_36 rfl ?_
      refine lv_aload_n hx hb dX8_owes_37 rfl (lv_at hl 0 rfl) ?_
      refine va_get (D := D) (ci := 8) (v := .ref g2) (C := RX8) (T := TX8) (N := 46) hx hb hts hiX8 hown hE.1 hP 0 rfl rfl 2 (by decide) (hts _ (List.mem_cons_of_mem _ wd_116)) (fun _ h9 => h9) rfl dX8_owes_38 ?_
      refine lv_iload_n hx hb dX8_owes_41 rfl (lv_at hl 1 rfl) ?_
      refine va_iald hx hb hE.1 hP 1 0 rfl rfl (vp_in_nI (n := p0) (by omega) (by decide)) dX8_owes_42 ?_
      refine lv_topi (fun v46 ev46 => ?_)
      obtain rfl : v46 = nI (li0 p0) := ev46.trans (nv_at hliv (by omega))
      refine lv_i2l hx hb dX8_owes_43 rfl ?_
      refine lv_lmul hx hb dX8_owes_44 ?_
      refine lv_topl (fun v47 ev47 => ?_)
      refine lv_aload_n hx hb dX8_owes_45 rfl (lv_at hl 0 rfl) ?_
      refine va_get (D := D) (ci := 8) (v := .ref g5) (C := RX8) (T := TX8) (N := 46) hx hb hts hiX8 hown hE.1 hP 0 rfl rfl 5 (by decide) (hts _ (List.mem_cons_of_mem _ wd_119)) (fun _ h9 => h9) rfl dX8_owes_46 ?_
      refine lv_iload_n hx hb dX8_owes_49 rfl (lv_at hl 1 rfl) ?_
      refine va_iald hx hb hE.1 hP 3 0 rfl rfl (vp_in_nI (n := p0) (by omega) (by decide)) dX8_owes_50 ?_
      refine lv_topi (fun v48 ev48 => ?_)
      obtain rfl : v48 = nI (wo0 p0) := ev48.trans (nv_at hwov (by omega))
      refine lv_i2l hx hb dX8_owes_51 rfl ?_
      refine lv_ldiv hx hb dX8_owes_52 (ow_ne (by omega) (by omega)) ?_
      refine lv_topl (fun v49 ev49 => ?_)
      refine lv_l2i hx hb dX8_owes_53 rfl ?_
      refine lv_topi (fun v50 ev50 => ?_)
      obtain ⟨vq, evq⟩ : ∃ z : Nat, z = mu0 * li0 p0 / wo0 p0 := ⟨_, rfl⟩
      have hvq : vq ≤ mu0 := by rw [evq]; exact ow_le (by omega)
      obtain rfl : v50 = nI vq := by rw [evq]; exact ow_div (by omega) (hlib p0 hp) (by omega) (by omega) ev47 ev49 ev50
      refine lv_goto (tgt := 58) hx hb dX8_owes_54 (by decide) ?_
      refine lv_istore (lv' := [(4, .int (nI vq)), (0, .ref g), (1, .int (nI p0)), (2, .int (nI l0)), (3, .int (nI mu0))]) hx hb dX8_owes_58 hl (by decide) rfl (fun ls hl => ?_)
      have hsc : vq = if li0 p0 < wo0 p0 then mu0 * li0 p0 / wo0 p0 else mu0 := by rw [if_pos (by omega)]; exact evq
      refine lv_iload hx hb dX8_owes_60 (lv_at hl 0 rfl) ?_
      refine lv_aload_n hx hb dX8_owes_62 rfl (lv_at hl 1 rfl) ?_
      refine va_get (D := D) (ci := 8) (v := .ref g4) (C := RX8) (T := TX8) (N := 46) hx hb hts hiX8 hown hE.1 hP 0 rfl rfl 4 (by decide) (hts _ (List.mem_cons_of_mem _ wd_118)) (fun _ h9 => h9) rfl dX8_owes_63 ?_
      refine lv_iload_n hx hb dX8_owes_66 rfl (lv_at hl 2 rfl) ?_
      refine va_iald hx hb hE.1 hP 2 0 rfl rfl (vp_in_nI (n := p0) (by omega) (by decide)) dX8_owes_67 ?_
      refine lv_topi (fun v51 ev51 => ?_)
      obtain rfl : v51 = nI (de0 p0) := ev51.trans (nv_at hdev (by omega))
      refine lv_isub hx hb dX8_owes_68 ?_
      refine lv_topi (fun v52 ev52 => ?_)
      refine lv_istore (lv' := [(4, .int v52), (0, .ref g), (1, .int (nI p0)), (2, .int (nI l0)), (3, .int (nI mu0))]) hx hb dX8_owes_69 hl (by decide) rfl (fun ls hl => ?_)
      refine lv_iload hx hb dX8_owes_71 (lv_at hl 0 rfl) ?_
      refine lv_if_ge (tgt := 80) hx hb dX8_owes_73 (by decide) (fun c53 => ?_) (fun c53 => ?_)
      · skip
        refine lv_iload hx hb dX8_owes_80 (lv_at hl 0 rfl) ?_
        have hmx9 := mx_sub (by omega) (by omega) ev52
        rw [if_neg (Int32.not_lt.mpr c53)] at hmx9
        rw [hmx9]
        refine lv_aload_n hx hb dX8_owes_82 rfl (lv_at hl 1 rfl) ?_
        refine va_get (D := D) (ci := 8) (v := .ref g2) (C := RX8) (T := TX8) (N := 46) hx hb hts hiX8 hown hE.1 hP 0 rfl rfl 2 (by decide) (hts _ (List.mem_cons_of_mem _ wd_116)) (fun _ h9 => h9) rfl dX8_owes_83 ?_
        refine lv_iload_n hx hb dX8_owes_86 rfl (lv_at hl 2 rfl) ?_
        refine va_iald hx hb hE.1 hP 1 0 rfl rfl (vp_in_nI (n := p0) (by omega) (by decide)) dX8_owes_87 ?_
        refine lv_topi (fun v54 ev54 => ?_)
        obtain rfl : v54 = nI (li0 p0) := ev54.trans (nv_at hliv (by omega))
        refine k_iS (va_runS (As := [.int (nI (vq - de0 p0)), .int (nI (li0 p0))]) (rest := []) ⟨hx, hb, hml, hown, hts⟩ (m_X8_least l D cI cJ H.size (vq - de0 p0) (li0 p0) (by omega) (by omega)) (va_cwS 2 hts gX8_owes_X8_least rfl rfl rfl (by decide +kernel) ⟨Nat.le_of_ble_eq_true rfl, Nat.le_of_ble_eq_true rfl⟩) (k_pre hE hP hD [] (by decide +kernel) rfl) rfl rfl hl.1 rfl (lv_room (Nat.le_of_ble_eq_true rfl)) dX8_owes_88 ⟨Nat.le_of_ble_eq_true rfl, Nat.le_of_ble_eq_true rfl⟩) hP hD hS hA [] rfl (fun _ _ ⟨_, h9⟩ => h9) (fun r55 H locs hw56 hP hD hS => ?_)
        obtain ⟨rfl, -⟩ := hw56
        refine lv_istore (lv' := [(4, .int (nI (min (vq - de0 p0) (li0 p0)))), (0, .ref g), (1, .int (nI p0)), (2, .int (nI l0)), (3, .int (nI mu0))]) hx hb dX8_owes_91 hl (by decide) rfl (fun ls hl => ?_)
        refine lv_aload_n hx hb dX8_owes_93 rfl (lv_at hl 1 rfl) ?_
        refine va_get (D := D) (ci := 8) (v := .ref g10) (C := RX8) (T := TX8) (N := 46) hx hb hts hiX8 hown hE.1 hP 0 rfl rfl 10 (by decide) (hts _ (List.mem_cons_of_mem _ wd_124)) (fun _ h9 => h9) rfl dX8_owes_94 ?_
        refine lv_bipush (v := 8) hx hb dX8_owes_97 (by decide) ?_
        refine lv_iload_n hx hb dX8_owes_99 rfl (lv_at hl 2 rfl) ?_
        refine lv_imul hx hb dX8_owes_100 ?_
        refine lv_topi (fun v57 ev57 => ?_)
        obtain rfl : v57 = (nI (8 * p0)) := by rw [ev57]; exact pk_mul 8 p0
        refine lv_aload_n hx hb dX8_owes_101 rfl (lv_at hl 1 rfl) ?_
        refine va_get (D := D) (ci := 8) (v := .ref g12) (C := RX8) (T := TX8) (N := 46) hx hb hts hiX8 hown hE.1 hP 0 rfl rfl 12 (by decide) (hts _ (List.mem_cons_of_mem _ wd_125)) (fun _ h9 => h9) rfl dX8_owes_102 ?_
        refine lv_iload_n hx hb dX8_owes_105 rfl (lv_at hl 3 rfl) ?_
        refine va_iald hx hb hE.1 hP 6 0 rfl rfl (vp_in_nI (n := l0) (by omega) (by decide)) dX8_owes_106 ?_
        refine lv_topi (fun v58 ev58 => ?_)
        obtain rfl : v58 = nI (lim0 l0) := ev58.trans (by rw [nI_clamp (by omega)]; exact eil)
        refine lv_iadd hx hb dX8_owes_107 ?_
        refine lv_topi (fun v59 ev59 => ?_)
        obtain rfl : v59 = (nI (8 * p0 + (lim0 l0))) := by rw [ev59]; exact nI_add (8 * p0) (lim0 l0)
        refine va_iald hx hb hE.1 hP 5 0 rfl rfl (vp_in_nI (n := 8 * p0 + (lim0 l0)) (by omega) (by decide)) dX8_owes_108 ?_
        refine lv_topi (fun v60 ev60 => ?_)
        obtain rfl : v60 = nI (su0 (8 * p0 + lim0 l0)) := ev60.trans (by rw [nI_clamp (by omega)]; exact (hsu (8 * p0 + lim0 l0) (by omega)).1)
        have hsu_ := (hsu (8 * p0 + lim0 l0) (by omega)).2
        refine lv_istore (lv' := [(5, .int (nI (su0 (8 * p0 + lim0 l0)))), (4, .int (nI (min (vq - de0 p0) (li0 p0)))), (0, .ref g), (1, .int (nI p0)), (2, .int (nI l0)), (3, .int (nI mu0))]) hx hb dX8_owes_109 hl (by decide) rfl (fun ls hl => ?_)
        refine lv_iload hx hb dX8_owes_111 (lv_at hl 0 rfl) ?_
        refine lv_if_le (tgt := 128) hx hb dX8_owes_113 (by decide) (fun c61 => ?_) (fun c61 => ?_)
        · skip
          have nc61 : su0 (8 * p0 + lim0 l0) ≤ 0 := (nI_leI (a := (su0 (8 * p0 + lim0 l0))) (b := 0) (by omega) (by omega)).mp c61
          refine lv_iload hx hb dX8_owes_128 (lv_at hl 1 rfl) ?_
          refine lv_istore (lv' := [(4, .int (nI (min (vq - de0 p0) (li0 p0)))), (5, .int (nI (su0 (8 * p0 + lim0 l0)))), (0, .ref g), (1, .int (nI p0)), (2, .int (nI l0)), (3, .int (nI mu0))]) hx hb dX8_owes_130 hl (by decide) rfl (fun ls hl => ?_)
          refine lv_iload hx hb dX8_owes_132 (lv_at hl 0 rfl) ?_
          refine lv_aload_n hx hb dX8_owes_134 rfl (lv_at hl 2 rfl) ?_
          refine va_get (D := D) (ci := 8) (v := .ref g19) (C := RX8) (T := TX8) (N := 46) hx hb hts hiX8 hown hE.1 hP 0 rfl rfl 19 (by decide) (hts _ (List.mem_cons_of_mem _ wd_130)) (fun _ h9 => h9) rfl dX8_owes_135 ?_
          refine lv_iload_n hx hb dX8_owes_138 rfl (lv_at hl 3 rfl) ?_
          refine va_iald hx hb hE.1 hP 7 0 rfl rfl (vp_in_nI (n := p0) (by omega) (by decide)) dX8_owes_139 ?_
          refine lv_topi (fun v62 ev62 => ?_)
          obtain rfl : v62 = nI (le0 p0) := ev62.trans (by rw [nI_clamp (by omega)]; exact hlev)
          refine k_iS (va_runS (As := [.int (nI (min (vq - de0 p0) (li0 p0))), .int (nI (le0 p0))]) (rest := []) ⟨hx, hb, hml, hown, hts⟩ (m_X8_least l D cI cJ H.size (min (vq - de0 p0) (li0 p0)) (le0 p0) (by omega) (by omega)) (va_cwS 2 hts gX8_owes_X8_least rfl rfl rfl (by decide +kernel) ⟨Nat.le_of_ble_eq_true rfl, Nat.le_of_ble_eq_true rfl⟩) (k_pre hE hP hD [] (by decide +kernel) rfl) rfl rfl hl.1 rfl (lv_room (Nat.le_of_ble_eq_true rfl)) dX8_owes_140 ⟨Nat.le_of_ble_eq_true rfl, Nat.le_of_ble_eq_true rfl⟩) hP hD hS hA [] rfl (fun _ _ ⟨_, h9⟩ => h9) (fun r63 H locs hw64 hP hD hS => ?_)
          obtain ⟨rfl, -⟩ := hw64
          refine k_iret (u := [(oX8 g gi0 (nI mn) g2 g3 g4 g5 g6 g7 g8 g9 g10 (nI ml) g12 g13 gi14 g15 g16 g17 gi18 g19 g20 g21 g22 g23 g24 g25 g26 g27 g28 gi29 gi30 (nI mv) gi32 g33 g34 g35 g36 g37 g38 g39 gi40 g41 g42 gi43 g44 g45), (aIc cI g2 8 G2), (aIc cI g4 8 G4), (aIc cI g5 8 G5), (aIc cI g6 8 G6), (aIc cI g10 64 G10), (aIc cI g12 10 G12), (aIc cI g19 8 G19)]) hx hb hr hlk hP hD hS dX8_owes_143 ?_
          exact ⟨(congrArg nI (owe_s0 hbi hsc (by omega))), rfl⟩
        · skip
          have nc61 : ¬ su0 (8 * p0 + lim0 l0) ≤ 0 := fun q9 => c61 ((nI_leI (a := (su0 (8 * p0 + lim0 l0))) (b := 0) (by omega) (by omega)).mpr q9)
          refine lv_iload hx hb dX8_owes_116 (lv_at hl 1 rfl) ?_
          refine lv_iload hx hb dX8_owes_118 (lv_at hl 0 rfl) ?_
          refine lv_iconst (v := 1) hx hb dX8_owes_120 (by decide) ?_
          refine lv_isub hx hb dX8_owes_121 ?_
          refine lv_topi (fun v65 ev65 => ?_)
          obtain rfl : v65 = nI (su0 (8 * p0 + lim0 l0) - 1) := by rw [ev65]; exact pk_sub (a := su0 (8 * p0 + lim0 l0)) (b := 1) (by omega)
          refine k_iS (va_runS (As := [.int (nI (min (vq - de0 p0) (li0 p0))), .int (nI (su0 (8 * p0 + lim0 l0) - 1))]) (rest := []) ⟨hx, hb, hml, hown, hts⟩ (m_X8_least l D cI cJ H.size (min (vq - de0 p0) (li0 p0)) (su0 (8 * p0 + lim0 l0) - 1) (by omega) (by omega)) (va_cwS 2 hts gX8_owes_X8_least rfl rfl rfl (by decide +kernel) ⟨Nat.le_of_ble_eq_true rfl, Nat.le_of_ble_eq_true rfl⟩) (k_pre hE hP hD [] (by decide +kernel) rfl) rfl rfl hl.1 rfl (lv_room (Nat.le_of_ble_eq_true rfl)) dX8_owes_122 ⟨Nat.le_of_ble_eq_true rfl, Nat.le_of_ble_eq_true rfl⟩) hP hD hS hA [] rfl (fun _ _ ⟨_, h9⟩ => h9) (fun r66 H locs hw67 hP hD hS => ?_)
          obtain ⟨rfl, -⟩ := hw67
          refine lv_goto (tgt := 130) hx hb dX8_owes_125 (by decide) ?_
          refine lv_istore (lv' := [(4, .int (nI (min (min (vq - de0 p0) (li0 p0)) (su0 (8 * p0 + lim0 l0) - 1)))), (5, .int (nI (su0 (8 * p0 + lim0 l0)))), (0, .ref g), (1, .int (nI p0)), (2, .int (nI l0)), (3, .int (nI mu0))]) hx hb dX8_owes_130 hl (by decide) rfl (fun ls hl => ?_)
          refine lv_iload hx hb dX8_owes_132 (lv_at hl 0 rfl) ?_
          refine lv_aload_n hx hb dX8_owes_134 rfl (lv_at hl 2 rfl) ?_
          refine va_get (D := D) (ci := 8) (v := .ref g19) (C := RX8) (T := TX8) (N := 46) hx hb hts hiX8 hown hE.1 hP 0 rfl rfl 19 (by decide) (hts _ (List.mem_cons_of_mem _ wd_130)) (fun _ h9 => h9) rfl dX8_owes_135 ?_
          refine lv_iload_n hx hb dX8_owes_138 rfl (lv_at hl 3 rfl) ?_
          refine va_iald hx hb hE.1 hP 7 0 rfl rfl (vp_in_nI (n := p0) (by omega) (by decide)) dX8_owes_139 ?_
          refine lv_topi (fun v68 ev68 => ?_)
          obtain rfl : v68 = nI (le0 p0) := ev68.trans (by rw [nI_clamp (by omega)]; exact hlev)
          refine k_iS (va_runS (As := [.int (nI (min (min (vq - de0 p0) (li0 p0)) (su0 (8 * p0 + lim0 l0) - 1))), .int (nI (le0 p0))]) (rest := []) ⟨hx, hb, hml, hown, hts⟩ (m_X8_least l D cI cJ H.size (min (min (vq - de0 p0) (li0 p0)) (su0 (8 * p0 + lim0 l0) - 1)) (le0 p0) (by omega) (by omega)) (va_cwS 2 hts gX8_owes_X8_least rfl rfl rfl (by decide +kernel) ⟨Nat.le_of_ble_eq_true rfl, Nat.le_of_ble_eq_true rfl⟩) (k_pre hE hP hD [] (by decide +kernel) rfl) rfl rfl hl.1 rfl (lv_room (Nat.le_of_ble_eq_true rfl)) dX8_owes_140 ⟨Nat.le_of_ble_eq_true rfl, Nat.le_of_ble_eq_true rfl⟩) hP hD hS hA [] rfl (fun _ _ ⟨_, h9⟩ => h9) (fun r69 H locs hw70 hP hD hS => ?_)
          obtain ⟨rfl, -⟩ := hw70
          refine k_iret (u := [(oX8 g gi0 (nI mn) g2 g3 g4 g5 g6 g7 g8 g9 g10 (nI ml) g12 g13 gi14 g15 g16 g17 gi18 g19 g20 g21 g22 g23 g24 g25 g26 g27 g28 gi29 gi30 (nI mv) gi32 g33 g34 g35 g36 g37 g38 g39 gi40 g41 g42 gi43 g44 g45), (aIc cI g2 8 G2), (aIc cI g4 8 G4), (aIc cI g5 8 G5), (aIc cI g6 8 G6), (aIc cI g10 64 G10), (aIc cI g12 10 G12), (aIc cI g19 8 G19)]) hx hb hr hlk hP hD hS dX8_owes_143 ?_
          exact ⟨(congrArg nI (owe_s1 hbi hsc (by omega))), rfl⟩
      · skip
        refine lv_iconst (v := 0) hx hb dX8_owes_76 (by decide) ?_
        refine lv_goto (tgt := 82) hx hb dX8_owes_77 (by decide) ?_
        have hmx9 := mx_sub (by omega) (by omega) ev52
        rw [if_pos (Int32.not_le.mp c53)] at hmx9
        refine W.eq (g2 := F0 m 82 ls [.int (nI (vq - de0 p0))]) (by rw [← hmx9]) ?_
        refine lv_aload_n hx hb dX8_owes_82 rfl (lv_at hl 1 rfl) ?_
        refine va_get (D := D) (ci := 8) (v := .ref g2) (C := RX8) (T := TX8) (N := 46) hx hb hts hiX8 hown hE.1 hP 0 rfl rfl 2 (by decide) (hts _ (List.mem_cons_of_mem _ wd_116)) (fun _ h9 => h9) rfl dX8_owes_83 ?_
        refine lv_iload_n hx hb dX8_owes_86 rfl (lv_at hl 2 rfl) ?_
        refine va_iald hx hb hE.1 hP 1 0 rfl rfl (vp_in_nI (n := p0) (by omega) (by decide)) dX8_owes_87 ?_
        refine lv_topi (fun v71 ev71 => ?_)
        obtain rfl : v71 = nI (li0 p0) := ev71.trans (nv_at hliv (by omega))
        refine k_iS (va_runS (As := [.int (nI (vq - de0 p0)), .int (nI (li0 p0))]) (rest := []) ⟨hx, hb, hml, hown, hts⟩ (m_X8_least l D cI cJ H.size (vq - de0 p0) (li0 p0) (by omega) (by omega)) (va_cwS 2 hts gX8_owes_X8_least rfl rfl rfl (by decide +kernel) ⟨Nat.le_of_ble_eq_true rfl, Nat.le_of_ble_eq_true rfl⟩) (k_pre hE hP hD [] (by decide +kernel) rfl) rfl rfl hl.1 rfl (lv_room (Nat.le_of_ble_eq_true rfl)) dX8_owes_88 ⟨Nat.le_of_ble_eq_true rfl, Nat.le_of_ble_eq_true rfl⟩) hP hD hS hA [] rfl (fun _ _ ⟨_, h9⟩ => h9) (fun r72 H locs hw73 hP hD hS => ?_)
        obtain ⟨rfl, -⟩ := hw73
        refine lv_istore (lv' := [(4, .int (nI (min (vq - de0 p0) (li0 p0)))), (0, .ref g), (1, .int (nI p0)), (2, .int (nI l0)), (3, .int (nI mu0))]) hx hb dX8_owes_91 hl (by decide) rfl (fun ls hl => ?_)
        refine lv_aload_n hx hb dX8_owes_93 rfl (lv_at hl 1 rfl) ?_
        refine va_get (D := D) (ci := 8) (v := .ref g10) (C := RX8) (T := TX8) (N := 46) hx hb hts hiX8 hown hE.1 hP 0 rfl rfl 10 (by decide) (hts _ (List.mem_cons_of_mem _ wd_124)) (fun _ h9 => h9) rfl dX8_owes_94 ?_
        refine lv_bipush (v := 8) hx hb dX8_owes_97 (by decide) ?_
        refine lv_iload_n hx hb dX8_owes_99 rfl (lv_at hl 2 rfl) ?_
        refine lv_imul hx hb dX8_owes_100 ?_
        refine lv_topi (fun v74 ev74 => ?_)
        obtain rfl : v74 = (nI (8 * p0)) := by rw [ev74]; exact pk_mul 8 p0
        refine lv_aload_n hx hb dX8_owes_101 rfl (lv_at hl 1 rfl) ?_
        refine va_get (D := D) (ci := 8) (v := .ref g12) (C := RX8) (T := TX8) (N := 46) hx hb hts hiX8 hown hE.1 hP 0 rfl rfl 12 (by decide) (hts _ (List.mem_cons_of_mem _ wd_125)) (fun _ h9 => h9) rfl dX8_owes_102 ?_
        refine lv_iload_n hx hb dX8_owes_105 rfl (lv_at hl 3 rfl) ?_
        refine va_iald hx hb hE.1 hP 6 0 rfl rfl (vp_in_nI (n := l0) (by omega) (by decide)) dX8_owes_106 ?_
        refine lv_topi (fun v75 ev75 => ?_)
        obtain rfl : v75 = nI (lim0 l0) := ev75.trans (by rw [nI_clamp (by omega)]; exact eil)
        refine lv_iadd hx hb dX8_owes_107 ?_
        refine lv_topi (fun v76 ev76 => ?_)
        obtain rfl : v76 = (nI (8 * p0 + (lim0 l0))) := by rw [ev76]; exact nI_add (8 * p0) (lim0 l0)
        refine va_iald hx hb hE.1 hP 5 0 rfl rfl (vp_in_nI (n := 8 * p0 + (lim0 l0)) (by omega) (by decide)) dX8_owes_108 ?_
        refine lv_topi (fun v77 ev77 => ?_)
        obtain rfl : v77 = nI (su0 (8 * p0 + lim0 l0)) := ev77.trans (by rw [nI_clamp (by omega)]; exact (hsu (8 * p0 + lim0 l0) (by omega)).1)
        have hsu_ := (hsu (8 * p0 + lim0 l0) (by omega)).2
        refine lv_istore (lv' := [(5, .int (nI (su0 (8 * p0 + lim0 l0)))), (4, .int (nI (min (vq - de0 p0) (li0 p0)))), (0, .ref g), (1, .int (nI p0)), (2, .int (nI l0)), (3, .int (nI mu0))]) hx hb dX8_owes_109 hl (by decide) rfl (fun ls hl => ?_)
        refine lv_iload hx hb dX8_owes_111 (lv_at hl 0 rfl) ?_
        refine lv_if_le (tgt := 128) hx hb dX8_owes_113 (by decide) (fun c78 => ?_) (fun c78 => ?_)
        · skip
          have nc78 : su0 (8 * p0 + lim0 l0) ≤ 0 := (nI_leI (a := (su0 (8 * p0 + lim0 l0))) (b := 0) (by omega) (by omega)).mp c78
          refine lv_iload hx hb dX8_owes_128 (lv_at hl 1 rfl) ?_
          refine lv_istore (lv' := [(4, .int (nI (min (vq - de0 p0) (li0 p0)))), (5, .int (nI (su0 (8 * p0 + lim0 l0)))), (0, .ref g), (1, .int (nI p0)), (2, .int (nI l0)), (3, .int (nI mu0))]) hx hb dX8_owes_130 hl (by decide) rfl (fun ls hl => ?_)
          refine lv_iload hx hb dX8_owes_132 (lv_at hl 0 rfl) ?_
          refine lv_aload_n hx hb dX8_owes_134 rfl (lv_at hl 2 rfl) ?_
          refine va_get (D := D) (ci := 8) (v := .ref g19) (C := RX8) (T := TX8) (N := 46) hx hb hts hiX8 hown hE.1 hP 0 rfl rfl 19 (by decide) (hts _ (List.mem_cons_of_mem _ wd_130)) (fun _ h9 => h9) rfl dX8_owes_135 ?_
          refine lv_iload_n hx hb dX8_owes_138 rfl (lv_at hl 3 rfl) ?_
          refine va_iald hx hb hE.1 hP 7 0 rfl rfl (vp_in_nI (n := p0) (by omega) (by decide)) dX8_owes_139 ?_
          refine lv_topi (fun v79 ev79 => ?_)
          obtain rfl : v79 = nI (le0 p0) := ev79.trans (by rw [nI_clamp (by omega)]; exact hlev)
          refine k_iS (va_runS (As := [.int (nI (min (vq - de0 p0) (li0 p0))), .int (nI (le0 p0))]) (rest := []) ⟨hx, hb, hml, hown, hts⟩ (m_X8_least l D cI cJ H.size (min (vq - de0 p0) (li0 p0)) (le0 p0) (by omega) (by omega)) (va_cwS 2 hts gX8_owes_X8_least rfl rfl rfl (by decide +kernel) ⟨Nat.le_of_ble_eq_true rfl, Nat.le_of_ble_eq_true rfl⟩) (k_pre hE hP hD [] (by decide +kernel) rfl) rfl rfl hl.1 rfl (lv_room (Nat.le_of_ble_eq_true rfl)) dX8_owes_140 ⟨Nat.le_of_ble_eq_true rfl, Nat.le_of_ble_eq_true rfl⟩) hP hD hS hA [] rfl (fun _ _ ⟨_, h9⟩ => h9) (fun r80 H locs hw81 hP hD hS => ?_)
          obtain ⟨rfl, -⟩ := hw81
          refine k_iret (u := [(oX8 g gi0 (nI mn) g2 g3 g4 g5 g6 g7 g8 g9 g10 (nI ml) g12 g13 gi14 g15 g16 g17 gi18 g19 g20 g21 g22 g23 g24 g25 g26 g27 g28 gi29 gi30 (nI mv) gi32 g33 g34 g35 g36 g37 g38 g39 gi40 g41 g42 gi43 g44 g45), (aIc cI g2 8 G2), (aIc cI g4 8 G4), (aIc cI g5 8 G5), (aIc cI g6 8 G6), (aIc cI g10 64 G10), (aIc cI g12 10 G12), (aIc cI g19 8 G19)]) hx hb hr hlk hP hD hS dX8_owes_143 ?_
          exact ⟨(congrArg nI (owe_s0 hbi hsc (by omega))), rfl⟩
        · skip
          have nc78 : ¬ su0 (8 * p0 + lim0 l0) ≤ 0 := fun q9 => c78 ((nI_leI (a := (su0 (8 * p0 + lim0 l0))) (b := 0) (by omega) (by omega)).mpr q9)
          refine lv_iload hx hb dX8_owes_116 (lv_at hl 1 rfl) ?_
          refine lv_iload hx hb dX8_owes_118 (lv_at hl 0 rfl) ?_
          refine lv_iconst (v := 1) hx hb dX8_owes_120 (by decide) ?_
          refine lv_isub hx hb dX8_owes_121 ?_
          refine lv_topi (fun v82 ev82 => ?_)
          obtain rfl : v82 = nI (su0 (8 * p0 + lim0 l0) - 1) := by rw [ev82]; exact pk_sub (a := su0 (8 * p0 + lim0 l0)) (b := 1) (by omega)
          refine k_iS (va_runS (As := [.int (nI (min (vq - de0 p0) (li0 p0))), .int (nI (su0 (8 * p0 + lim0 l0) - 1))]) (rest := []) ⟨hx, hb, hml, hown, hts⟩ (m_X8_least l D cI cJ H.size (min (vq - de0 p0) (li0 p0)) (su0 (8 * p0 + lim0 l0) - 1) (by omega) (by omega)) (va_cwS 2 hts gX8_owes_X8_least rfl rfl rfl (by decide +kernel) ⟨Nat.le_of_ble_eq_true rfl, Nat.le_of_ble_eq_true rfl⟩) (k_pre hE hP hD [] (by decide +kernel) rfl) rfl rfl hl.1 rfl (lv_room (Nat.le_of_ble_eq_true rfl)) dX8_owes_122 ⟨Nat.le_of_ble_eq_true rfl, Nat.le_of_ble_eq_true rfl⟩) hP hD hS hA [] rfl (fun _ _ ⟨_, h9⟩ => h9) (fun r83 H locs hw84 hP hD hS => ?_)
          obtain ⟨rfl, -⟩ := hw84
          refine lv_goto (tgt := 130) hx hb dX8_owes_125 (by decide) ?_
          refine lv_istore (lv' := [(4, .int (nI (min (min (vq - de0 p0) (li0 p0)) (su0 (8 * p0 + lim0 l0) - 1)))), (5, .int (nI (su0 (8 * p0 + lim0 l0)))), (0, .ref g), (1, .int (nI p0)), (2, .int (nI l0)), (3, .int (nI mu0))]) hx hb dX8_owes_130 hl (by decide) rfl (fun ls hl => ?_)
          refine lv_iload hx hb dX8_owes_132 (lv_at hl 0 rfl) ?_
          refine lv_aload_n hx hb dX8_owes_134 rfl (lv_at hl 2 rfl) ?_
          refine va_get (D := D) (ci := 8) (v := .ref g19) (C := RX8) (T := TX8) (N := 46) hx hb hts hiX8 hown hE.1 hP 0 rfl rfl 19 (by decide) (hts _ (List.mem_cons_of_mem _ wd_130)) (fun _ h9 => h9) rfl dX8_owes_135 ?_
          refine lv_iload_n hx hb dX8_owes_138 rfl (lv_at hl 3 rfl) ?_
          refine va_iald hx hb hE.1 hP 7 0 rfl rfl (vp_in_nI (n := p0) (by omega) (by decide)) dX8_owes_139 ?_
          refine lv_topi (fun v85 ev85 => ?_)
          obtain rfl : v85 = nI (le0 p0) := ev85.trans (by rw [nI_clamp (by omega)]; exact hlev)
          refine k_iS (va_runS (As := [.int (nI (min (min (vq - de0 p0) (li0 p0)) (su0 (8 * p0 + lim0 l0) - 1))), .int (nI (le0 p0))]) (rest := []) ⟨hx, hb, hml, hown, hts⟩ (m_X8_least l D cI cJ H.size (min (min (vq - de0 p0) (li0 p0)) (su0 (8 * p0 + lim0 l0) - 1)) (le0 p0) (by omega) (by omega)) (va_cwS 2 hts gX8_owes_X8_least rfl rfl rfl (by decide +kernel) ⟨Nat.le_of_ble_eq_true rfl, Nat.le_of_ble_eq_true rfl⟩) (k_pre hE hP hD [] (by decide +kernel) rfl) rfl rfl hl.1 rfl (lv_room (Nat.le_of_ble_eq_true rfl)) dX8_owes_140 ⟨Nat.le_of_ble_eq_true rfl, Nat.le_of_ble_eq_true rfl⟩) hP hD hS hA [] rfl (fun _ _ ⟨_, h9⟩ => h9) (fun r86 H locs hw87 hP hD hS => ?_)
          obtain ⟨rfl, -⟩ := hw87
          refine k_iret (u := [(oX8 g gi0 (nI mn) g2 g3 g4 g5 g6 g7 g8 g9 g10 (nI ml) g12 g13 gi14 g15 g16 g17 gi18 g19 g20 g21 g22 g23 g24 g25 g26 g27 g28 gi29 gi30 (nI mv) gi32 g33 g34 g35 g36 g37 g38 g39 gi40 g41 g42 gi43 g44 g45), (aIc cI g2 8 G2), (aIc cI g4 8 G4), (aIc cI g5 8 G5), (aIc cI g6 8 G6), (aIc cI g10 64 G10), (aIc cI g12 10 G12), (aIc cI g19 8 G19)]) hx hb hr hlk hP hD hS dX8_owes_143 ?_
          exact ⟨(congrArg nI (owe_s1 hbi hsc (by omega))), rfl⟩
  · skip
    have hc5 : ¬ ((v1 >>> ((nI (lim0 l0)) &&& 31)) &&& 1 = 1) := bz_0 hw4 c5
    refine lv_iconst (v := 0) hx hb dX8_owes_18 (by decide) ?_
    refine k_iret (u := [(oX8 g gi0 (nI mn) g2 g3 g4 g5 g6 g7 g8 g9 g10 (nI ml) g12 g13 gi14 g15 g16 g17 gi18 g19 g20 g21 g22 g23 g24 g25 g26 g27 g28 gi29 gi30 (nI mv) gi32 g33 g34 g35 g36 g37 g38 g39 gi40 g41 g42 gi43 g44 g45), (aIc cI g2 8 G2), (aIc cI g4 8 G4), (aIc cI g5 8 G5), (aIc cI g6 8 G6), (aIc cI g10 64 G10), (aIc cI g12 10 G12), (aIc cI g19 8 G19)]) hx hb hr hlk hP hD hS dX8_owes_19 ?_
    exact ⟨(by rw [owe_no (fun q9 => hc5 ((bt_on hil).mpr (by rw [cl_at (A := G6) hp ev1]; exact q9)))]; rfl), rfl⟩

