set_option maxHeartbeats 4000000 in
set_option maxRecDepth 100000 in
theorem e_X4_paidFirst (l : Launch) (D : va_G) (cI cJ : ClassId) (sz : Nat) (x1 x0 s1 s2 s5 s6 s7 s8 s9 s10 s11 b0 b1 b2 b3 b4 b5 b6 b7 b8 b9 b10 b11 p0 np nl pn tt0 at0 : Nat) (si4 bi14 : Int32) (B5 S8 S10 : Nat → Int32) (lo0 sh0 : Nat → Nat) (hp : p0 < 8) (hlov : nv S8 lo0) (hshv : nv S10 sh0) : Met l yX4_paidFirst wtX4_paidFirst { frames := 0, cells := 0, slots := 0, locals := 0 } (cPc D cI cJ [.ref x1, .int (nI p0)] sz [(oX4 x1 x0 s1 s2 (nI pn) si4 s5 s6 s7 s8 s9 s10 s11 (nI tt0) (nI at0)), (oX0 x0 b0 b1 b2 b3 b4 b5 b6 b7 b8 b9 b10 b11 (nI np) (nI nl) bi14), (aIc cI b5 8 B5), (aIc cI s8 8 S8), (aIc cI s10 8 S10)]) (cQi D (fun r u => r = (nI (PFT B5 lo0 sh0 p0)) ∧ u = [(oX4 x1 x0 s1 s2 (nI pn) si4 s5 s6 s7 s8 s9 s10 s11 (nI tt0) (nI at0)), (oX0 x0 b0 b1 b2 b3 b4 b5 b6 b7 b8 b9 b10 b11 (nI np) (nI nl) bi14), (aIc cI b5 8 B5), (aIc cI s8 8 S8), (aIc cI s10 8 S10)]) (va_A [(oX4 x1 x0 s1 s2 (nI pn) si4 s5 s6 s7 s8 s9 s10 s11 (nI tt0) (nI at0)), (oX0 x0 b0 b1 b2 b3 b4 b5 b6 b7 b8 b9 b10 b11 (nI np) (nI nl) bi14), (aIc cI b5 8 B5), (aIc cI s8 8 S8), (aIc cI s10 8 S10)] sz)) 0 0 (va_A [(oX4 x1 x0 s1 s2 (nI pn) si4 s5 s6 s7 s8 s9 s10 s11 (nI tt0) (nI at0)), (oX0 x0 b0 b1 b2 b3 b4 b5 b6 b7 b8 b9 b10 b11 (nI np) (nI nl) bi14), (aIc cI b5 8 B5), (aIc cI s8 8 S8), (aIc cI s10 8 S10)] sz) := by
  refine k_ofW (Qc := cQi D (fun r u => r = (nI (PFT B5 lo0 sh0 p0)) ∧ u = [(oX4 x1 x0 s1 s2 (nI pn) si4 s5 s6 s7 s8 s9 s10 s11 (nI tt0) (nI at0)), (oX0 x0 b0 b1 b2 b3 b4 b5 b6 b7 b8 b9 b10 b11 (nI np) (nI nl) bi14), (aIc cI b5 8 B5), (aIc cI s8 8 S8), (aIc cI s10 8 S10)])) (by decide) rfl (Nat.le_of_ble_eq_true rfl) ?_
  intro p e s m below meth c A ls hx hb hr hml hts hown hlk hnm hsz hE hP hD hS hA hl
  have hown : s.vm.findClass RX4 = some m.cls := hown
  have hiX4 : ∀ w ∈ u_ws RX4 TX4 14, w ∈ wtX4_paidFirst := fun w h => List.mem_cons_of_mem _ (iuX4 w h)
  have hiX0 : ∀ w ∈ u_ws RX0 TX0 15, w ∈ wtX4_paidFirst := fun w h => List.mem_cons_of_mem _ (iuX0 w h)
  have hl : lv_has ls 2 [(0, .ref x1), (1, .int (nI p0))] := hl
  refine lv_aload_n hx hb dX4_paidFirst_0 rfl (lv_at hl 0 rfl) ?_
  refine va_get (D := D) (ci := 4) (v := .ref x0) (C := RX4) (T := TX4) (N := 14) hx hb hts hiX4 hown hE.1 hP 0 rfl rfl 0 (by decide) (hts _ (List.mem_cons_of_mem _ wd_40)) (fun _ h9 => h9) rfl dX4_paidFirst_1 ?_
  refine va_get (D := D) (ci := 0) (v := .ref b5) (C := RX0) (T := TX0) (N := 15) hx hb hts hiX0 hown hE.1 hP 1 rfl rfl 5 (by decide) (hts _ (List.mem_cons_of_mem _ wd_286)) (fun _ h9 => h9) rfl dX4_paidFirst_4 ?_
  refine lv_iload_n hx hb dX4_paidFirst_7 rfl (lv_at hl 1 rfl) ?_
  refine va_iald hx hb hE.1 hP 2 0 rfl rfl (vp_in_nI (n := p0) (by omega) (by decide)) dX4_paidFirst_8 ?_
  refine lv_topi (fun v1 ev1 => ?_)
  refine lv_if_ne (tgt := 21) hx hb dX4_paidFirst_9 (by decide) (fun c2 => ?_) (fun c2 => ?_)
  · skip
    refine lv_aload_n hx hb dX4_paidFirst_21 rfl (lv_at hl 0 rfl) ?_
    refine va_get (D := D) (ci := 4) (v := .ref s10) (C := RX4) (T := TX4) (N := 14) hx hb hts hiX4 hown hE.1 hP 0 rfl rfl 10 (by decide) (hts _ (List.mem_cons_of_mem _ wd_54)) (fun _ h9 => h9) rfl dX4_paidFirst_22 ?_
    refine lv_iload_n hx hb dX4_paidFirst_25 rfl (lv_at hl 1 rfl) ?_
    refine va_iald hx hb hE.1 hP 4 0 rfl rfl (vp_in_nI (n := p0) (by omega) (by decide)) dX4_paidFirst_26 ?_
    refine lv_topi (fun v3 ev3 => ?_)
    obtain rfl : v3 = nI (sh0 p0) := ev3.trans (nv_at hshv hp)
    refine k_iret (u := [(oX4 x1 x0 s1 s2 (nI pn) si4 s5 s6 s7 s8 s9 s10 s11 (nI tt0) (nI at0)), (oX0 x0 b0 b1 b2 b3 b4 b5 b6 b7 b8 b9 b10 b11 (nI np) (nI nl) bi14), (aIc cI b5 8 B5), (aIc cI s8 8 S8), (aIc cI s10 8 S10)]) hx hb hr hlk hP hD hS dX4_paidFirst_27 ?_
    exact ⟨(congrArg nI (if_neg (fun z9 => c2 ((cl_at (A := B5) hp ev1).trans z9))).symm), rfl⟩
  · skip
    refine lv_aload_n hx hb dX4_paidFirst_12 rfl (lv_at hl 0 rfl) ?_
    refine va_get (D := D) (ci := 4) (v := .ref s8) (C := RX4) (T := TX4) (N := 14) hx hb hts hiX4 hown hE.1 hP 0 rfl rfl 8 (by decide) (hts _ (List.mem_cons_of_mem _ wd_52)) (fun _ h9 => h9) rfl dX4_paidFirst_13 ?_
    refine lv_iload_n hx hb dX4_paidFirst_16 rfl (lv_at hl 1 rfl) ?_
    refine va_iald hx hb hE.1 hP 3 0 rfl rfl (vp_in_nI (n := p0) (by omega) (by decide)) dX4_paidFirst_17 ?_
    refine lv_topi (fun v4 ev4 => ?_)
    obtain rfl : v4 = nI (lo0 p0) := ev4.trans (nv_at hlov hp)
    refine lv_goto (tgt := 27) hx hb dX4_paidFirst_18 (by decide) ?_
    refine k_iret (u := [(oX4 x1 x0 s1 s2 (nI pn) si4 s5 s6 s7 s8 s9 s10 s11 (nI tt0) (nI at0)), (oX0 x0 b0 b1 b2 b3 b4 b5 b6 b7 b8 b9 b10 b11 (nI np) (nI nl) bi14), (aIc cI b5 8 B5), (aIc cI s8 8 S8), (aIc cI s10 8 S10)]) hx hb hr hlk hP hD hS dX4_paidFirst_27 ?_
    exact ⟨(congrArg nI (if_pos ((cl_at (A := B5) hp ev1).symm.trans c2)).symm), rfl⟩
