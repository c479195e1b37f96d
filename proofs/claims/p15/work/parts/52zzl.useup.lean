set_option maxHeartbeats 4000000 in
set_option maxRecDepth 100000 in
theorem e_X4_useUp (l : Launch) (D : va_G) (cI cJ : ClassId) (sz : Nat) (x1 x0 s1 s2 s5 s6 s7 s8 s9 s10 s11 l0 pn tt0 at0 : Nat) (si4 : Int32) (S5 S7 S10 : Nat → Int32) (lf0 sh0 : Nat → Nat) (hlfv : nv S5 lf0) (hlfb : ∀ k, k < 8 → lf0 k ≤ 9000000) (hshv : nv S10 sh0) (hle : ∀ k, k < 8 → sh0 k ≤ lf0 k) : Met l yX4_useUp wtX4_useUp { frames := 0, cells := 0, slots := 0, locals := 0 } (cPc D cI cJ [.ref x1, .int (nI l0)] sz [(oX4 x1 x0 s1 s2 (nI pn) si4 s5 s6 s7 s8 s9 s10 s11 (nI tt0) (nI at0)), (aIc cI s5 8 S5), (aIc cI s7 8 S7), (aIc cI s10 8 S10)]) (cQv D (fun u => ∃ (S5p S7p : Nat → Int32), (∀ k, k < 8 → S5p k = nI (lf0 k - sh0 k)) ∧ (∀ k, k < 8 → S7p k = if lf0 k - sh0 k = 0 ∧ S7 k = -1 then nI l0 else S7 k) ∧ u = [(oX4 x1 x0 s1 s2 (nI pn) si4 s5 s6 s7 s8 s9 s10 s11 (nI tt0) (nI (at0 + tt0))), (aIc cI s5 8 S5p), (aIc cI s7 8 S7p), (aIc cI s10 8 S10)]) (va_A [(oX4 x1 x0 s1 s2 (nI pn) si4 s5 s6 s7 s8 s9 s10 s11 (nI tt0) (nI at0)), (aIc cI s5 8 S5), (aIc cI s7 8 S7), (aIc cI s10 8 S10)] sz)) 0 0 (va_A [(oX4 x1 x0 s1 s2 (nI pn) si4 s5 s6 s7 s8 s9 s10 s11 (nI tt0) (nI at0)), (aIc cI s5 8 S5), (aIc cI s7 8 S7), (aIc cI s10 8 S10)] sz) := by
  refine k_ofW (Qc := cQv D (fun u => ∃ (S5p S7p : Nat → Int32), (∀ k, k < 8 → S5p k = nI (lf0 k - sh0 k)) ∧ (∀ k, k < 8 → S7p k = if lf0 k - sh0 k = 0 ∧ S7 k = -1 then nI l0 else S7 k) ∧ u = [(oX4 x1 x0 s1 s2 (nI pn) si4 s5 s6 s7 s8 s9 s10 s11 (nI tt0) (nI (at0 + tt0))), (aIc cI s5 8 S5p), (aIc cI s7 8 S7p), (aIc cI s10 8 S10)])) (by decide) rfl (Nat.le_of_ble_eq_true rfl) ?_
  intro p e s m below meth c A ls hx hb hr hml hts hown hlk hnm hsz hE hP hD hS hA hl
  have hown : s.vm.findClass RX4 = some m.cls := hown
  have hiX4 : ∀ w ∈ u_ws RX4 TX4 14, w ∈ wtX4_useUp := fun w h => List.mem_cons_of_mem _ (iuX4 w h)
  have hl : lv_has ls 3 [(0, .ref x1), (1, .int (nI l0))] := hl
  refine lv_aload_n hx hb dX4_useUp_0 rfl (lv_at hl 0 rfl) ?_
  refine lv_dup hx hb dX4_useUp_1 rfl ?_
  refine va_get (D := D) (ci := 4) (v := .int (nI at0)) (C := RX4) (T := TX4) (N := 14) hx hb hts hiX4 hown hE.1 hP 0 rfl rfl 13 (by decide) (hts _ (List.mem_cons_of_mem _ wd_302)) (fun _ h9 => h9) rfl dX4_useUp_2 ?_
  refine lv_aload_n hx hb dX4_useUp_5 rfl (lv_at hl 0 rfl) ?_
  refine va_get (D := D) (ci := 4) (v := .int (nI tt0)) (C := RX4) (T := TX4) (N := 14) hx hb hts hiX4 hown hE.1 hP 0 rfl rfl 12 (by decide) (hts _ (List.mem_cons_of_mem _ wd_358)) (fun _ h9 => h9) rfl dX4_useUp_6 ?_
  refine lv_iadd hx hb dX4_useUp_9 ?_
  refine lv_topi (fun v1 ev1 => ?_)
  obtain rfl : v1 = (nI (at0 + tt0)) := by rw [ev1]; exact nI_add at0 tt0
  refine va_put (D := D) (ci := 4) (v := .int (nI (at0 + tt0))) (ty := .int) (C := RX4) (T := TX4) (N := 14) hx hb hts hiX4 tyX4 tyX4_ok nmX4 hown hE.1 hP hD hS 0 rfl rfl 13 (by decide) (hts _ (List.mem_cons_of_mem _ wd_302)) (fun _ h9 => h9) rfl (by decide +kernel) rfl rfl (Nat.le_of_ble_eq_true rfl) dX4_useUp_10 (fun H locs hP hD hS => ?_)
  refine k_re (w := [(oX4 x1 x0 s1 s2 (nI pn) si4 s5 s6 s7 s8 s9 s10 s11 (nI tt0) (nI (at0 + tt0))), (aIc cI s5 8 S5), (aIc cI s7 8 S7), (aIc cI s10 8 S10)]) hP hD (fun hP hD => ?_)
  refine lv_iconst (v := 0) hx hb dX4_useUp_13 (by decide) ?_
  refine lv_istore_n (lv' := [(2, .int 0), (0, .ref x1), (1, .int (nI l0))]) hx hb dX4_useUp_14 rfl hl (by decide) rfl (fun ls hl => ?_)
  have J15 : ∀ (zz : Nat) (i15 : Nat) (a_s5_15 a_s7_15 : Nat → Int32), (i15 ≤ 8) → (UU a_s5_15 a_s7_15 S7 lf0 sh0 l0 i15) → (8 - i15) < zz → ∀ (H : Heap) (locs : List Loc) (ls : Array Slot), va_P D vwCl [(oX4 x1 x0 s1 s2 (nI pn) si4 s5 s6 s7 s8 s9 s10 s11 (nI tt0) (nI (at0 + tt0))), (aIc cI s5 8 a_s5_15), (aIc cI s7 8 a_s7_15), (aIc cI s10 8 S10)] H → va_D A [(oX4 x1 x0 s1 s2 (nI pn) si4 s5 s6 s7 s8 s9 s10 s11 (nI tt0) (nI (at0 + tt0))), (aIc cI s5 8 a_s5_15), (aIc cI s7 8 a_s7_15), (aIc cI s10 8 S10)] → va_S A s.heap H locs → lv_has ls 3 [(2, .int (nI i15)), (0, .ref x1), (1, .int (nI l0))] → W p l e { frames := 0, cells := 0, slots := 0, locals := 0 } s m [.ref x1, .int (nI l0)].toArray below meth c H locs 0 0 (MQ below (cQv D (fun u => ∃ (S5p S7p : Nat → Int32), (∀ k, k < 8 → S5p k = nI (lf0 k - sh0 k)) ∧ (∀ k, k < 8 → S7p k = if lf0 k - sh0 k = 0 ∧ S7 k = -1 then nI l0 else S7 k) ∧ u = [(oX4 x1 x0 s1 s2 (nI pn) si4 s5 s6 s7 s8 s9 s10 s11 (nI tt0) (nI (at0 + tt0))), (aIc cI s5 8 S5p), (aIc cI s7 8 S7p), (aIc cI s10 8 S10)]) A) [.ref x1, .int (nI l0)].toArray s 0 0 A) (F0 m 15 ls []) := by
    intro zz
    induction zz with
    | zero => intro i15 a_s5_15 a_s7_15 _ _; exact fun h => absurd h (Nat.not_lt_zero _)
    | succ zz ih15 =>
      intro i15 a_s5_15 a_s7_15 hc2_15 huu_15 hmu15 H locs ls hP hD hS hl
      refine lv_iload_n hx hb dX4_useUp_15 rfl (lv_at hl 0 rfl) ?_
      refine lv_bipush (v := 8) hx hb dX4_useUp_16 (by decide) ?_
      refine lv_icmp_ge (tgt := 68) hx hb dX4_useUp_18 (by decide) (fun c2 => ?_) (fun c2 => ?_)
      · skip
        have nc2 : 8 ≤ i15 := (nI_leI (a := 8) (b := i15) (by omega) (by omega)).mp c2
        refine k_vret (u := [(oX4 x1 x0 s1 s2 (nI pn) si4 s5 s6 s7 s8 s9 s10 s11 (nI tt0) (nI (at0 + tt0))), (aIc cI s5 8 a_s5_15), (aIc cI s7 8 a_s7_15), (aIc cI s10 8 S10)]) hx hb hr hlk hP hD hS dX4_useUp_68 ?_
        exact ⟨a_s5_15, a_s7_15, (by obtain rfl : i15 = 8 := (by omega); exact (uu_end huu_15).1), (by obtain rfl : i15 = 8 := (by omega); exact (uu_end huu_15).2), rfl⟩
      · skip
        have nc2 : ¬ 8 ≤ i15 := fun q9 => c2 ((nI_leI (a := 8) (b := i15) (by omega) (by omega)).mpr q9)
        refine lv_aload_n hx hb dX4_useUp_21 rfl (lv_at hl 1 rfl) ?_
        refine va_get (D := D) (ci := 4) (v := .ref s5) (C := RX4) (T := TX4) (N := 14) hx hb hts hiX4 hown hE.1 hP 0 rfl rfl 5 (by decide) (hts _ (List.mem_cons_of_mem _ wd_49)) (fun _ h9 => h9) rfl dX4_useUp_22 ?_
        refine lv_iload_n hx hb dX4_useUp_25 rfl (lv_at hl 0 rfl) ?_
        refine lv_dup2_11 hx hb dX4_useUp_26 rfl rfl ?_
        refine va_iald hx hb hE.1 hP 1 0 rfl rfl (vp_in_nI (n := i15) (by omega) (by decide)) dX4_useUp_27 ?_
        refine lv_topi (fun v3 ev3 => ?_)
        obtain rfl : v3 = nI (lf0 i15) := ev3.trans (uu_at huu_15 (by omega))
        refine lv_aload_n hx hb dX4_useUp_28 rfl (lv_at hl 1 rfl) ?_
        refine va_get (D := D) (ci := 4) (v := .ref s10) (C := RX4) (T := TX4) (N := 14) hx hb hts hiX4 hown hE.1 hP 0 rfl rfl 10 (by decide) (hts _ (List.mem_cons_of_mem _ wd_54)) (fun _ h9 => h9) rfl dX4_useUp_29 ?_
        refine lv_iload_n hx hb dX4_useUp_32 rfl (lv_at hl 0 rfl) ?_
        refine va_iald hx hb hE.1 hP 3 0 rfl rfl (vp_in_nI (n := i15) (by omega) (by decide)) dX4_useUp_33 ?_
        refine lv_topi (fun v4 ev4 => ?_)
        obtain rfl : v4 = nI (sh0 i15) := ev4.trans (nv_at hshv (by omega))
        refine lv_isub hx hb dX4_useUp_34 ?_
        refine lv_topi (fun v5 ev5 => ?_)
        have hle_ := hle i15 (by omega)
        have hlfb_ := hlfb i15 (by omega)
        obtain rfl : v5 = nI (lf0 i15 - sh0 i15) := by rw [ev5]; exact pk_sub (by omega)
        refine va_iast hx hb hE.1 hP hD hS 1 0 rfl rfl (vp_in_nI (n := i15) (by omega) (by decide)) dX4_useUp_35 (fun H locs hP hD hS => ?_)
        refine k_re (w := [(oX4 x1 x0 s1 s2 (nI pn) si4 s5 s6 s7 s8 s9 s10 s11 (nI tt0) (nI (at0 + tt0))), (aIc cI s5 8 (upd a_s5_15 (Int32.toNatClampNeg (nI i15)) (nI (lf0 i15 - sh0 i15)))), (aIc cI s7 8 a_s7_15), (aIc cI s10 8 S10)]) hP hD (fun hP hD => ?_)
        refine lv_aload_n hx hb dX4_useUp_36 rfl (lv_at hl 1 rfl) ?_
        refine va_get (D := D) (ci := 4) (v := .ref s5) (C := RX4) (T := TX4) (N := 14) hx hb hts hiX4 hown hE.1 hP 0 rfl rfl 5 (by decide) (hts _ (List.mem_cons_of_mem _ wd_49)) (fun _ h9 => h9) rfl dX4_useUp_37 ?_
        refine lv_iload_n hx hb dX4_useUp_40 rfl (lv_at hl 0 rfl) ?_
        refine va_iald hx hb hE.1 hP 1 0 rfl rfl (vp_in_nI (n := i15) (by omega) (by decide)) dX4_useUp_41 ?_
        refine lv_topi (fun v6 ev6 => ?_)
        obtain rfl : v6 = nI (lf0 i15 - sh0 i15) := ev6.trans pk_us
        refine lv_if_ne (tgt := 62) hx hb dX4_useUp_42 (by decide) (fun c7 => ?_) (fun c7 => ?_)
        · skip
          have nc7 : ¬ lf0 i15 - sh0 i15 = 0 := fun q9 => c7 ((nI_eq (a := (lf0 i15 - sh0 i15)) (b := 0) (by omega) (by omega)).mpr q9)
          refine lv_iinc (v := (nI (i15 + 1))) (lv' := [(2, .int (nI (i15 + 1))), (0, .ref x1), (1, .int (nI l0))]) hx hb dX4_useUp_62 hl (k := 0) rfl (nI_1 _) (by decide) rfl (fun ls hl => ?_)
          refine lv_goto (tgt := 15) hx hb dX4_useUp_65 (by decide) ?_
          exact ih15 (i15 + 1) (upd a_s5_15 (Int32.toNatClampNeg (nI i15)) (nI (lf0 i15 - sh0 i15))) a_s7_15 (by omega) (uu_no (by omega) huu_15 (fun z9 => by omega)) (by omega) _ _ _ hP hD hS (lv_sub hl [0, 1, 2] rfl)
        · skip
          have nc7 : lf0 i15 - sh0 i15 = 0 := (nI_eq (a := (lf0 i15 - sh0 i15)) (b := 0) (by omega) (by omega)).mp c7
          refine lv_aload_n hx hb dX4_useUp_45 rfl (lv_at hl 1 rfl) ?_
          refine va_get (D := D) (ci := 4) (v := .ref s7) (C := RX4) (T := TX4) (N := 14) hx hb hts hiX4 hown hE.1 hP 0 rfl rfl 7 (by decide) (hts _ (List.mem_cons_of_mem _ wd_51)) (fun _ h9 => h9) rfl dX4_useUp_46 ?_
          refine lv_iload_n hx hb dX4_useUp_49 rfl (lv_at hl 0 rfl) ?_
          refine va_iald hx hb hE.1 hP 2 0 rfl rfl (vp_in_nI (n := i15) (by omega) (by decide)) dX4_useUp_50 ?_
          refine lv_topi (fun v8 ev8 => ?_)
          refine lv_iconst (v := (-1)) hx hb dX4_useUp_51 (by decide) ?_
          refine lv_icmp_ne (tgt := 62) hx hb dX4_useUp_52 (by decide) (fun c9 => ?_) (fun c9 => ?_)
          · skip
            refine lv_iinc (v := (nI (i15 + 1))) (lv' := [(2, .int (nI (i15 + 1))), (0, .ref x1), (1, .int (nI l0))]) hx hb dX4_useUp_62 hl (k := 0) rfl (nI_1 _) (by decide) rfl (fun ls hl => ?_)
            refine lv_goto (tgt := 15) hx hb dX4_useUp_65 (by decide) ?_
            exact ih15 (i15 + 1) (upd a_s5_15 (Int32.toNatClampNeg (nI i15)) (nI (lf0 i15 - sh0 i15))) a_s7_15 (by omega) (uu_no (by omega) huu_15 (fun z9 => c9 ((uu_7 huu_15 (by omega) ev8).trans z9.2))) (by omega) _ _ _ hP hD hS (lv_sub hl [0, 1, 2] rfl)
          · skip
            refine lv_aload_n hx hb dX4_useUp_55 rfl (lv_at hl 1 rfl) ?_
            refine va_get (D := D) (ci := 4) (v := .ref s7) (C := RX4) (T := TX4) (N := 14) hx hb hts hiX4 hown hE.1 hP 0 rfl rfl 7 (by decide) (hts _ (List.mem_cons_of_mem _ wd_51)) (fun _ h9 => h9) rfl dX4_useUp_56 ?_
            refine lv_iload_n hx hb dX4_useUp_59 rfl (lv_at hl 0 rfl) ?_
            refine lv_iload_n hx hb dX4_useUp_60 rfl (lv_at hl 2 rfl) ?_
            refine va_iast hx hb hE.1 hP hD hS 2 0 rfl rfl (vp_in_nI (n := i15) (by omega) (by decide)) dX4_useUp_61 (fun H locs hP hD hS => ?_)
            refine k_re (w := [(oX4 x1 x0 s1 s2 (nI pn) si4 s5 s6 s7 s8 s9 s10 s11 (nI tt0) (nI (at0 + tt0))), (aIc cI s5 8 (upd a_s5_15 (Int32.toNatClampNeg (nI i15)) (nI (lf0 i15 - sh0 i15)))), (aIc cI s7 8 (upd a_s7_15 (Int32.toNatClampNeg (nI i15)) (nI l0))), (aIc cI s10 8 S10)]) hP hD (fun hP hD => ?_)
            refine lv_iinc (v := (nI (i15 + 1))) (lv' := [(2, .int (nI (i15 + 1))), (0, .ref x1), (1, .int (nI l0))]) hx hb dX4_useUp_62 hl (k := 0) rfl (nI_1 _) (by decide) rfl (fun ls hl => ?_)
            refine lv_goto (tgt := 15) hx hb dX4_useUp_65 (by decide) ?_
            exact ih15 (i15 + 1) (upd a_s5_15 (Int32.toNatClampNeg (nI i15)) (nI (lf0 i15 - sh0 i15))) (upd a_s7_15 (Int32.toNatClampNeg (nI i15)) (nI l0)) (by omega) (uu_yes (by omega) huu_15 ⟨by omega, (uu_7 huu_15 (by omega) ev8).symm.trans c9⟩) (by omega) _ _ _ hP hD hS (lv_sub hl [0, 1, 2] rfl)
  exact J15 _ 0 S5 S7 (by omega) (uu_0 hlfv) (Nat.lt_succ_self _) _ _ _ hP hD hS (lv_sub hl [0, 1, 2] rfl)

