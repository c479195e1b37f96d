set_option maxHeartbeats 4000000 in
set_option maxRecDepth 100000 in
theorem e_X2_height (l : Launch) (D : va_G) (cI cJ : ClassId) (sz : Nat) (s2 d0 d1 d2 du : Nat) (D0 : Nat → Int32) (c0 : Nat → Nat) (hcv : nv D0 c0) (hcb : ∀ k, k < 8 → c0 k ≤ 1000000) (hdu : du ≤ sm c0 8) : Met l yX2_height wtX2_height { frames := 0, cells := 0, slots := 0, locals := 0 } (cPc D cI cJ [.ref s2, .int (nI du)] sz [(oX2 s2 d0 d1 d2), (aIc cI d0 8 D0)]) (cQi D (fun r u => r = (nI (HGT c0 du)) ∧ u = [(oX2 s2 d0 d1 d2), (aIc cI d0 8 D0)]) (va_A [(oX2 s2 d0 d1 d2), (aIc cI d0 8 D0)] sz)) 0 0 (va_A [(oX2 s2 d0 d1 d2), (aIc cI d0 8 D0)] sz) := by
  refine k_ofW (Qc := cQi D (fun r u => r = (nI (HGT c0 du)) ∧ u = [(oX2 s2 d0 d1 d2), (aIc cI d0 8 D0)])) (by decide) rfl (Nat.le_of_ble_eq_true rfl) ?_
  intro p e s m below meth c A ls hx hb hr hml hts hown hlk hnm hsz hE hP hD hS hA hl
  have hown : s.vm.findClass RX2 = some m.cls := hown
  have hiX2 : ∀ w ∈ u_ws RX2 TX2 3, w ∈ wtX2_height := fun w h => List.mem_cons_of_mem _ (iuX2 w h)
  have hl : lv_has ls 10 [(0, .ref s2), (1, .int (nI du))] := hl
  refine lv_iconst (v := 0) hx hb dX2_height_0 (by decide) ?_
  refine lv_istore_n (lv' := [(2, .int 0), (0, .ref s2), (1, .int (nI du))]) hx hb dX2_height_1 rfl hl (by decide) rfl (fun ls hl => ?_)
  refine lv_iconst (v := 0) hx hb dX2_height_2 (by decide) ?_
  refine lv_istore_n (lv' := [(3, .int 0), (2, .int 0), (0, .ref s2), (1, .int (nI du))]) hx hb dX2_height_3 rfl hl (by decide) rfl (fun ls hl => ?_)
  refine lv_iload_n hx hb dX2_height_4 rfl (lv_at hl 3 rfl) ?_
  refine lv_istore (lv' := [(4, .int (nI du)), (3, .int 0), (2, .int 0), (0, .ref s2), (1, .int (nI du))]) hx hb dX2_height_5 hl (by decide) rfl (fun ls hl => ?_)
  refine lv_bipush (v := 8) hx hb dX2_height_7 (by decide) ?_
  refine lv_istore (lv' := [(5, .int 8), (4, .int (nI du)), (3, .int 0), (2, .int 0), (0, .ref s2), (1, .int (nI du))]) hx hb dX2_height_9 hl (by decide) rfl (fun ls hl => ?_)
  refine lv_iconst (v := 0) hx hb dX2_height_11 (by decide) ?_
  refine lv_istore (lv' := [(6, .int 0), (5, .int 8), (4, .int (nI du)), (3, .int 0), (2, .int 0), (0, .ref s2), (1, .int (nI du))]) hx hb dX2_height_12 hl (by decide) rfl (fun ls hl => ?_)
  have J14 : ∀ (zz : Nat) (i14 h2_14 : Nat) (h3_14 : Int32) (h4_14 h5_14 : Nat), (i14 ≤ 9) → (∃ e : Nat, HI c0 du h3_14 h2_14 h4_14 h5_14 e) → (i14 + h5_14 ≤ 8) → (h2_14 ≤ 1000000) → (9 - i14) < zz → ∀ (H : Heap) (locs : List Loc) (ls : Array Slot), va_P D vwCl [(oX2 s2 d0 d1 d2), (aIc cI d0 8 D0)] H → va_D A [(oX2 s2 d0 d1 d2), (aIc cI d0 8 D0)] → va_S A s.heap H locs → lv_has ls 10 [(6, .int (nI i14)), (5, .int (nI h5_14)), (4, .int (nI h4_14)), (3, .int h3_14), (2, .int (nI h2_14)), (0, .ref s2), (1, .int (nI du))] → W p l e { frames := 0, cells := 0, slots := 0, locals := 0 } s m [.ref s2, .int (nI du)].toArray below meth c H locs 0 0 (MQ below (cQi D (fun r u => r = (nI (HGT c0 du)) ∧ u = [(oX2 s2 d0 d1 d2), (aIc cI d0 8 D0)]) A) [.ref s2, .int (nI du)].toArray s 0 0 A) (F0 m 14 ls []) := by
    intro zz
    induction zz with
    | zero => intro i14 h2_14 h3_14 h4_14 h5_14 _ _ _ _; exact fun h => absurd h (Nat.not_lt_zero _)
    | succ zz ih14 =>
      intro i14 h2_14 h3_14 h4_14 h5_14 hc6_14 hHI_14 hto_14 hgb_14 hmu14 H locs ls hP hD hS hl
      refine lv_iload hx hb dX2_height_14 (lv_at hl 0 rfl) ?_
      refine lv_bipush (v := 8) hx hb dX2_height_16 (by decide) ?_
      refine lv_icmp_gt (tgt := 135) hx hb dX2_height_18 (by decide) (fun c1 => ?_) (fun c1 => ?_)
      · skip
        have nc1 : 8 < i14 := (nI_ltI (a := 8) (b := i14) (by omega) (by omega)).mp c1
        refine lv_iload_n hx hb dX2_height_135 rfl (lv_at hl 4 rfl) ?_
        refine k_iret (u := [(oX2 s2 d0 d1 d2), (aIc cI d0 8 D0)]) hx hb hr hlk hP hD hS dX2_height_136 ?_
        exact ⟨(by obtain ⟨e0, hH⟩ := hHI_14; rw [hi_top hH (by omega) hdu]), rfl⟩
      · skip
        have nc1 : ¬ 8 < i14 := fun q9 => c1 ((nI_ltI (a := 8) (b := i14) (by omega) (by omega)).mpr q9)
        refine lv_iload hx hb dX2_height_21 (lv_at hl 1 rfl) ?_
        refine lv_if_le (tgt := 135) hx hb dX2_height_23 (by decide) (fun c2 => ?_) (fun c2 => ?_)
        · skip
          have nc2 : h5_14 ≤ 0 := (nI_leI (a := h5_14) (b := 0) (by omega) (by omega)).mp c2
          refine lv_iload_n hx hb dX2_height_135 rfl (lv_at hl 4 rfl) ?_
          refine k_iret (u := [(oX2 s2 d0 d1 d2), (aIc cI d0 8 D0)]) hx hb hr hlk hP hD hS dX2_height_136 ?_
          exact ⟨(by obtain ⟨e0, hH⟩ := hHI_14; rw [hi_top hH (by omega) hdu]), rfl⟩
        · skip
          have nc2 : ¬ h5_14 ≤ 0 := fun q9 => c2 ((nI_leI (a := h5_14) (b := 0) (by omega) (by omega)).mpr q9)
          obtain ⟨e0, hHI0⟩ := hHI_14
          have hre0 : h4_14 ≤ du := by have := hHI0.1; omega
          have hSb8 : sm c0 8 ≤ 8000000 := sm_bound (c := 1000000) hcb
          refine lv_iload hx hb dX2_height_26 (lv_at hl 2 rfl) ?_
          refine lv_iload hx hb dX2_height_28 (lv_at hl 1 rfl) ?_
          refine lv_idiv hx hb dX2_height_30 (nI_ne0 (by omega) (by omega)) ?_
          refine lv_topi (fun v3 ev3 => ?_)
          obtain ⟨ev0, eev⟩ : ∃ z : Nat, z = h4_14 / h5_14 := ⟨_, rfl⟩
          have hevb : ev0 ≤ h4_14 := by rw [eev]; exact Nat.div_le_self _ _
          have hHU := hi_up hHI0 (by omega)
          obtain rfl : v3 = nI ev0 := by rw [ev3, eev]; exact pk_div (by omega) (by omega) (by omega)
          refine lv_istore (lv' := [(7, .int (nI ev0)), (6, .int (nI i14)), (5, .int (nI h5_14)), (4, .int (nI h4_14)), (3, .int h3_14), (2, .int (nI h2_14)), (0, .ref s2), (1, .int (nI du))]) hx hb dX2_height_31 hl (by decide) rfl (fun ls hl => ?_)
          refine lv_iload hx hb dX2_height_33 (lv_at hl 2 rfl) ?_
          refine lv_istore (lv' := [(8, .int (nI h5_14)), (7, .int (nI ev0)), (6, .int (nI i14)), (5, .int (nI h5_14)), (4, .int (nI h4_14)), (3, .int h3_14), (2, .int (nI h2_14)), (0, .ref s2), (1, .int (nI du))]) hx hb dX2_height_35 hl (by decide) rfl (fun ls hl => ?_)
          refine lv_iconst (v := 0) hx hb dX2_height_37 (by decide) ?_
          refine lv_istore (lv' := [(9, .int 0), (8, .int (nI h5_14)), (7, .int (nI ev0)), (6, .int (nI i14)), (5, .int (nI h5_14)), (4, .int (nI h4_14)), (3, .int h3_14), (2, .int (nI h2_14)), (0, .ref s2), (1, .int (nI du))]) hx hb dX2_height_38 hl (by decide) rfl (fun ls hl => ?_)
          have J40 : ∀ (zz : Nat) (j40 h2_40 : Nat) (h3_40 : Int32) (h4_40 h5_40 : Nat), (j40 ≤ 8) → (HI c0 du h3_40 h2_40 h4_40 h5_40 ev0) → (∀ k, k < j40 → ¬ bt h3_40 k = true → ev0 < c0 k) → (h4_40 ≤ h4_14) → (h5_40 ≤ h5_14) → (h2_40 ≤ 1000000) → (8 - j40) < zz → ∀ (H : Heap) (locs : List Loc) (ls : Array Slot), va_P D vwCl [(oX2 s2 d0 d1 d2), (aIc cI d0 8 D0)] H → va_D A [(oX2 s2 d0 d1 d2), (aIc cI d0 8 D0)] → va_S A s.heap H locs → lv_has ls 10 [(9, .int (nI j40)), (8, .int (nI h5_14)), (7, .int (nI ev0)), (6, .int (nI i14)), (5, .int (nI h5_40)), (4, .int (nI h4_40)), (3, .int h3_40), (2, .int (nI h2_40)), (0, .ref s2), (1, .int (nI du))] → W p l e { frames := 0, cells := 0, slots := 0, locals := 0 } s m [.ref s2, .int (nI du)].toArray below meth c H locs 0 0 (MQ below (cQi D (fun r u => r = (nI (HGT c0 du)) ∧ u = [(oX2 s2 d0 d1 d2), (aIc cI d0 8 D0)]) A) [.ref s2, .int (nI du)].toArray s 0 0 A) (F0 m 40 ls []) := by
            intro zz
            induction zz with
            | zero => intro j40 h2_40 h3_40 h4_40 h5_40 _ _ _ _ _ _; exact fun h => absurd h (Nat.not_lt_zero _)
            | succ zz ih40 =>
              intro j40 h2_40 h3_40 h4_40 h5_40 hc9_40 hHJ_40 hal_40 hre2_40 hop2_40 hgb2_40 hmu40 H locs ls hP hD hS hl
              refine lv_iload hx hb dX2_height_40 (lv_at hl 0 rfl) ?_
              refine lv_bipush (v := 8) hx hb dX2_height_42 (by decide) ?_
              refine lv_icmp_ge (tgt := 119) hx hb dX2_height_44 (by decide) (fun c4 => ?_) (fun c4 => ?_)
              · skip
                have nc4 : 8 ≤ j40 := (nI_leI (a := 8) (b := j40) (by omega) (by omega)).mp c4
                refine lv_iload hx hb dX2_height_119 (lv_at hl 4 rfl) ?_
                refine lv_iload hx hb dX2_height_121 (lv_at hl 1 rfl) ?_
                refine lv_icmp_ne (tgt := 129) hx hb dX2_height_123 (by decide) (fun c5 => ?_) (fun c5 => ?_)
                · skip
                  have nc5 : ¬ h5_40 = h5_14 := fun q9 => c5 ((nI_eq (a := h5_40) (b := h5_14) (by omega) (by omega)).mpr q9)
                  refine lv_iinc (v := (nI (i14 + 1))) (lv' := [(6, .int (nI (i14 + 1))), (9, .int (nI j40)), (8, .int (nI h5_14)), (7, .int (nI ev0)), (5, .int (nI h5_40)), (4, .int (nI h4_40)), (3, .int h3_40), (2, .int (nI h2_40)), (0, .ref s2), (1, .int (nI du))]) hx hb dX2_height_129 hl (k := 3) rfl (nI_1 _) (by decide) rfl (fun ls hl => ?_)
                  refine lv_goto (tgt := 14) hx hb dX2_height_132 (by decide) ?_
                  exact ih14 (i14 + 1) h2_40 h3_40 h4_40 h5_40 (by omega) ⟨ev0, hHJ_40⟩ (by omega) hgb2_40 (by omega) _ _ _ hP hD hS (lv_sub hl [0, 4, 5, 6, 7, 8, 9] rfl)
                · skip
                  have nc5 : h5_40 = h5_14 := (nI_eq (a := h5_40) (b := h5_14) (by omega) (by omega)).mp c5
                  refine lv_iload hx hb dX2_height_126 (lv_at hl 2 rfl) ?_
                  refine k_iret (u := [(oX2 s2 d0 d1 d2), (aIc cI d0 8 D0)]) hx hb hr hlk hP hD hS dX2_height_128 ?_
                  exact ⟨(by rw [hi_even hHJ_40 (by omega) hre2_40 (by rw [eev, show h5_40 = h5_14 from by omega]) (fun k hk => hal_40 k (by omega))]), rfl⟩
              · skip
                have nc4 : ¬ 8 ≤ j40 := fun q9 => c4 ((nI_leI (a := 8) (b := j40) (by omega) (by omega)).mpr q9)
                refine lv_iload_n hx hb dX2_height_47 rfl (lv_at hl 6 rfl) ?_
                refine lv_iload hx hb dX2_height_48 (lv_at hl 0 rfl) ?_
                refine lv_ishr hx hb dX2_height_50 ?_
                refine lv_topi (fun v6 ev6 => ?_)
                refine lv_iconst (v := 1) hx hb dX2_height_51 (by decide) ?_
                refine lv_iand hx hb dX2_height_52 ?_
                refine lv_topi (fun v7 ev7 => ?_)
                refine lv_if_ne (tgt := 113) hx hb dX2_height_53 (by decide) (fun c8 => ?_) (fun c8 => ?_)
                · skip
                  refine lv_iinc (v := (nI (j40 + 1))) (lv' := [(9, .int (nI (j40 + 1))), (8, .int (nI h5_14)), (7, .int (nI ev0)), (6, .int (nI i14)), (5, .int (nI h5_40)), (4, .int (nI h4_40)), (3, .int h3_40), (2, .int (nI h2_40)), (0, .ref s2), (1, .int (nI du))]) hx hb dX2_height_113 hl (k := 0) rfl (nI_1 _) (by decide) rfl (fun ls hl => ?_)
                  refine lv_goto (tgt := 40) hx hb dX2_height_116 (by decide) ?_
                  have hfu : bt h3_40 j40 = true := (bt_nz (by omega)).mp (by rw [← ev6, ← ev7]; exact c8)
                  exact ih40 (j40 + 1) h2_40 h3_40 h4_40 h5_40 (by omega) hHJ_40 (hal_a hal_40 (Or.inl hfu)) hre2_40 hop2_40 hgb2_40 (by omega) _ _ _ hP hD hS (lv_sub hl [0, 1, 2, 3, 4, 5, 6, 7, 8, 9] rfl)
                · skip
                  have hnf : ¬ bt h3_40 j40 = true := fun q9 => (bt_nz (a := h3_40) (by omega)).mpr q9 (by rw [← ev6, ← ev7]; exact c8)
                  refine lv_aload_n hx hb dX2_height_56 rfl (lv_at hl 8 rfl) ?_
                  refine va_get (D := D) (ci := 2) (v := .ref d0) (C := RX2) (T := TX2) (N := 3) hx hb hts hiX2 hown hE.1 hP 0 rfl rfl 0 (by decide) (hts _ (List.mem_cons_of_mem _ wd_88)) (fun _ h9 => h9) rfl dX2_height_57 ?_
                  refine lv_iload hx hb dX2_height_60 (lv_at hl 0 rfl) ?_
                  refine va_iald hx hb hE.1 hP 1 0 rfl rfl (vp_in_nI (n := j40) (by omega) (by decide)) dX2_height_62 ?_
                  refine lv_topi (fun v9 ev9 => ?_)
                  have hcb_ := hcb j40 (by omega)
                  obtain rfl : v9 = nI (c0 j40) := ev9.trans (nv_at hcv (by omega))
                  refine lv_iload hx hb dX2_height_63 (lv_at hl 2 rfl) ?_
                  refine lv_icmp_gt (tgt := 113) hx hb dX2_height_65 (by decide) (fun c10 => ?_) (fun c10 => ?_)
                  · skip
                    have nc10 : ev0 < c0 j40 := (nI_ltI (a := ev0) (b := (c0 j40)) (by omega) (by omega)).mp c10
                    refine lv_iinc (v := (nI (j40 + 1))) (lv' := [(9, .int (nI (j40 + 1))), (8, .int (nI h5_14)), (7, .int (nI ev0)), (6, .int (nI i14)), (5, .int (nI h5_40)), (4, .int (nI h4_40)), (3, .int h3_40), (2, .int (nI h2_40)), (0, .ref s2), (1, .int (nI du))]) hx hb dX2_height_113 hl (k := 0) rfl (nI_1 _) (by decide) rfl (fun ls hl => ?_)
                    refine lv_goto (tgt := 40) hx hb dX2_height_116 (by decide) ?_
                    exact ih40 (j40 + 1) h2_40 h3_40 h4_40 h5_40 (by omega) hHJ_40 (hal_a hal_40 (Or.inr (by omega))) hre2_40 hop2_40 hgb2_40 (by omega) _ _ _ hP hD hS (lv_sub hl [0, 1, 2, 3, 4, 5, 6, 7, 8, 9] rfl)
                  · skip
                    have nc10 : ¬ ev0 < c0 j40 := fun q9 => c10 ((nI_ltI (a := ev0) (b := (c0 j40)) (by omega) (by omega)).mpr q9)
                    refine lv_iload_n hx hb dX2_height_68 rfl (lv_at hl 6 rfl) ?_
                    refine lv_iconst (v := 1) hx hb dX2_height_69 (by decide) ?_
                    refine lv_iload hx hb dX2_height_70 (lv_at hl 0 rfl) ?_
                    refine lv_ishl hx hb dX2_height_72 ?_
                    refine lv_topi (fun v11 ev11 => ?_)
                    refine lv_ior hx hb dX2_height_73 ?_
                    refine lv_topi (fun v12 ev12 => ?_)
                    refine lv_istore_n (lv' := [(3, .int v12), (9, .int (nI j40)), (8, .int (nI h5_14)), (7, .int (nI ev0)), (6, .int (nI i14)), (5, .int (nI h5_40)), (4, .int (nI h4_40)), (2, .int (nI h2_40)), (0, .ref s2), (1, .int (nI du))]) hx hb dX2_height_74 rfl hl (by decide) rfl (fun ls hl => ?_)
                    have hfe9 : v12 = h3_40 ||| ((1 : Int32) <<< (nI j40 &&& 31)) := by rw [ev12, ev11]
                    have hfu9 := hi_full hHJ_40 (by omega) hnf (by omega) hfe9
                    have hfu1 := hfu9.2.1
                    have hfu2 := hfu9.2.2
                    refine lv_aload_n hx hb dX2_height_75 rfl (lv_at hl 8 rfl) ?_
                    refine va_get (D := D) (ci := 2) (v := .ref d0) (C := RX2) (T := TX2) (N := 3) hx hb hts hiX2 hown hE.1 hP 0 rfl rfl 0 (by decide) (hts _ (List.mem_cons_of_mem _ wd_88)) (fun _ h9 => h9) rfl dX2_height_76 ?_
                    refine lv_iload hx hb dX2_height_79 (lv_at hl 1 rfl) ?_
                    refine va_iald hx hb hE.1 hP 1 0 rfl rfl (vp_in_nI (n := j40) (by omega) (by decide)) dX2_height_81 ?_
                    refine lv_topi (fun v13 ev13 => ?_)
                    obtain rfl : v13 = nI (c0 j40) := ev13.trans (nv_at hcv (by omega))
                    refine lv_iload_n hx hb dX2_height_82 rfl (lv_at hl 7 rfl) ?_
                    refine lv_icmp_le (tgt := 96) hx hb dX2_height_83 (by decide) (fun c14 => ?_) (fun c14 => ?_)
                    · skip
                      have nc14 : c0 j40 ≤ h2_40 := (nI_leI (a := (c0 j40)) (b := h2_40) (by omega) (by omega)).mp c14
                      refine lv_iload_n hx hb dX2_height_96 rfl (lv_at hl 7 rfl) ?_
                      refine lv_istore_n (lv' := [(2, .int (nI h2_40)), (3, .int v12), (9, .int (nI j40)), (8, .int (nI h5_14)), (7, .int (nI ev0)), (6, .int (nI i14)), (5, .int (nI h5_40)), (4, .int (nI h4_40)), (0, .ref s2), (1, .int (nI du))]) hx hb dX2_height_97 rfl hl (by decide) rfl (fun ls hl => ?_)
                      refine lv_iload hx hb dX2_height_98 (lv_at hl 7 rfl) ?_
                      refine lv_aload_n hx hb dX2_height_100 rfl (lv_at hl 8 rfl) ?_
                      refine va_get (D := D) (ci := 2) (v := .ref d0) (C := RX2) (T := TX2) (N := 3) hx hb hts hiX2 hown hE.1 hP 0 rfl rfl 0 (by decide) (hts _ (List.mem_cons_of_mem _ wd_88)) (fun _ h9 => h9) rfl dX2_height_101 ?_
                      refine lv_iload hx hb dX2_height_104 (lv_at hl 2 rfl) ?_
                      refine va_iald hx hb hE.1 hP 1 0 rfl rfl (vp_in_nI (n := j40) (by omega) (by decide)) dX2_height_106 ?_
                      refine lv_topi (fun v15 ev15 => ?_)
                      obtain rfl : v15 = nI (c0 j40) := ev15.trans (nv_at hcv (by omega))
                      refine lv_isub hx hb dX2_height_107 ?_
                      refine lv_topi (fun v16 ev16 => ?_)
                      obtain rfl : v16 = nI (h4_40 - c0 j40) := by rw [ev16]; exact pk_sub (by omega)
                      refine lv_istore (lv' := [(4, .int (nI (h4_40 - c0 j40))), (2, .int (nI h2_40)), (3, .int v12), (9, .int (nI j40)), (8, .int (nI h5_14)), (7, .int (nI ev0)), (6, .int (nI i14)), (5, .int (nI h5_40)), (0, .ref s2), (1, .int (nI du))]) hx hb dX2_height_108 hl (by decide) rfl (fun ls hl => ?_)
                      obtain ⟨v17, ev17⟩ : ∃ y : Int32, y = (nI h5_40) + (-1) := ⟨_, rfl⟩
                      refine lv_iinc (v := v17) (lv' := [(5, .int v17), (4, .int (nI (h4_40 - c0 j40))), (2, .int (nI h2_40)), (3, .int v12), (9, .int (nI j40)), (8, .int (nI h5_14)), (7, .int (nI ev0)), (6, .int (nI i14)), (0, .ref s2), (1, .int (nI du))]) hx hb dX2_height_110 hl (k := 7) rfl (by rw [ev17]; rfl) (by decide) rfl (fun ls hl => ?_)
                      obtain rfl : v17 = nI (h5_40 - 1) := by rw [ev17]; exact pm1 (by omega)
                      refine lv_iinc (v := (nI (j40 + 1))) (lv' := [(9, .int (nI (j40 + 1))), (5, .int (nI (h5_40 - 1))), (4, .int (nI (h4_40 - c0 j40))), (2, .int (nI h2_40)), (3, .int v12), (8, .int (nI h5_14)), (7, .int (nI ev0)), (6, .int (nI i14)), (0, .ref s2), (1, .int (nI du))]) hx hb dX2_height_113 hl (k := 4) rfl (nI_1 _) (by decide) rfl (fun ls hl => ?_)
                      refine lv_goto (tgt := 40) hx hb dX2_height_116 (by decide) ?_
                      exact ih40 (j40 + 1) h2_40 v12 (h4_40 - c0 j40) (h5_40 - 1) (by omega) (by have h9 := hfu9.1; rwa [show max h2_40 (c0 j40) = h2_40 from by omega] at h9) (hal_c (by omega) hal_40 hfe9) (by omega) (by omega) hgb2_40 (by omega) _ _ _ hP hD hS (lv_sub hl [0, 5, 6, 7, 1, 2, 4, 3, 8, 9] rfl)
                    · skip
                      have nc14 : ¬ c0 j40 ≤ h2_40 := fun q9 => c14 ((nI_leI (a := (c0 j40)) (b := h2_40) (by omega) (by omega)).mpr q9)
                      refine lv_aload_n hx hb dX2_height_86 rfl (lv_at hl 8 rfl) ?_
                      refine va_get (D := D) (ci := 2) (v := .ref d0) (C := RX2) (T := TX2) (N := 3) hx hb hts hiX2 hown hE.1 hP 0 rfl rfl 0 (by decide) (hts _ (List.mem_cons_of_mem _ wd_88)) (fun _ h9 => h9) rfl dX2_height_87 ?_
                      refine lv_iload hx hb dX2_height_90 (lv_at hl 1 rfl) ?_
                      refine va_iald hx hb hE.1 hP 1 0 rfl rfl (vp_in_nI (n := j40) (by omega) (by decide)) dX2_height_92 ?_
                      refine lv_topi (fun v18 ev18 => ?_)
                      obtain rfl : v18 = nI (c0 j40) := ev18.trans (nv_at hcv (by omega))
                      refine lv_goto (tgt := 97) hx hb dX2_height_93 (by decide) ?_
                      refine lv_istore_n (lv' := [(2, .int (nI (c0 j40))), (3, .int v12), (9, .int (nI j40)), (8, .int (nI h5_14)), (7, .int (nI ev0)), (6, .int (nI i14)), (5, .int (nI h5_40)), (4, .int (nI h4_40)), (0, .ref s2), (1, .int (nI du))]) hx hb dX2_height_97 rfl hl (by decide) rfl (fun ls hl => ?_)
                      refine lv_iload hx hb dX2_height_98 (lv_at hl 7 rfl) ?_
                      refine lv_aload_n hx hb dX2_height_100 rfl (lv_at hl 8 rfl) ?_
                      refine va_get (D := D) (ci := 2) (v := .ref d0) (C := RX2) (T := TX2) (N := 3) hx hb hts hiX2 hown hE.1 hP 0 rfl rfl 0 (by decide) (hts _ (List.mem_cons_of_mem _ wd_88)) (fun _ h9 => h9) rfl dX2_height_101 ?_
                      refine lv_iload hx hb dX2_height_104 (lv_at hl 2 rfl) ?_
                      refine va_iald hx hb hE.1 hP 1 0 rfl rfl (vp_in_nI (n := j40) (by omega) (by decide)) dX2_height_106 ?_
                      refine lv_topi (fun v19 ev19 => ?_)
                      obtain rfl : v19 = nI (c0 j40) := ev19.trans (nv_at hcv (by omega))
                      refine lv_isub hx hb dX2_height_107 ?_
                      refine lv_topi (fun v20 ev20 => ?_)
                      obtain rfl : v20 = nI (h4_40 - c0 j40) := by rw [ev20]; exact pk_sub (by omega)
                      refine lv_istore (lv' := [(4, .int (nI (h4_40 - c0 j40))), (2, .int (nI (c0 j40))), (3, .int v12), (9, .int (nI j40)), (8, .int (nI h5_14)), (7, .int (nI ev0)), (6, .int (nI i14)), (5, .int (nI h5_40)), (0, .ref s2), (1, .int (nI du))]) hx hb dX2_height_108 hl (by decide) rfl (fun ls hl => ?_)
                      obtain ⟨v21, ev21⟩ : ∃ y : Int32, y = (nI h5_40) + (-1) := ⟨_, rfl⟩
                      refine lv_iinc (v := v21) (lv' := [(5, .int v21), (4, .int (nI (h4_40 - c0 j40))), (2, .int (nI (c0 j40))), (3, .int v12), (9, .int (nI j40)), (8, .int (nI h5_14)), (7, .int (nI ev0)), (6, .int (nI i14)), (0, .ref s2), (1, .int (nI du))]) hx hb dX2_height_110 hl (k := 7) rfl (by rw [ev21]; rfl) (by decide) rfl (fun ls hl => ?_)
                      obtain rfl : v21 = nI (h5_40 - 1) := by rw [ev21]; exact pm1 (by omega)
                      refine lv_iinc (v := (nI (j40 + 1))) (lv' := [(9, .int (nI (j40 + 1))), (5, .int (nI (h5_40 - 1))), (4, .int (nI (h4_40 - c0 j40))), (2, .int (nI (c0 j40))), (3, .int v12), (8, .int (nI h5_14)), (7, .int (nI ev0)), (6, .int (nI i14)), (0, .ref s2), (1, .int (nI du))]) hx hb dX2_height_113 hl (k := 4) rfl (nI_1 _) (by decide) rfl (fun ls hl => ?_)
                      refine lv_goto (tgt := 40) hx hb dX2_height_116 (by decide) ?_
                      exact ih40 (j40 + 1) (c0 j40) v12 (h4_40 - c0 j40) (h5_40 - 1) (by omega) (by have h9 := hfu9.1; rwa [show max h2_40 (c0 j40) = c0 j40 from by omega] at h9) (hal_c (by omega) hal_40 hfe9) (by omega) (by omega) (by omega) (by omega) _ _ _ hP hD hS (lv_sub hl [0, 5, 6, 7, 1, 2, 4, 3, 8, 9] rfl)
          exact J40 _ 0 h2_14 h3_14 h4_14 h5_14 (by omega) (by rw [eev]; exact hHU.1) (fun k hk => absurd hk (Nat.not_lt_zero k)) (by omega) (by omega) hgb_14 (Nat.lt_succ_self _) _ _ _ hP hD hS (lv_sub hl [0, 1, 2, 3, 4, 5, 6, 7, 8, 9] rfl)
  exact J14 _ 0 0 0 du 8 (by omega) ⟨0, hi_0⟩ (by omega) (by omega) (Nat.lt_succ_self _) _ _ _ hP hD hS (lv_sub hl [0, 1, 2, 3, 4, 5, 6] rfl)
set_option maxHeartbeats 4000000 in
set_option maxRecDepth 100000 in
theorem e_X2_divideInSteps (l : Launch) (D : va_G) (cI cJ : ClassId) (sz : Nat) (s2 d0 d1 d2 du : Nat) (D0 D1 : Nat → Int32) (c0 : Nat → Nat) (hcv : nv D0 c0) (hcb : ∀ k, k < 8 → c0 k ≤ 1000000) (hdu : du ≤ sm c0 8) : Met l yX2_divideInSteps wtX2_divideInSteps { frames := 1, cells := 0, slots := 0, locals := 29 } (cPc D cI cJ [.ref s2, .int (nI du)] sz [(oX2 s2 d0 d1 d2), (aIc cI d0 8 D0), (aIc cI d1 8 D1)]) (cQv D (fun u => ∃ (D1p : Nat → Int32), (∀ k, k < 8 → D1p k = nI (DS c0 du k)) ∧ u = [(oX2 s2 d0 d1 d2), (aIc cI d0 8 D0), (aIc cI d1 8 D1p)]) (va_A [(oX2 s2 d0 d1 d2), (aIc cI d0 8 D0), (aIc cI d1 8 D1)] sz)) 0 0 (va_A [(oX2 s2 d0 d1 d2), (aIc cI d0 8 D0), (aIc cI d1 8 D1)] sz) := by
  refine k_ofW (Qc := cQv D (fun u => ∃ (D1p : Nat → Int32), (∀ k, k < 8 → D1p k = nI (DS c0 du k)) ∧ u = [(oX2 s2 d0 d1 d2), (aIc cI d0 8 D0), (aIc cI d1 8 D1p)])) (by decide) rfl (Nat.le_of_ble_eq_true rfl) ?_
  intro p e s m below meth c A ls hx hb hr hml hts hown hlk hnm hsz hE hP hD hS hA hl
  have hown : s.vm.findClass RX2 = some m.cls := hown
  have hiX2 : ∀ w ∈ u_ws RX2 TX2 3, w ∈ wtX2_divideInSteps := fun w h => List.mem_cons_of_mem _ (iuX2 w h)
  have hl : lv_has ls 5 [(0, .ref s2), (1, .int (nI du))] := hl
  refine lv_aload_n hx hb dX2_divideInSteps_0 rfl (lv_at hl 0 rfl) ?_
  refine lv_iload_n hx hb dX2_divideInSteps_1 rfl (lv_at hl 1 rfl) ?_
  refine k_iS (va_runV (As := [.int (nI du)]) (rest := []) ⟨hx, hb, hml, hown, hts⟩ (e_X2_height l D cI cJ (s.heap).size s2 d0 d1 d2 du D0 c0 hcv hcb hdu) (cwV 1 hts gX2_divideInSteps_X2_height rfl rfl rfl (by decide +kernel) ⟨Nat.le_of_ble_eq_true rfl, Nat.le_of_ble_eq_true rfl⟩) (k_preV hE hP hD [0, 1] (by decide +kernel) rfl 0 rfl rfl) rfl rfl hl.1 rfl (lv_room (Nat.le_of_ble_eq_true rfl)) dX2_divideInSteps_2 ⟨Nat.le_of_ble_eq_true rfl, Nat.le_of_ble_eq_true rfl⟩) hP hD hS hA [0, 1] rfl (fun _ _ ⟨_, h9⟩ => h9) (fun r1 H locs hw2 hP hD hS => ?_)
  obtain ⟨rfl, -⟩ := hw2
  refine lv_istore_n (lv' := [(2, .int (nI (HGT c0 du))), (0, .ref s2), (1, .int (nI du))]) hx hb dX2_divideInSteps_5 rfl hl (by decide) rfl (fun ls hl => ?_)
  refine lv_iload_n hx hb dX2_divideInSteps_6 rfl (lv_at hl 2 rfl) ?_
  refine lv_istore_n (lv' := [(3, .int (nI du)), (2, .int (nI (HGT c0 du))), (0, .ref s2), (1, .int (nI du))]) hx hb dX2_divideInSteps_7 rfl hl (by decide) rfl (fun ls hl => ?_)
  have hhb : HGT c0 du ≤ 1000000 := Nat.le_trans hgt_mx (mx_bound hcb)
  have hhs : sm (fun k => min (c0 k) (HGT c0 du)) 8 ≤ du := hgt_s (c := c0) (du := du)
  have hSb8 : sm c0 8 ≤ 8000000 := sm_bound (c := 1000000) hcb
  refine lv_iconst (v := 0) hx hb dX2_divideInSteps_8 (by decide) ?_
  refine lv_istore (lv' := [(4, .int 0), (3, .int (nI du)), (2, .int (nI (HGT c0 du))), (0, .ref s2), (1, .int (nI du))]) hx hb dX2_divideInSteps_9 hl (by decide) rfl (fun ls hl => ?_)
  have J11 : ∀ (zz : Nat) (i11 h3_11 : Nat) (a_d1_11 : Nat → Int32), (i11 ≤ 8) → (∀ k, k < i11 → a_d1_11 k = nI (min (c0 k) (HGT c0 du))) → (h3_11 = du - sm (fun k => min (c0 k) (HGT c0 du)) i11) → (8 - i11) < zz → ∀ (H : Heap) (locs : List Loc) (ls : Array Slot), va_P D vwCl [(oX2 s2 d0 d1 d2), (aIc cI d0 8 D0), (aIc cI d1 8 a_d1_11)] H → va_D A [(oX2 s2 d0 d1 d2), (aIc cI d0 8 D0), (aIc cI d1 8 a_d1_11)] → va_S A s.heap H locs → lv_has ls 5 [(4, .int (nI i11)), (3, .int (nI h3_11)), (2, .int (nI (HGT c0 du))), (0, .ref s2), (1, .int (nI du))] → W p l e { frames := 1, cells := 0, slots := 0, locals := 29 } s m [.ref s2, .int (nI du)].toArray below meth c H locs 0 0 (MQ below (cQv D (fun u => ∃ (D1p : Nat → Int32), (∀ k, k < 8 → D1p k = nI (DS c0 du k)) ∧ u = [(oX2 s2 d0 d1 d2), (aIc cI d0 8 D0), (aIc cI d1 8 D1p)]) A) [.ref s2, .int (nI du)].toArray s 0 0 A) (F0 m 11 ls []) := by
    intro zz
    induction zz with
    | zero => intro i11 h3_11 a_d1_11 _ _ _; exact fun h => absurd h (Nat.not_lt_zero _)
    | succ zz ih11 =>
      intro i11 h3_11 a_d1_11 hc4_11 hmn_11 hre_11 hmu11 H locs ls hP hD hS hl
      refine lv_iload hx hb dX2_divideInSteps_11 (lv_at hl 0 rfl) ?_
      refine lv_bipush (v := 8) hx hb dX2_divideInSteps_13 (by decide) ?_
      refine lv_icmp_ge (tgt := 52) hx hb dX2_divideInSteps_15 (by decide) (fun c3 => ?_) (fun c3 => ?_)
      · skip
        have nc3 : 8 ≤ i11 := (nI_leI (a := 8) (b := i11) (by omega) (by omega)).mp c3
        obtain rfl : i11 = 8 := (by omega)
        have hov9 : h3_11 = du - SHT c0 (HGT c0 du) := hre_11
        refine lv_iconst (v := 0) hx hb dX2_divideInSteps_52 (by decide) ?_
        refine lv_istore (lv' := [(4, .int 0), (3, .int (nI h3_11)), (2, .int (nI (HGT c0 du))), (0, .ref s2), (1, .int (nI du))]) hx hb dX2_divideInSteps_53 hl (by decide) rfl (fun ls hl => ?_)
        have J55 : ∀ (zz : Nat) (i55 h3_55 : Nat) (a_d1_55 : Nat → Int32), (i55 ≤ 8) → (SI a_d1_55 c0 (HGT c0 du) h3_11 i55) → (h3_55 = h3_11 - min h3_11 (cnt c0 (HGT c0 du) i55)) → (8 - i55) < zz → ∀ (H : Heap) (locs : List Loc) (ls : Array Slot), va_P D vwCl [(oX2 s2 d0 d1 d2), (aIc cI d0 8 D0), (aIc cI d1 8 a_d1_55)] H → va_D A [(oX2 s2 d0 d1 d2), (aIc cI d0 8 D0), (aIc cI d1 8 a_d1_55)] → va_S A s.heap H locs → lv_has ls 5 [(4, .int (nI i55)), (3, .int (nI h3_55)), (2, .int (nI (HGT c0 du))), (0, .ref s2), (1, .int (nI du))] → W p l e { frames := 1, cells := 0, slots := 0, locals := 29 } s m [.ref s2, .int (nI du)].toArray below meth c H locs 0 0 (MQ below (cQv D (fun u => ∃ (D1p : Nat → Int32), (∀ k, k < 8 → D1p k = nI (DS c0 du k)) ∧ u = [(oX2 s2 d0 d1 d2), (aIc cI d0 8 D0), (aIc cI d1 8 D1p)]) A) [.ref s2, .int (nI du)].toArray s 0 0 A) (F0 m 55 ls []) := by
          intro zz
          induction zz with
          | zero => intro i55 h3_55 a_d1_55 _ _ _; exact fun h => absurd h (Nat.not_lt_zero _)
          | succ zz ih55 =>
            intro i55 h3_55 a_d1_55 hc4_55 hsi_55 hrr_55 hmu55 H locs ls hP hD hS hl
            refine lv_iload hx hb dX2_divideInSteps_55 (lv_at hl 0 rfl) ?_
            refine lv_bipush (v := 8) hx hb dX2_divideInSteps_57 (by decide) ?_
            refine lv_icmp_ge (tgt := 97) hx hb dX2_divideInSteps_59 (by decide) (fun c4 => ?_) (fun c4 => ?_)
            · skip
              have nc4 : 8 ≤ i55 := (nI_leI (a := 8) (b := i55) (by omega) (by omega)).mp c4
              refine k_vret (u := [(oX2 s2 d0 d1 d2), (aIc cI d0 8 D0), (aIc cI d1 8 a_d1_55)]) hx hb hr hlk hP hD hS dX2_divideInSteps_97 ?_
              exact ⟨a_d1_55, (fun k hk => by have h9 := si_end hsi_55 (Or.inl (by omega)) k hk; rw [hov9] at h9; exact h9), rfl⟩
            · skip
              have nc4 : ¬ 8 ≤ i55 := fun q9 => c4 ((nI_leI (a := 8) (b := i55) (by omega) (by omega)).mpr q9)
              refine lv_iload_n hx hb dX2_divideInSteps_62 rfl (lv_at hl 1 rfl) ?_
              refine lv_if_le (tgt := 97) hx hb dX2_divideInSteps_63 (by decide) (fun c5 => ?_) (fun c5 => ?_)
              · skip
                have nc5 : h3_55 ≤ 0 := (nI_leI (a := h3_55) (b := 0) (by omega) (by omega)).mp c5
                refine k_vret (u := [(oX2 s2 d0 d1 d2), (aIc cI d0 8 D0), (aIc cI d1 8 a_d1_55)]) hx hb hr hlk hP hD hS dX2_divideInSteps_97 ?_
                exact ⟨a_d1_55, (fun k hk => by have h9 := si_end hsi_55 (Or.inr (by omega)) k hk; rw [hov9] at h9; exact h9), rfl⟩
              · skip
                have nc5 : ¬ h3_55 ≤ 0 := fun q9 => c5 ((nI_leI (a := h3_55) (b := 0) (by omega) (by omega)).mpr q9)
                refine lv_aload_n hx hb dX2_divideInSteps_66 rfl (lv_at hl 3 rfl) ?_
                refine va_get (D := D) (ci := 2) (v := .ref d0) (C := RX2) (T := TX2) (N := 3) hx hb hts hiX2 hown hE.1 hP 0 rfl rfl 0 (by decide) (hts _ (List.mem_cons_of_mem _ wd_88)) (fun _ h9 => h9) rfl dX2_divideInSteps_67 ?_
                refine lv_iload hx hb dX2_divideInSteps_70 (lv_at hl 0 rfl) ?_
                refine va_iald hx hb hE.1 hP 1 0 rfl rfl (vp_in_nI (n := i55) (by omega) (by decide)) dX2_divideInSteps_72 ?_
                refine lv_topi (fun v6 ev6 => ?_)
                have hcb_ := hcb i55 (by omega)
                obtain rfl : v6 = nI (c0 i55) := ev6.trans (nv_at hcv (by omega))
                refine lv_iload_n hx hb dX2_divideInSteps_73 rfl (lv_at hl 2 rfl) ?_
                refine lv_icmp_le (tgt := 91) hx hb dX2_divideInSteps_74 (by decide) (fun c7 => ?_) (fun c7 => ?_)
                · skip
                  have nc7 : c0 i55 ≤ HGT c0 du := (nI_leI (a := (c0 i55)) (b := (HGT c0 du)) (by omega) (by omega)).mp c7
                  refine lv_iinc (v := (nI (i55 + 1))) (lv' := [(4, .int (nI (i55 + 1))), (3, .int (nI h3_55)), (2, .int (nI (HGT c0 du))), (0, .ref s2), (1, .int (nI du))]) hx hb dX2_divideInSteps_91 hl (k := 0) rfl (nI_1 _) (by decide) rfl (fun ls hl => ?_)
                  refine lv_goto (tgt := 55) hx hb dX2_divideInSteps_94 (by decide) ?_
                  have hcs9 : cnt c0 (HGT c0 du) (i55 + 1) = cnt c0 (HGT c0 du) i55 + (if HGT c0 du < c0 i55 then 1 else 0) := cnt_s
                  rw [if_neg (by omega)] at hcs9
                  exact ih55 (i55 + 1) h3_55 a_d1_55 (by omega) (si_no hsi_55 (fun z9 => by omega)) (by omega) (by omega) _ _ _ hP hD hS (lv_sub hl [0, 1, 2, 3, 4] rfl)
                · skip
                  have nc7 : ¬ c0 i55 ≤ HGT c0 du := fun q9 => c7 ((nI_leI (a := (c0 i55)) (b := (HGT c0 du)) (by omega) (by omega)).mpr q9)
                  refine lv_aload_n hx hb dX2_divideInSteps_77 rfl (lv_at hl 3 rfl) ?_
                  refine va_get (D := D) (ci := 2) (v := .ref d1) (C := RX2) (T := TX2) (N := 3) hx hb hts hiX2 hown hE.1 hP 0 rfl rfl 1 (by decide) (hts _ (List.mem_cons_of_mem _ wd_89)) (fun _ h9 => h9) rfl dX2_divideInSteps_78 ?_
                  refine lv_iload hx hb dX2_divideInSteps_81 (lv_at hl 0 rfl) ?_
                  refine lv_dup2_11 hx hb dX2_divideInSteps_83 rfl rfl ?_
                  refine va_iald hx hb hE.1 hP 2 0 rfl rfl (vp_in_nI (n := i55) (by omega) (by decide)) dX2_divideInSteps_84 ?_
                  refine lv_topi (fun v8 ev8 => ?_)
                  refine lv_iconst (v := 1) hx hb dX2_divideInSteps_85 (by decide) ?_
                  refine lv_iadd hx hb dX2_divideInSteps_86 ?_
                  refine lv_topi (fun v9 ev9 => ?_)
                  refine va_iast hx hb hE.1 hP hD hS 2 0 rfl rfl (vp_in_nI (n := i55) (by omega) (by decide)) dX2_divideInSteps_87 (fun H locs hP hD hS => ?_)
                  refine k_re (w := [(oX2 s2 d0 d1 d2), (aIc cI d0 8 D0), (aIc cI d1 8 (upd a_d1_55 (Int32.toNatClampNeg (nI i55)) v9))]) hP hD (fun hP hD => ?_)
                  obtain ⟨v10, ev10⟩ : ∃ y : Int32, y = (nI h3_55) + (-1) := ⟨_, rfl⟩
                  refine lv_iinc (v := v10) (lv' := [(3, .int v10), (4, .int (nI i55)), (2, .int (nI (HGT c0 du))), (0, .ref s2), (1, .int (nI du))]) hx hb dX2_divideInSteps_88 hl (k := 1) rfl (by rw [ev10]; rfl) (by decide) rfl (fun ls hl => ?_)
                  obtain rfl : v10 = nI (h3_55 - 1) := by rw [ev10]; exact pm1 (by omega)
                  refine lv_iinc (v := (nI (i55 + 1))) (lv' := [(4, .int (nI (i55 + 1))), (3, .int (nI (h3_55 - 1))), (2, .int (nI (HGT c0 du))), (0, .ref s2), (1, .int (nI du))]) hx hb dX2_divideInSteps_91 hl (k := 1) rfl (nI_1 _) (by decide) rfl (fun ls hl => ?_)
                  refine lv_goto (tgt := 55) hx hb dX2_divideInSteps_94 (by decide) ?_
                  have hcs9 : cnt c0 (HGT c0 du) (i55 + 1) = cnt c0 (HGT c0 du) i55 + (if HGT c0 du < c0 i55 then 1 else 0) := cnt_s
                  rw [if_pos (by omega)] at hcs9
                  exact ih55 (i55 + 1) (h3_55 - 1) (upd a_d1_55 (Int32.toNatClampNeg (nI i55)) v9) (by omega) (si_yes (by omega) hsi_55 ⟨by omega, by omega⟩ ev8 ev9) (by omega) (by omega) _ _ _ hP hD hS (lv_sub hl [0, 1, 2, 3, 4] rfl)
        exact J55 _ 0 h3_11 a_d1_11 (by omega) (si_0 (fun k hk => hmn_11 k hk)) (by show h3_11 = h3_11 - min h3_11 0; omega) (Nat.lt_succ_self _) _ _ _ hP hD hS (lv_sub hl [0, 1, 2, 3, 4] rfl)
      · skip
        have nc3 : ¬ 8 ≤ i11 := fun q9 => c3 ((nI_leI (a := 8) (b := i11) (by omega) (by omega)).mpr q9)
        refine lv_aload_n hx hb dX2_divideInSteps_18 rfl (lv_at hl 3 rfl) ?_
        refine va_get (D := D) (ci := 2) (v := .ref d1) (C := RX2) (T := TX2) (N := 3) hx hb hts hiX2 hown hE.1 hP 0 rfl rfl 1 (by decide) (hts _ (List.mem_cons_of_mem _ wd_89)) (fun _ h9 => h9) rfl dX2_divideInSteps_19 ?_
        refine lv_iload hx hb dX2_divideInSteps_22 (lv_at hl 0 rfl) ?_
        refine lv_aload_n hx hb dX2_divideInSteps_24 rfl (lv_at hl 3 rfl) ?_
        refine va_get (D := D) (ci := 2) (v := .ref d0) (C := RX2) (T := TX2) (N := 3) hx hb hts hiX2 hown hE.1 hP 0 rfl rfl 0 (by decide) (hts _ (List.mem_cons_of_mem _ wd_88)) (fun _ h9 => h9) rfl dX2_divideInSteps_25 ?_
        refine lv_iload hx hb dX2_divideInSteps_28 (lv_at hl 0 rfl) ?_
        refine va_iald hx hb hE.1 hP 1 0 rfl rfl (vp_in_nI (n := i11) (by omega) (by decide)) dX2_divideInSteps_30 ?_
        refine lv_topi (fun v11 ev11 => ?_)
        have hcb_ := hcb i11 (by omega)
        obtain rfl : v11 = nI (c0 i11) := ev11.trans (nv_at hcv (by omega))
        refine lv_iload_n hx hb dX2_divideInSteps_31 rfl (lv_at hl 2 rfl) ?_
        refine va_mmin hx hb (by rw [hml]; exact hl.1.symm) hown (hts _ (List.mem_cons_of_mem _ wd_385)) (hts _ (List.mem_cons_of_mem _ wd_327)) (hts _ (List.mem_cons_of_mem _ wd_324)) (hts _ (List.mem_cons_of_mem _ wd_328)) (Nat.le_of_ble_eq_true rfl) (Nat.le_of_ble_eq_true rfl) (Nat.le_of_ble_eq_true rfl) (Nat.le_of_ble_eq_true rfl) dX2_divideInSteps_32 ?_
        refine lv_topi (fun v12 ev12 => ?_)
        obtain rfl : v12 = nI (min (c0 i11) (HGT c0 du)) := ev12.trans (min_if (by omega) (by omega))
        refine va_iast hx hb hE.1 hP hD hS 2 0 rfl rfl (vp_in_nI (n := i11) (by omega) (by decide)) dX2_divideInSteps_35 (fun H locs hP hD hS => ?_)
        refine k_re (w := [(oX2 s2 d0 d1 d2), (aIc cI d0 8 D0), (aIc cI d1 8 (upd a_d1_11 (Int32.toNatClampNeg (nI i11)) (nI (min (c0 i11) (HGT c0 du)))))]) hP hD (fun hP hD => ?_)
        refine lv_iload_n hx hb dX2_divideInSteps_36 rfl (lv_at hl 1 rfl) ?_
        refine lv_aload_n hx hb dX2_divideInSteps_37 rfl (lv_at hl 3 rfl) ?_
        refine va_get (D := D) (ci := 2) (v := .ref d1) (C := RX2) (T := TX2) (N := 3) hx hb hts hiX2 hown hE.1 hP 0 rfl rfl 1 (by decide) (hts _ (List.mem_cons_of_mem _ wd_89)) (fun _ h9 => h9) rfl dX2_divideInSteps_38 ?_
        refine lv_iload hx hb dX2_divideInSteps_41 (lv_at hl 0 rfl) ?_
        refine va_iald hx hb hE.1 hP 2 0 rfl rfl (vp_in_nI (n := i11) (by omega) (by decide)) dX2_divideInSteps_43 ?_
        refine lv_topi (fun v13 ev13 => ?_)
        obtain rfl : v13 = nI (min (c0 i11) (HGT c0 du)) := ev13.trans pk_us
        have hfl : sm (fun k => min (c0 k) (HGT c0 du)) (i11 + 1) ≤ du := Nat.le_trans (sm_mono _ (by omega)) hhs
        have hfs : sm (fun k => min (c0 k) (HGT c0 du)) (i11 + 1) = sm (fun k => min (c0 k) (HGT c0 du)) i11 + min (c0 i11) (HGT c0 du) := rfl
        refine lv_isub hx hb dX2_divideInSteps_44 ?_
        refine lv_topi (fun v14 ev14 => ?_)
        obtain rfl : v14 = nI (h3_11 - min (c0 i11) (HGT c0 du)) := by rw [ev14]; exact pk_sub (by omega)
        refine lv_istore_n (lv' := [(3, .int (nI (h3_11 - min (c0 i11) (HGT c0 du)))), (4, .int (nI i11)), (2, .int (nI (HGT c0 du))), (0, .ref s2), (1, .int (nI du))]) hx hb dX2_divideInSteps_45 rfl hl (by decide) rfl (fun ls hl => ?_)
        refine lv_iinc (v := (nI (i11 + 1))) (lv' := [(4, .int (nI (i11 + 1))), (3, .int (nI (h3_11 - min (c0 i11) (HGT c0 du)))), (2, .int (nI (HGT c0 du))), (0, .ref s2), (1, .int (nI du))]) hx hb dX2_divideInSteps_46 hl (k := 1) rfl (nI_1 _) (by decide) rfl (fun ls hl => ?_)
        refine lv_goto (tgt := 11) hx hb dX2_divideInSteps_49 (by decide) ?_
        exact ih11 (i11 + 1) (h3_11 - min (c0 i11) (HGT c0 du)) (upd a_d1_11 (Int32.toNatClampNeg (nI i11)) (nI (min (c0 i11) (HGT c0 du)))) (by omega) (mn_up (by omega) hmn_11) (hov_step hre_11 hfs hfl) (by omega) _ _ _ hP hD hS (lv_sub hl [0, 1, 2, 3, 4] rfl)
  exact J11 _ 0 du D1 (by omega) (fun k hk => absurd hk (Nat.not_lt_zero k)) rfl (Nat.lt_succ_self _) _ _ _ hP hD hS (lv_sub hl [0, 1, 2, 3, 4] rfl)
set_option maxHeartbeats 4000000 in
set_option maxRecDepth 100000 in
theorem e_X2_divide (l : Launch) (D : va_G) (cI cJ : ClassId) (sz : Nat) (s2 d0 d1 d2 du : Nat) (ru : Int32) (D0 D1 : Nat → Int32) (D2 : Nat → Int64) (c0 : Nat → Nat) (hcv : nv D0 c0) (hcb : ∀ k, k < 8 → c0 k ≤ 1000000) (hdu : du ≤ sm c0 8) : Met l yX2_divide wtX2_divide { frames := 2, cells := 0, slots := 0, locals := 53 } (cPc D cI cJ [.ref s2, .int ru, .int (nI du)] sz [(oX2 s2 d0 d1 d2), (aIc cI d0 8 D0), (aIc cI d1 8 D1), (aJc cJ d2 8 D2)]) (cQv D (fun u => ∃ (D1p : Nat → Int32) (D2p : Nat → Int64), (∀ k, k < 8 → D1p k = nI (DIV ru c0 du k)) ∧ u = [(oX2 s2 d0 d1 d2), (aIc cI d0 8 D0), (aIc cI d1 8 D1p), (aJc cJ d2 8 D2p)]) (va_A [(oX2 s2 d0 d1 d2), (aIc cI d0 8 D0), (aIc cI d1 8 D1), (aJc cJ d2 8 D2)] sz)) 0 0 (va_A [(oX2 s2 d0 d1 d2), (aIc cI d0 8 D0), (aIc cI d1 8 D1), (aJc cJ d2 8 D2)] sz) := by
  refine k_ofW (Qc := cQv D (fun u => ∃ (D1p : Nat → Int32) (D2p : Nat → Int64), (∀ k, k < 8 → D1p k = nI (DIV ru c0 du k)) ∧ u = [(oX2 s2 d0 d1 d2), (aIc cI d0 8 D0), (aIc cI d1 8 D1p), (aJc cJ d2 8 D2p)])) (by decide) rfl (Nat.le_of_ble_eq_true rfl) ?_
  intro p e s m below meth c A ls hx hb hr hml hts hown hlk hnm hsz hE hP hD hS hA hl
  have hown : s.vm.findClass RX2 = some m.cls := hown
  have hl : lv_has ls 3 [(0, .ref s2), (1, .int ru), (2, .int (nI du))] := hl
  refine lv_iload_n hx hb dX2_divide_0 rfl (lv_at hl 1 rfl) ?_
  refine lv_if_ne (tgt := 12) hx hb dX2_divide_1 (by decide) (fun c1 => ?_) (fun c1 => ?_)
  · skip
    refine lv_aload_n hx hb dX2_divide_12 rfl (lv_at hl 0 rfl) ?_
    refine lv_iload_n hx hb dX2_divide_13 rfl (lv_at hl 2 rfl) ?_
    refine k_v (va_runV (As := [.int (nI du)]) (rest := []) ⟨hx, hb, hml, hown, hts⟩ (e_X2_divideInSteps l D cI cJ (s.heap).size s2 d0 d1 d2 du D0 D1 c0 hcv hcb hdu) (cwV 1 hts gX2_divide_X2_divideInSteps rfl rfl rfl (by decide +kernel) ⟨Nat.le_of_ble_eq_true rfl, Nat.le_of_ble_eq_true rfl⟩) (k_preV hE hP hD [0, 1, 2] (by decide +kernel) rfl 0 rfl rfl) rfl rfl hl.1 rfl (lv_room (Nat.le_of_ble_eq_true rfl)) dX2_divide_14 ⟨Nat.le_of_ble_eq_true rfl, Nat.le_of_ble_eq_true rfl⟩) hP hD hS hA [0, 1, 2] [3] rfl (wr := [(aJc cJ d2 8 D2)]) rfl (by decide +kernel) (by decide +kernel) (fun u H locs hw2 hP hD hS => ?_)
    obtain ⟨z3, hz4, rfl⟩ := hw2
    refine k_re (w := [(aJc cJ d2 8 D2), (oX2 s2 d0 d1 d2), (aIc cI d0 8 D0), (aIc cI d1 8 z3)]) hP hD (fun hP hD => ?_)
    refine k_vret (u := [(oX2 s2 d0 d1 d2), (aIc cI d0 8 D0), (aIc cI d1 8 z3), (aJc cJ d2 8 D2)]) hx hb hr hlk (k_sub hP [1, 2, 3, 0] rfl) (hD.sub [1, 2, 3, 0] (by decide +kernel) rfl) hS dX2_divide_17 ?_
    exact ⟨z3, D2, (fun k hk => by rw [hz4 k hk, div_st c1 hk]), rfl⟩
  · skip
    refine lv_aload_n hx hb dX2_divide_4 rfl (lv_at hl 0 rfl) ?_
    refine lv_iload_n hx hb dX2_divide_5 rfl (lv_at hl 2 rfl) ?_
    refine k_v (va_runV (As := [.int (nI du)]) (rest := []) ⟨hx, hb, hml, hown, hts⟩ (e_X2_divideByCaps l D cI cJ (s.heap).size s2 d0 d1 d2 du D0 D1 D2 c0 hcv hcb hdu) (cwV 1 hts gX2_divide_X2_divideByCaps rfl rfl rfl (by decide +kernel) ⟨Nat.le_of_ble_eq_true rfl, Nat.le_of_ble_eq_true rfl⟩) (k_preV hE hP hD [0, 1, 2, 3] (by decide +kernel) rfl 0 rfl rfl) rfl rfl hl.1 rfl (lv_room (Nat.le_of_ble_eq_true rfl)) dX2_divide_6 ⟨Nat.le_of_ble_eq_true rfl, Nat.le_of_ble_eq_true rfl⟩) hP hD hS hA [0, 1, 2, 3] [] rfl (wr := []) rfl (by decide +kernel) (by decide +kernel) (fun u H locs hw5 hP hD hS => ?_)
    obtain ⟨z6, z7, hz8, rfl⟩ := hw5
    refine k_re (w := [(oX2 s2 d0 d1 d2), (aIc cI d0 8 D0), (aIc cI d1 8 z6), (aJc cJ d2 8 z7)]) hP hD (fun hP hD => ?_)
    refine lv_goto (tgt := 17) hx hb dX2_divide_9 (by decide) ?_
    refine k_vret (u := [(oX2 s2 d0 d1 d2), (aIc cI d0 8 D0), (aIc cI d1 8 z6), (aJc cJ d2 8 z7)]) hx hb hr hlk hP hD hS dX2_divide_17 ?_
    exact ⟨z6, z7, (fun k hk => by rw [hz8 k hk, div_ct c1]), rfl⟩

