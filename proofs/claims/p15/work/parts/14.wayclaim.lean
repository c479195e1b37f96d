theorem dX5_measure_0 : decode cX5_measure 0 = .ok (.aload_n 0, 1) := by decide +kernel
theorem dX5_measure_1 : decode cX5_measure 1 = .ok (.getfield 15, 3) := by decide +kernel
theorem dX5_measure_4 : decode cX5_measure 4 = .ok (.iconst (-1), 1) := by decide +kernel
theorem dX5_measure_5 : decode cX5_measure 5 = .ok (.invokestatic 30, 3) := by decide +kernel
theorem dX5_measure_8 : decode cX5_measure 8 = .ok (.aload_n 0, 1) := by decide +kernel
theorem dX5_measure_9 : decode cX5_measure 9 = .ok (.getfield 15, 3) := by decide +kernel
theorem dX5_measure_12 : decode cX5_measure 12 = .ok (.iload_n 2, 1) := by decide +kernel
theorem dX5_measure_13 : decode cX5_measure 13 = .ok (.iconst 0, 1) := by decide +kernel
theorem dX5_measure_14 : decode cX5_measure 14 = .ok (.iastore, 1) := by decide +kernel
theorem dX5_measure_15 : decode cX5_measure 15 = .ok (.iconst 1, 1) := by decide +kernel
theorem dX5_measure_16 : decode cX5_measure 16 = .ok (.iload_n 2, 1) := by decide +kernel
theorem dX5_measure_17 : decode cX5_measure 17 = .ok (.ishl, 1) := by decide +kernel
theorem dX5_measure_18 : decode cX5_measure 18 = .ok (.istore_n 3, 1) := by decide +kernel
theorem dX5_measure_19 : decode cX5_measure 19 = .ok (.iconst 1, 1) := by decide +kernel
theorem dX5_measure_20 : decode cX5_measure 20 = .ok (.istore 4, 2) := by decide +kernel
theorem dX5_measure_22 : decode cX5_measure 22 = .ok (.iload 4, 2) := by decide +kernel
theorem dX5_measure_24 : decode cX5_measure 24 = .ok (.bipush 8, 2) := by decide +kernel
theorem dX5_measure_26 : decode cX5_measure 26 = .ok (.if_icmp .ge 67, 3) := by decide +kernel
theorem dX5_measure_29 : decode cX5_measure 29 = .ok (.iload_n 3, 1) := by decide +kernel
theorem dX5_measure_30 : decode cX5_measure 30 = .ok (.istore 5, 2) := by decide +kernel
theorem dX5_measure_32 : decode cX5_measure 32 = .ok (.iconst 0, 1) := by decide +kernel
theorem dX5_measure_33 : decode cX5_measure 33 = .ok (.istore 6, 2) := by decide +kernel
theorem dX5_measure_35 : decode cX5_measure 35 = .ok (.iload 6, 2) := by decide +kernel
theorem dX5_measure_37 : decode cX5_measure 37 = .ok (.bipush 8, 2) := by decide +kernel
theorem dX5_measure_39 : decode cX5_measure 39 = .ok (.if_icmp .ge 45, 3) := by decide +kernel
theorem dX5_measure_42 : decode cX5_measure 42 = .ok (.iload_n 3, 1) := by decide +kernel
theorem dX5_measure_43 : decode cX5_measure 43 = .ok (.iload 6, 2) := by decide +kernel
theorem dX5_measure_45 : decode cX5_measure 45 = .ok (.invokestatic 35, 3) := by decide +kernel
theorem dX5_measure_48 : decode cX5_measure 48 = .ok (.ifCond .ne 30, 3) := by decide +kernel
theorem dX5_measure_51 : decode cX5_measure 51 = .ok (.aload_n 1, 1) := by decide +kernel
theorem dX5_measure_52 : decode cX5_measure 52 = .ok (.iload 6, 2) := by decide +kernel
theorem dX5_measure_54 : decode cX5_measure 54 = .ok (.iaload, 1) := by decide +kernel
theorem dX5_measure_55 : decode cX5_measure 55 = .ok (.iload_n 3, 1) := by decide +kernel
theorem dX5_measure_56 : decode cX5_measure 56 = .ok (.iand, 1) := by decide +kernel
theorem dX5_measure_57 : decode cX5_measure 57 = .ok (.ifCond .eq 21, 3) := by decide +kernel
theorem dX5_measure_60 : decode cX5_measure 60 = .ok (.aload_n 0, 1) := by decide +kernel
theorem dX5_measure_61 : decode cX5_measure 61 = .ok (.getfield 15, 3) := by decide +kernel
theorem dX5_measure_64 : decode cX5_measure 64 = .ok (.iload 6, 2) := by decide +kernel
theorem dX5_measure_66 : decode cX5_measure 66 = .ok (.iload 4, 2) := by decide +kernel
theorem dX5_measure_68 : decode cX5_measure 68 = .ok (.iastore, 1) := by decide +kernel
theorem dX5_measure_69 : decode cX5_measure 69 = .ok (.iload 5, 2) := by decide +kernel
theorem dX5_measure_71 : decode cX5_measure 71 = .ok (.iconst 1, 1) := by decide +kernel
theorem dX5_measure_72 : decode cX5_measure 72 = .ok (.iload 6, 2) := by decide +kernel
theorem dX5_measure_74 : decode cX5_measure 74 = .ok (.ishl, 1) := by decide +kernel
theorem dX5_measure_75 : decode cX5_measure 75 = .ok (.ior, 1) := by decide +kernel
theorem dX5_measure_76 : decode cX5_measure 76 = .ok (.istore 5, 2) := by decide +kernel
theorem dX5_measure_78 : decode cX5_measure 78 = .ok (.iinc 6 1, 3) := by decide +kernel
theorem dX5_measure_81 : decode cX5_measure 81 = .ok (.goto (-46), 3) := by decide +kernel
theorem dX5_measure_84 : decode cX5_measure 84 = .ok (.iload 5, 2) := by decide +kernel
theorem dX5_measure_86 : decode cX5_measure 86 = .ok (.istore_n 3, 1) := by decide +kernel
theorem dX5_measure_87 : decode cX5_measure 87 = .ok (.iinc 4 1, 3) := by decide +kernel
theorem dX5_measure_90 : decode cX5_measure 90 = .ok (.goto (-68), 3) := by decide +kernel
theorem dX5_measure_93 : decode cX5_measure 93 = .ok (.return_, 1) := by decide +kernel
theorem gX5_measure_J7_fill_53178 : GoodIn wtX5_measure (va_wsS RX5 30 yJ7_fill_53178 wtJ7_fill_53178) := tb_good (tb_s0 wd_706 wd_73 wd_74 wd_75)
theorem gX5_measure_X7_has_n35 : GoodIn wtX5_measure (wtX7_has) := tb_good (tb_c0 wd_312)
set_option maxHeartbeats 4000000 in
set_option maxRecDepth 100000 in
theorem m_X5_measure (l : Launch) (D : va_G) (cI cJ : ClassId) (sz : Nat) (x2 y0 y1 w1 en : Nat) (W1 Y1 : Nat → Int32) (hen : en < 8) : Met l yX5_measure wtX5_measure { frames := 1, cells := 0, slots := 0, locals := 23 } (cPc D cI cJ [.ref x2, .ref w1, .int (nI en)] sz [(oX5 x2 y0 y1), (aIc cI w1 8 W1), (aIc cI y1 8 Y1)]) (cQv D (fun u => ∃ (Y1p : Nat → Int32), u = [(oX5 x2 y0 y1), (aIc cI w1 8 W1), (aIc cI y1 8 Y1p)]) (va_A [(oX5 x2 y0 y1), (aIc cI w1 8 W1), (aIc cI y1 8 Y1)] sz)) 0 0 (va_A [(oX5 x2 y0 y1), (aIc cI w1 8 W1), (aIc cI y1 8 Y1)] sz) := by
  refine k_ofW (Qc := cQv D (fun u => ∃ (Y1p : Nat → Int32), u = [(oX5 x2 y0 y1), (aIc cI w1 8 W1), (aIc cI y1 8 Y1p)])) (by decide) rfl (Nat.le_of_ble_eq_true rfl) ?_
  intro p e s m below meth c A ls hx hb hr hml hts hown hlk hnm hsz hE hP hD hS hA hl
  have hown : s.vm.findClass RX5 = some m.cls := hown
  have hiX5 : ∀ w ∈ u_ws RX5 TX5 2, w ∈ wtX5_measure := fun w h => List.mem_cons_of_mem _ (iuX5 w h)
  have hl : lv_has ls 7 [(0, .ref x2), (1, .ref w1), (2, .int (nI en))] := hl
  refine lv_aload_n hx hb dX5_measure_0 rfl (lv_at hl 0 rfl) ?_
  refine va_get (D := D) (ci := 5) (v := .ref y1) (C := RX5) (T := TX5) (N := 2) hx hb hts hiX5 hown hE.1 hP 0 rfl rfl 1 (by decide) (hts _ (List.mem_cons_of_mem _ wd_95)) (fun _ h9 => h9) rfl dX5_measure_1 ?_
  refine lv_iconst (v := (-1)) hx hb dX5_measure_4 (by decide) ?_
  refine k_v (va_runS (As := [.ref y1, .int (-1)]) (rest := []) ⟨hx, hb, hml, hown, hts⟩ (m_J7_fill l D cI cJ (s.heap).size y1 (-1) 8 Y1 (by decide)) (va_cwS 2 hts gX5_measure_J7_fill_53178 rfl rfl rfl (by decide +kernel) ⟨Nat.le_of_ble_eq_true rfl, Nat.le_of_ble_eq_true rfl⟩) (k_pre hE hP hD [2] (by decide +kernel) rfl) rfl rfl hl.1 rfl (lv_room (Nat.le_of_ble_eq_true rfl)) dX5_measure_5 ⟨Nat.le_of_ble_eq_true rfl, Nat.le_of_ble_eq_true rfl⟩) hP hD hS hA [2] [0, 1] rfl (wr := [(oX5 x2 y0 y1), (aIc cI w1 8 W1)]) rfl (by decide +kernel) (by decide +kernel) (fun u H locs hw1 hP hD hS => ?_)
  subst hw1
  refine k_re (w := [(oX5 x2 y0 y1), (aIc cI w1 8 W1), (aIc cI y1 8 (fl 8 (-1) Y1))]) hP hD (fun hP hD => ?_)
  refine lv_aload_n hx hb dX5_measure_8 rfl (lv_at hl 0 rfl) ?_
  refine va_get (D := D) (ci := 5) (v := .ref y1) (C := RX5) (T := TX5) (N := 2) hx hb hts hiX5 hown hE.1 hP 0 rfl rfl 1 (by decide) (hts _ (List.mem_cons_of_mem _ wd_95)) (fun _ h9 => h9) rfl dX5_measure_9 ?_
  refine lv_iload_n hx hb dX5_measure_12 rfl (lv_at hl 2 rfl) ?_
  refine lv_iconst (v := 0) hx hb dX5_measure_13 (by decide) ?_
  refine va_iast hx hb hE.1 hP hD hS 2 0 rfl rfl (vp_in_nI (n := en) (by omega) (by decide)) dX5_measure_14 (fun H locs hP hD hS => ?_)
  refine k_re (w := [(oX5 x2 y0 y1), (aIc cI w1 8 W1), (aIc cI y1 8 (upd (fl 8 (-1) Y1) (Int32.toNatClampNeg (nI en)) 0))]) hP hD (fun hP hD => ?_)
  refine lv_iconst (v := 1) hx hb dX5_measure_15 (by decide) ?_
  refine lv_iload_n hx hb dX5_measure_16 rfl (lv_at hl 2 rfl) ?_
  refine lv_ishl hx hb dX5_measure_17 ?_
  refine lv_topi (fun v2 ev2 => ?_)
  refine lv_istore_n (lv' := [(3, .int v2), (0, .ref x2), (1, .ref w1), (2, .int (nI en))]) hx hb dX5_measure_18 rfl hl (by decide) rfl (fun ls hl => ?_)
  refine lv_iconst (v := 1) hx hb dX5_measure_19 (by decide) ?_
  refine lv_istore (lv' := [(4, .int 1), (3, .int v2), (0, .ref x2), (1, .ref w1), (2, .int (nI en))]) hx hb dX5_measure_20 hl (by decide) rfl (fun ls hl => ?_)
  have J22 : ∀ (zz : Nat) (i22 : Nat) (h3_22 : Int32) (a_y1_22 : Nat → Int32), (i22 ≤ 8) → (8 - i22) < zz → ∀ (H : Heap) (locs : List Loc) (ls : Array Slot), va_P D vwCl [(oX5 x2 y0 y1), (aIc cI w1 8 W1), (aIc cI y1 8 a_y1_22)] H → va_D A [(oX5 x2 y0 y1), (aIc cI w1 8 W1), (aIc cI y1 8 a_y1_22)] → va_S A s.heap H locs → lv_has ls 7 [(4, .int (nI i22)), (3, .int h3_22), (0, .ref x2), (1, .ref w1), (2, .int (nI en))] → W p l e { frames := 1, cells := 0, slots := 0, locals := 23 } s m [.ref x2, .ref w1, .int (nI en)].toArray below meth c H locs 0 0 (MQ below (cQv D (fun u => ∃ (Y1p : Nat → Int32), u = [(oX5 x2 y0 y1), (aIc cI w1 8 W1), (aIc cI y1 8 Y1p)]) A) [.ref x2, .ref w1, .int (nI en)].toArray s 0 0 A) (F0 m 22 ls []) := by
    intro zz
    induction zz with
    | zero => intro i22 h3_22 a_y1_22 _; exact fun h => absurd h (Nat.not_lt_zero _)
    | succ zz ih22 =>
      intro i22 h3_22 a_y1_22 hc4_22 hmu22 H locs ls hP hD hS hl
      refine lv_iload hx hb dX5_measure_22 (lv_at hl 0 rfl) ?_
      refine lv_bipush (v := 8) hx hb dX5_measure_24 (by decide) ?_
      refine lv_icmp_ge (tgt := 93) hx hb dX5_measure_26 (by decide) (fun c3 => ?_) (fun c3 => ?_)
      · skip
        have nc3 : 8 ≤ i22 := (nI_leI (a := 8) (b := i22) (by omega) (by omega)).mp c3
        refine k_vret (u := [(oX5 x2 y0 y1), (aIc cI w1 8 W1), (aIc cI y1 8 a_y1_22)]) hx hb hr hlk hP hD hS dX5_measure_93 ?_
        exact ⟨a_y1_22, rfl⟩
      · skip
        have nc3 : ¬ 8 ≤ i22 := fun q9 => c3 ((nI_leI (a := 8) (b := i22) (by omega) (by omega)).mpr q9)
        refine lv_iload_n hx hb dX5_measure_29 rfl (lv_at hl 1 rfl) ?_
        refine lv_istore (lv' := [(5, .int h3_22), (4, .int (nI i22)), (3, .int h3_22), (0, .ref x2), (1, .ref w1), (2, .int (nI en))]) hx hb dX5_measure_30 hl (by decide) rfl (fun ls hl => ?_)
        refine lv_iconst (v := 0) hx hb dX5_measure_32 (by decide) ?_
        refine lv_istore (lv' := [(6, .int 0), (5, .int h3_22), (4, .int (nI i22)), (3, .int h3_22), (0, .ref x2), (1, .ref w1), (2, .int (nI en))]) hx hb dX5_measure_33 hl (by decide) rfl (fun ls hl => ?_)
        have J35 : ∀ (zz : Nat) (j35 : Nat) (h5_35 : Int32) (a_y1_35 : Nat → Int32), (j35 ≤ 8) → (8 - j35) < zz → ∀ (H : Heap) (locs : List Loc) (ls : Array Slot), va_P D vwCl [(oX5 x2 y0 y1), (aIc cI w1 8 W1), (aIc cI y1 8 a_y1_35)] H → va_D A [(oX5 x2 y0 y1), (aIc cI w1 8 W1), (aIc cI y1 8 a_y1_35)] → va_S A s.heap H locs → lv_has ls 7 [(6, .int (nI j35)), (5, .int h5_35), (4, .int (nI i22)), (3, .int h3_22), (0, .ref x2), (1, .ref w1), (2, .int (nI en))] → W p l e { frames := 1, cells := 0, slots := 0, locals := 23 } s m [.ref x2, .ref w1, .int (nI en)].toArray below meth c H locs 0 0 (MQ below (cQv D (fun u => ∃ (Y1p : Nat → Int32), u = [(oX5 x2 y0 y1), (aIc cI w1 8 W1), (aIc cI y1 8 Y1p)]) A) [.ref x2, .ref w1, .int (nI en)].toArray s 0 0 A) (F0 m 35 ls []) := by
          intro zz
          induction zz with
          | zero => intro j35 h5_35 a_y1_35 _; exact fun h => absurd h (Nat.not_lt_zero _)
          | succ zz ih35 =>
            intro j35 h5_35 a_y1_35 hc6_35 hmu35 H locs ls hP hD hS hl
            refine lv_iload hx hb dX5_measure_35 (lv_at hl 0 rfl) ?_
            refine lv_bipush (v := 8) hx hb dX5_measure_37 (by decide) ?_
            refine lv_icmp_ge (tgt := 84) hx hb dX5_measure_39 (by decide) (fun c4 => ?_) (fun c4 => ?_)
            · skip
              have nc4 : 8 ≤ j35 := (nI_leI (a := 8) (b := j35) (by omega) (by omega)).mp c4
              refine lv_iload hx hb dX5_measure_84 (lv_at hl 1 rfl) ?_
              refine lv_istore_n (lv' := [(3, .int h5_35), (6, .int (nI j35)), (5, .int h5_35), (4, .int (nI i22)), (0, .ref x2), (1, .ref w1), (2, .int (nI en))]) hx hb dX5_measure_86 rfl hl (by decide) rfl (fun ls hl => ?_)
              refine lv_iinc (v := (nI (i22 + 1))) (lv' := [(4, .int (nI (i22 + 1))), (3, .int h5_35), (6, .int (nI j35)), (5, .int h5_35), (0, .ref x2), (1, .ref w1), (2, .int (nI en))]) hx hb dX5_measure_87 hl (k := 3) rfl (nI_1 _) (by decide) rfl (fun ls hl => ?_)
              refine lv_goto (tgt := 22) hx hb dX5_measure_90 (by decide) ?_
              exact ih22 (i22 + 1) h5_35 a_y1_35 (by omega) (by omega) _ _ _ hP hD hS (lv_sub hl [0, 1, 4, 5, 6] rfl)
            · skip
              have nc4 : ¬ 8 ≤ j35 := fun q9 => c4 ((nI_leI (a := 8) (b := j35) (by omega) (by omega)).mpr q9)
              refine lv_iload_n hx hb dX5_measure_42 rfl (lv_at hl 3 rfl) ?_
              refine lv_iload hx hb dX5_measure_43 (lv_at hl 0 rfl) ?_
              refine k_iS (va_runSN (As := [.int h3_22, .int (nI j35)]) (rest := []) ⟨hx, hb, hml, hown, hts⟩ (m_X7_has l D cI cJ H.size h3_22 (nI j35)) ⟨va_cnB 2 hts gX5_measure_X7_has_n35 rfl rfl rfl (nwk7 hE.2) (hts _ (List.mem_cons_of_mem _ wd_2)) (by decide +kernel) ⟨Nat.le_of_ble_eq_true rfl, Nat.le_of_ble_eq_true rfl⟩, (hts _ (List.mem_cons_of_mem _ wd_311)), trivial⟩ (k_pre hE hP hD [] (by decide +kernel) rfl) rfl rfl hl.1 rfl (lv_room (Nat.le_of_ble_eq_true rfl)) dX5_measure_45 ⟨Nat.le_of_ble_eq_true rfl, Nat.le_of_ble_eq_true rfl⟩) hP hD hS hA [] rfl (fun _ _ h9 => h9.2) (fun r5 H locs hw6 hP hD hS => ?_)
              obtain ⟨hw6, -⟩ := hw6
              refine lv_if_ne (tgt := 78) hx hb dX5_measure_48 (by decide) (fun c7 => ?_) (fun c7 => ?_)
              · skip
                have hc7 : ¬ (h3_22 >>> ((nI j35) &&& 31)) &&& 1 = 0 := bz_1 hw6 c7
                refine lv_iinc (v := (nI (j35 + 1))) (lv' := [(6, .int (nI (j35 + 1))), (5, .int h5_35), (4, .int (nI i22)), (3, .int h3_22), (0, .ref x2), (1, .ref w1), (2, .int (nI en))]) hx hb dX5_measure_78 hl (k := 0) rfl (nI_1 _) (by decide) rfl (fun ls hl => ?_)
                refine lv_goto (tgt := 35) hx hb dX5_measure_81 (by decide) ?_
                exact ih35 (j35 + 1) h5_35 a_y1_35 (by omega) (by omega) _ _ _ hP hD hS (lv_sub hl [0, 1, 2, 3, 4, 5, 6] rfl)
              · skip
                have hc7 : ¬ (¬ (h3_22 >>> ((nI j35) &&& 31)) &&& 1 = 0) := bz_0 hw6 c7
                refine lv_aload_n hx hb dX5_measure_51 rfl (lv_at hl 5 rfl) ?_
                refine lv_iload hx hb dX5_measure_52 (lv_at hl 0 rfl) ?_
                refine va_iald hx hb hE.1 hP 1 0 rfl rfl (vp_in_nI (n := j35) (by omega) (by decide)) dX5_measure_54 ?_
                refine lv_topi (fun v8 ev8 => ?_)
                refine lv_iload_n hx hb dX5_measure_55 rfl (lv_at hl 3 rfl) ?_
                refine lv_iand hx hb dX5_measure_56 ?_
                refine lv_topi (fun v9 ev9 => ?_)
                refine lv_if_eq (tgt := 78) hx hb dX5_measure_57 (by decide) (fun c10 => ?_) (fun c10 => ?_)
                · skip
                  refine lv_iinc (v := (nI (j35 + 1))) (lv' := [(6, .int (nI (j35 + 1))), (5, .int h5_35), (4, .int (nI i22)), (3, .int h3_22), (0, .ref x2), (1, .ref w1), (2, .int (nI en))]) hx hb dX5_measure_78 hl (k := 0) rfl (nI_1 _) (by decide) rfl (fun ls hl => ?_)
                  refine lv_goto (tgt := 35) hx hb dX5_measure_81 (by decide) ?_
                  exact ih35 (j35 + 1) h5_35 a_y1_35 (by omega) (by omega) _ _ _ hP hD hS (lv_sub hl [0, 1, 2, 3, 4, 5, 6] rfl)
                · skip
                  refine lv_aload_n hx hb dX5_measure_60 rfl (lv_at hl 4 rfl) ?_
                  refine va_get (D := D) (ci := 5) (v := .ref y1) (C := RX5) (T := TX5) (N := 2) hx hb hts hiX5 hown hE.1 hP 0 rfl rfl 1 (by decide) (hts _ (List.mem_cons_of_mem _ wd_95)) (fun _ h9 => h9) rfl dX5_measure_61 ?_
                  refine lv_iload hx hb dX5_measure_64 (lv_at hl 0 rfl) ?_
                  refine lv_iload hx hb dX5_measure_66 (lv_at hl 2 rfl) ?_
                  refine va_iast hx hb hE.1 hP hD hS 2 0 rfl rfl (vp_in_nI (n := j35) (by omega) (by decide)) dX5_measure_68 (fun H locs hP hD hS => ?_)
                  refine k_re (w := [(oX5 x2 y0 y1), (aIc cI w1 8 W1), (aIc cI y1 8 (upd a_y1_35 (Int32.toNatClampNeg (nI j35)) (nI i22)))]) hP hD (fun hP hD => ?_)
                  refine lv_iload hx hb dX5_measure_69 (lv_at hl 1 rfl) ?_
                  refine lv_iconst (v := 1) hx hb dX5_measure_71 (by decide) ?_
                  refine lv_iload hx hb dX5_measure_72 (lv_at hl 0 rfl) ?_
                  refine lv_ishl hx hb dX5_measure_74 ?_
                  refine lv_topi (fun v11 ev11 => ?_)
                  refine lv_ior hx hb dX5_measure_75 ?_
                  refine lv_topi (fun v12 ev12 => ?_)
                  refine lv_istore (lv' := [(5, .int v12), (6, .int (nI j35)), (4, .int (nI i22)), (3, .int h3_22), (0, .ref x2), (1, .ref w1), (2, .int (nI en))]) hx hb dX5_measure_76 hl (by decide) rfl (fun ls hl => ?_)
                  refine lv_iinc (v := (nI (j35 + 1))) (lv' := [(6, .int (nI (j35 + 1))), (5, .int v12), (4, .int (nI i22)), (3, .int h3_22), (0, .ref x2), (1, .ref w1), (2, .int (nI en))]) hx hb dX5_measure_78 hl (k := 1) rfl (nI_1 _) (by decide) rfl (fun ls hl => ?_)
                  refine lv_goto (tgt := 35) hx hb dX5_measure_81 (by decide) ?_
                  exact ih35 (j35 + 1) v12 (upd a_y1_35 (Int32.toNatClampNeg (nI j35)) (nI i22)) (by omega) (by omega) _ _ _ hP hD hS (lv_sub hl [0, 1, 2, 3, 4, 5, 6] rfl)
        exact J35 _ 0 h3_22 a_y1_22 (by omega) (Nat.lt_succ_self _) _ _ _ hP hD hS (lv_sub hl [0, 1, 2, 3, 4, 5, 6] rfl)
  exact J22 _ 1 v2 (upd (fl 8 (-1) Y1) (Int32.toNatClampNeg (nI en)) 0) (by omega) (Nat.lt_succ_self _) _ _ _ hP hD hS (lv_sub hl [0, 1, 2, 3, 4] rfl)
theorem dX5_leastNearer_0 : decode cX5_leastNearer 0 = .ok (.iconst 0, 1) := by decide +kernel
theorem dX5_leastNearer_1 : decode cX5_leastNearer 1 = .ok (.istore_n 3, 1) := by decide +kernel
theorem dX5_leastNearer_2 : decode cX5_leastNearer 2 = .ok (.iload_n 3, 1) := by decide +kernel
theorem dX5_leastNearer_3 : decode cX5_leastNearer 3 = .ok (.bipush 8, 2) := by decide +kernel
theorem dX5_leastNearer_5 : decode cX5_leastNearer 5 = .ok (.if_icmp .ge 38, 3) := by decide +kernel
theorem dX5_leastNearer_8 : decode cX5_leastNearer 8 = .ok (.aload_n 1, 1) := by decide +kernel
theorem dX5_leastNearer_9 : decode cX5_leastNearer 9 = .ok (.iload_n 2, 1) := by decide +kernel
theorem dX5_leastNearer_10 : decode cX5_leastNearer 10 = .ok (.iaload, 1) := by decide +kernel
theorem dX5_leastNearer_11 : decode cX5_leastNearer 11 = .ok (.iload_n 3, 1) := by decide +kernel
theorem dX5_leastNearer_12 : decode cX5_leastNearer 12 = .ok (.invokestatic 35, 3) := by decide +kernel
theorem dX5_leastNearer_15 : decode cX5_leastNearer 15 = .ok (.ifCond .eq 22, 3) := by decide +kernel
theorem dX5_leastNearer_18 : decode cX5_leastNearer 18 = .ok (.aload_n 0, 1) := by decide +kernel
theorem dX5_leastNearer_19 : decode cX5_leastNearer 19 = .ok (.getfield 15, 3) := by decide +kernel
theorem dX5_leastNearer_22 : decode cX5_leastNearer 22 = .ok (.iload_n 3, 1) := by decide +kernel
theorem dX5_leastNearer_23 : decode cX5_leastNearer 23 = .ok (.iaload, 1) := by decide +kernel
theorem dX5_leastNearer_24 : decode cX5_leastNearer 24 = .ok (.aload_n 0, 1) := by decide +kernel
theorem dX5_leastNearer_25 : decode cX5_leastNearer 25 = .ok (.getfield 15, 3) := by decide +kernel
theorem dX5_leastNearer_28 : decode cX5_leastNearer 28 = .ok (.iload_n 2, 1) := by decide +kernel
theorem dX5_leastNearer_29 : decode cX5_leastNearer 29 = .ok (.iaload, 1) := by decide +kernel
theorem dX5_leastNearer_30 : decode cX5_leastNearer 30 = .ok (.iconst 1, 1) := by decide +kernel
theorem dX5_leastNearer_31 : decode cX5_leastNearer 31 = .ok (.isub, 1) := by decide +kernel
theorem dX5_leastNearer_32 : decode cX5_leastNearer 32 = .ok (.if_icmp .ne 5, 3) := by decide +kernel
theorem dX5_leastNearer_35 : decode cX5_leastNearer 35 = .ok (.iload_n 3, 1) := by decide +kernel
theorem dX5_leastNearer_36 : decode cX5_leastNearer 36 = .ok (.ireturn, 1) := by decide +kernel
theorem dX5_leastNearer_37 : decode cX5_leastNearer 37 = .ok (.iinc 3 1, 3) := by decide +kernel
theorem dX5_leastNearer_40 : decode cX5_leastNearer 40 = .ok (.goto (-38), 3) := by decide +kernel
theorem dX5_leastNearer_43 : decode cX5_leastNearer 43 = .ok (.iload_n 2, 1) := by decide +kernel
theorem dX5_leastNearer_44 : decode cX5_leastNearer 44 = .ok (.ireturn, 1) := by decide +kernel
theorem gX5_leastNearer_X7_has_n35 : GoodIn wtX5_leastNearer (wtX7_has) := tb_good (tb_c0 wd_312)
set_option maxHeartbeats 4000000 in
set_option maxRecDepth 100000 in
theorem m_X5_leastNearer (l : Launch) (D : va_G) (cI cJ : ClassId) (sz : Nat) (x2 y0 y1 w1 a0 : Nat) (W1 Y1 : Nat → Int32) (ha : a0 < 8) : Met l yX5_leastNearer wtX5_leastNearer { frames := 1, cells := 0, slots := 0, locals := 21 } (cPc D cI cJ [.ref x2, .ref w1, .int (nI a0)] sz [(oX5 x2 y0 y1), (aIc cI w1 8 W1), (aIc cI y1 8 Y1)]) (cQi D (fun r u => ∃ (k : Nat), (k < 8) ∧ r = (nI k) ∧ u = [(oX5 x2 y0 y1), (aIc cI w1 8 W1), (aIc cI y1 8 Y1)]) (va_A [(oX5 x2 y0 y1), (aIc cI w1 8 W1), (aIc cI y1 8 Y1)] sz)) 0 0 (va_A [(oX5 x2 y0 y1), (aIc cI w1 8 W1), (aIc cI y1 8 Y1)] sz) := by
  refine k_ofW (Qc := cQi D (fun r u => ∃ (k : Nat), (k < 8) ∧ r = (nI k) ∧ u = [(oX5 x2 y0 y1), (aIc cI w1 8 W1), (aIc cI y1 8 Y1)])) (by decide) rfl (Nat.le_of_ble_eq_true rfl) ?_
  intro p e s m below meth c A ls hx hb hr hml hts hown hlk hnm hsz hE hP hD hS hA hl
  have hown : s.vm.findClass RX5 = some m.cls := hown
  have hiX5 : ∀ w ∈ u_ws RX5 TX5 2, w ∈ wtX5_leastNearer := fun w h => List.mem_cons_of_mem _ (iuX5 w h)
  have hl : lv_has ls 4 [(0, .ref x2), (1, .ref w1), (2, .int (nI a0))] := hl
  refine lv_iconst (v := 0) hx hb dX5_leastNearer_0 (by decide) ?_
  refine lv_istore_n (lv' := [(3, .int 0), (0, .ref x2), (1, .ref w1), (2, .int (nI a0))]) hx hb dX5_leastNearer_1 rfl hl (by decide) rfl (fun ls hl => ?_)
  have J2 : ∀ (zz : Nat) (i2 : Nat), (i2 ≤ 8) → (8 - i2) < zz → ∀ (H : Heap) (locs : List Loc) (ls : Array Slot), va_P D vwCl [(oX5 x2 y0 y1), (aIc cI w1 8 W1), (aIc cI y1 8 Y1)] H → va_D A [(oX5 x2 y0 y1), (aIc cI w1 8 W1), (aIc cI y1 8 Y1)] → va_S A s.heap H locs → lv_has ls 4 [(3, .int (nI i2)), (0, .ref x2), (1, .ref w1), (2, .int (nI a0))] → W p l e { frames := 1, cells := 0, slots := 0, locals := 21 } s m [.ref x2, .ref w1, .int (nI a0)].toArray below meth c H locs 0 0 (MQ below (cQi D (fun r u => ∃ (k : Nat), (k < 8) ∧ r = (nI k) ∧ u = [(oX5 x2 y0 y1), (aIc cI w1 8 W1), (aIc cI y1 8 Y1)]) A) [.ref x2, .ref w1, .int (nI a0)].toArray s 0 0 A) (F0 m 2 ls []) := by
    intro zz
    induction zz with
    | zero => intro i2 _; exact fun h => absurd h (Nat.not_lt_zero _)
    | succ zz ih2 =>
      intro i2 hc3_2 hmu2 H locs ls hP hD hS hl
      refine lv_iload_n hx hb dX5_leastNearer_2 rfl (lv_at hl 0 rfl) ?_
      refine lv_bipush (v := 8) hx hb dX5_leastNearer_3 (by decide) ?_
      refine lv_icmp_ge (tgt := 43) hx hb dX5_leastNearer_5 (by decide) (fun c1 => ?_) (fun c1 => ?_)
      · skip
        have nc1 : 8 ≤ i2 := (nI_leI (a := 8) (b := i2) (by omega) (by omega)).mp c1
        refine lv_iload_n hx hb dX5_leastNearer_43 rfl (lv_at hl 3 rfl) ?_
        refine k_iret (u := [(oX5 x2 y0 y1), (aIc cI w1 8 W1), (aIc cI y1 8 Y1)]) hx hb hr hlk hP hD hS dX5_leastNearer_44 ?_
        exact ⟨a0, (by omega), rfl, rfl⟩
      · skip
        have nc1 : ¬ 8 ≤ i2 := fun q9 => c1 ((nI_leI (a := 8) (b := i2) (by omega) (by omega)).mpr q9)
        refine lv_aload_n hx hb dX5_leastNearer_8 rfl (lv_at hl 2 rfl) ?_
        refine lv_iload_n hx hb dX5_leastNearer_9 rfl (lv_at hl 3 rfl) ?_
        refine va_iald hx hb hE.1 hP 1 0 rfl rfl (vp_in_nI (n := a0) (by omega) (by decide)) dX5_leastNearer_10 ?_
        refine lv_topi (fun v2 ev2 => ?_)
        refine lv_iload_n hx hb dX5_leastNearer_11 rfl (lv_at hl 0 rfl) ?_
        refine k_iS (va_runSN (As := [.int v2, .int (nI i2)]) (rest := []) ⟨hx, hb, hml, hown, hts⟩ (m_X7_has l D cI cJ H.size v2 (nI i2)) ⟨va_cnB 2 hts gX5_leastNearer_X7_has_n35 rfl rfl rfl (nwk7 hE.2) (hts _ (List.mem_cons_of_mem _ wd_2)) (by decide +kernel) ⟨Nat.le_of_ble_eq_true rfl, Nat.le_of_ble_eq_true rfl⟩, (hts _ (List.mem_cons_of_mem _ wd_311)), trivial⟩ (k_pre hE hP hD [] (by decide +kernel) rfl) rfl rfl hl.1 rfl (lv_room (Nat.le_of_ble_eq_true rfl)) dX5_leastNearer_12 ⟨Nat.le_of_ble_eq_true rfl, Nat.le_of_ble_eq_true rfl⟩) hP hD hS hA [] rfl (fun _ _ h9 => h9.2) (fun r3 H locs hw4 hP hD hS => ?_)
        obtain ⟨hw4, -⟩ := hw4
        refine lv_if_eq (tgt := 37) hx hb dX5_leastNearer_15 (by decide) (fun c5 => ?_) (fun c5 => ?_)
        · skip
          have hc5 : ¬ (¬ (v2 >>> ((nI i2) &&& 31)) &&& 1 = 0) := bz_0 hw4 c5
          refine lv_iinc (v := (nI (i2 + 1))) (lv' := [(3, .int (nI (i2 + 1))), (0, .ref x2), (1, .ref w1), (2, .int (nI a0))]) hx hb dX5_leastNearer_37 hl (k := 0) rfl (nI_1 _) (by decide) rfl (fun ls hl => ?_)
          refine lv_goto (tgt := 2) hx hb dX5_leastNearer_40 (by decide) ?_
          exact ih2 (i2 + 1) (by omega) (by omega) _ _ _ hP hD hS (lv_sub hl [0, 1, 2, 3] rfl)
        · skip
          have hc5 : ¬ (v2 >>> ((nI i2) &&& 31)) &&& 1 = 0 := bz_1 hw4 c5
          refine lv_aload_n hx hb dX5_leastNearer_18 rfl (lv_at hl 1 rfl) ?_
          refine va_get (D := D) (ci := 5) (v := .ref y1) (C := RX5) (T := TX5) (N := 2) hx hb hts hiX5 hown hE.1 hP 0 rfl rfl 1 (by decide) (hts _ (List.mem_cons_of_mem _ wd_95)) (fun _ h9 => h9) rfl dX5_leastNearer_19 ?_
          refine lv_iload_n hx hb dX5_leastNearer_22 rfl (lv_at hl 0 rfl) ?_
          refine va_iald hx hb hE.1 hP 2 0 rfl rfl (vp_in_nI (n := i2) (by omega) (by decide)) dX5_leastNearer_23 ?_
          refine lv_topi (fun v6 ev6 => ?_)
          refine lv_aload_n hx hb dX5_leastNearer_24 rfl (lv_at hl 1 rfl) ?_
          refine va_get (D := D) (ci := 5) (v := .ref y1) (C := RX5) (T := TX5) (N := 2) hx hb hts hiX5 hown hE.1 hP 0 rfl rfl 1 (by decide) (hts _ (List.mem_cons_of_mem _ wd_95)) (fun _ h9 => h9) rfl dX5_leastNearer_25 ?_
          refine lv_iload_n hx hb dX5_leastNearer_28 rfl (lv_at hl 3 rfl) ?_
          refine va_iald hx hb hE.1 hP 2 0 rfl rfl (vp_in_nI (n := a0) (by omega) (by decide)) dX5_leastNearer_29 ?_
          refine lv_topi (fun v7 ev7 => ?_)
          refine lv_iconst (v := 1) hx hb dX5_leastNearer_30 (by decide) ?_
          refine lv_isub hx hb dX5_leastNearer_31 ?_
          refine lv_topi (fun v8 ev8 => ?_)
          refine lv_icmp_ne (tgt := 37) hx hb dX5_leastNearer_32 (by decide) (fun c9 => ?_) (fun c9 => ?_)
          · skip
            refine lv_iinc (v := (nI (i2 + 1))) (lv' := [(3, .int (nI (i2 + 1))), (0, .ref x2), (1, .ref w1), (2, .int (nI a0))]) hx hb dX5_leastNearer_37 hl (k := 0) rfl (nI_1 _) (by decide) rfl (fun ls hl => ?_)
            refine lv_goto (tgt := 2) hx hb dX5_leastNearer_40 (by decide) ?_
            exact ih2 (i2 + 1) (by omega) (by omega) _ _ _ hP hD hS (lv_sub hl [0, 1, 2, 3] rfl)
          · skip
            refine lv_iload_n hx hb dX5_leastNearer_35 rfl (lv_at hl 0 rfl) ?_
            refine k_iret (u := [(oX5 x2 y0 y1), (aIc cI w1 8 W1), (aIc cI y1 8 Y1)]) hx hb hr hlk hP hD hS dX5_leastNearer_36 ?_
            exact ⟨i2, (by omega), rfl, rfl⟩
  exact J2 _ 0 (by omega) (Nat.lt_succ_self _) _ _ _ hP hD hS (lv_sub hl [0, 1, 2, 3] rfl)
theorem dX5_find_0 : decode cX5_find 0 = .ok (.aload_n 0, 1) := by decide +kernel
theorem dX5_find_1 : decode cX5_find 1 = .ok (.aload_n 1, 1) := by decide +kernel
theorem dX5_find_2 : decode cX5_find 2 = .ok (.iload_n 3, 1) := by decide +kernel
theorem dX5_find_3 : decode cX5_find 3 = .ok (.invokevirtual 18, 3) := by decide +kernel
theorem dX5_find_6 : decode cX5_find 6 = .ok (.aload_n 0, 1) := by decide +kernel
theorem dX5_find_7 : decode cX5_find 7 = .ok (.getfield 15, 3) := by decide +kernel
theorem dX5_find_10 : decode cX5_find 10 = .ok (.iload_n 2, 1) := by decide +kernel
theorem dX5_find_11 : decode cX5_find 11 = .ok (.iaload, 1) := by decide +kernel
theorem dX5_find_12 : decode cX5_find 12 = .ok (.iconst 1, 1) := by decide +kernel
theorem dX5_find_13 : decode cX5_find 13 = .ok (.bipush 7, 2) := by decide +kernel
theorem dX5_find_15 : decode cX5_find 15 = .ok (.invokestatic 22, 3) := by decide +kernel
theorem dX5_find_18 : decode cX5_find 18 = .ok (.ifCond .ne 5, 3) := by decide +kernel
theorem dX5_find_21 : decode cX5_find 21 = .ok (.iconst 0, 1) := by decide +kernel
theorem dX5_find_22 : decode cX5_find 22 = .ok (.ireturn, 1) := by decide +kernel
theorem dX5_find_23 : decode cX5_find 23 = .ok (.iload_n 2, 1) := by decide +kernel
theorem dX5_find_24 : decode cX5_find 24 = .ok (.istore 4, 2) := by decide +kernel
theorem dX5_find_26 : decode cX5_find 26 = .ok (.aload_n 0, 1) := by decide +kernel
theorem dX5_find_27 : decode cX5_find 27 = .ok (.getfield 9, 3) := by decide +kernel
theorem dX5_find_30 : decode cX5_find 30 = .ok (.iconst 0, 1) := by decide +kernel
theorem dX5_find_31 : decode cX5_find 31 = .ok (.iload_n 2, 1) := by decide +kernel
theorem dX5_find_32 : decode cX5_find 32 = .ok (.iastore, 1) := by decide +kernel
theorem dX5_find_33 : decode cX5_find 33 = .ok (.iconst 1, 1) := by decide +kernel
theorem dX5_find_34 : decode cX5_find 34 = .ok (.istore 5, 2) := by decide +kernel
theorem dX5_find_36 : decode cX5_find 36 = .ok (.iload 5, 2) := by decide +kernel
theorem dX5_find_38 : decode cX5_find 38 = .ok (.aload_n 0, 1) := by decide +kernel
theorem dX5_find_39 : decode cX5_find 39 = .ok (.getfield 15, 3) := by decide +kernel
theorem dX5_find_42 : decode cX5_find 42 = .ok (.iload_n 2, 1) := by decide +kernel
theorem dX5_find_43 : decode cX5_find 43 = .ok (.iaload, 1) := by decide +kernel
theorem dX5_find_44 : decode cX5_find 44 = .ok (.if_icmp .gt 27, 3) := by decide +kernel
theorem dX5_find_47 : decode cX5_find 47 = .ok (.aload_n 0, 1) := by decide +kernel
theorem dX5_find_48 : decode cX5_find 48 = .ok (.aload_n 1, 1) := by decide +kernel
theorem dX5_find_49 : decode cX5_find 49 = .ok (.iload 4, 2) := by decide +kernel
theorem dX5_find_51 : decode cX5_find 51 = .ok (.invokevirtual 26, 3) := by decide +kernel
theorem dX5_find_54 : decode cX5_find 54 = .ok (.istore 4, 2) := by decide +kernel
theorem dX5_find_56 : decode cX5_find 56 = .ok (.aload_n 0, 1) := by decide +kernel
theorem dX5_find_57 : decode cX5_find 57 = .ok (.getfield 9, 3) := by decide +kernel
theorem dX5_find_60 : decode cX5_find 60 = .ok (.iload 5, 2) := by decide +kernel
theorem dX5_find_62 : decode cX5_find 62 = .ok (.iload 4, 2) := by decide +kernel
theorem dX5_find_64 : decode cX5_find 64 = .ok (.iastore, 1) := by decide +kernel
theorem dX5_find_65 : decode cX5_find 65 = .ok (.iinc 5 1, 3) := by decide +kernel
theorem dX5_find_68 : decode cX5_find 68 = .ok (.goto (-32), 3) := by decide +kernel
theorem dX5_find_71 : decode cX5_find 71 = .ok (.aload_n 0, 1) := by decide +kernel
theorem dX5_find_72 : decode cX5_find 72 = .ok (.getfield 15, 3) := by decide +kernel
theorem dX5_find_75 : decode cX5_find 75 = .ok (.iload_n 2, 1) := by decide +kernel
theorem dX5_find_76 : decode cX5_find 76 = .ok (.iaload, 1) := by decide +kernel
theorem dX5_find_77 : decode cX5_find 77 = .ok (.iconst 1, 1) := by decide +kernel
theorem dX5_find_78 : decode cX5_find 78 = .ok (.iadd, 1) := by decide +kernel
theorem dX5_find_79 : decode cX5_find 79 = .ok (.ireturn, 1) := by decide +kernel
theorem gX5_find_X5_leastNearer : GoodIn wtX5_find (wsV RX5 26 RX5 yX5_leastNearer wtX5_leastNearer) := tb_good (tb_v0 wd_707 wd_708 wd_709 wd_22 wd_710)
theorem gX5_find_X5_measure : GoodIn wtX5_find (wsV RX5 18 RX5 yX5_measure wtX5_measure) := tb_good (tb_v0 wd_702 wd_703 wd_704 wd_22 wd_705)
theorem gX5_find_X7_within_n22 : GoodIn wtX5_find (wtX7_within) := tb_good (tb_c0 wd_166)
set_option maxHeartbeats 4000000 in
set_option maxRecDepth 100000 in
theorem m_X5_find (l : Launch) (D : va_G) (cI cJ : ClassId) (sz : Nat) (x2 y0 y1 w1 one oth : Nat) (W1 Y0 Y1 : Nat → Int32) (ho : one < 8) (hot : oth < 8) : Met l yX5_find wtX5_find { frames := 2, cells := 0, slots := 0, locals := 49 } (cPc D cI cJ [.ref x2, .ref w1, .int (nI one), .int (nI oth)] sz [(oX5 x2 y0 y1), (aIc cI w1 8 W1), (aIc cI y0 8 Y0), (aIc cI y1 8 Y1)]) (cQi D (fun r u => ∃ (k : Nat) (Y0p Y1p : Nat → Int32), (k ≤ 8) ∧ r = (nI k) ∧ u = [(oX5 x2 y0 y1), (aIc cI w1 8 W1), (aIc cI y0 8 Y0p), (aIc cI y1 8 Y1p)]) (va_A [(oX5 x2 y0 y1), (aIc cI w1 8 W1), (aIc cI y0 8 Y0), (aIc cI y1 8 Y1)] sz)) 0 0 (va_A [(oX5 x2 y0 y1), (aIc cI w1 8 W1), (aIc cI y0 8 Y0), (aIc cI y1 8 Y1)] sz) := by
  refine k_ofW (Qc := cQi D (fun r u => ∃ (k : Nat) (Y0p Y1p : Nat → Int32), (k ≤ 8) ∧ r = (nI k) ∧ u = [(oX5 x2 y0 y1), (aIc cI w1 8 W1), (aIc cI y0 8 Y0p), (aIc cI y1 8 Y1p)])) (by decide) rfl (Nat.le_of_ble_eq_true rfl) ?_
  intro p e s m below meth c A ls hx hb hr hml hts hown hlk hnm hsz hE hP hD hS hA hl
  have hown : s.vm.findClass RX5 = some m.cls := hown
  have hiX5 : ∀ w ∈ u_ws RX5 TX5 2, w ∈ wtX5_find := fun w h => List.mem_cons_of_mem _ (iuX5 w h)
  have hl : lv_has ls 6 [(0, .ref x2), (1, .ref w1), (2, .int (nI one)), (3, .int (nI oth))] := hl
  refine lv_aload_n hx hb dX5_find_0 rfl (lv_at hl 0 rfl) ?_
  refine lv_aload_n hx hb dX5_find_1 rfl (lv_at hl 1 rfl) ?_
  refine lv_iload_n hx hb dX5_find_2 rfl (lv_at hl 3 rfl) ?_
  refine k_v (va_runV (As := [.ref w1, .int (nI oth)]) (rest := []) ⟨hx, hb, hml, hown, hts⟩ (m_X5_measure l D cI cJ (s.heap).size x2 y0 y1 w1 oth W1 Y1 (by omega)) (cwV 2 hts gX5_find_X5_measure rfl rfl rfl (by decide +kernel) ⟨Nat.le_of_ble_eq_true rfl, Nat.le_of_ble_eq_true rfl⟩) (k_preV hE hP hD [0, 1, 3] (by decide +kernel) rfl 0 rfl rfl) rfl rfl hl.1 rfl (lv_room (Nat.le_of_ble_eq_true rfl)) dX5_find_3 ⟨Nat.le_of_ble_eq_true rfl, Nat.le_of_ble_eq_true rfl⟩) hP hD hS hA [0, 1, 3] [2] rfl (wr := [(aIc cI y0 8 Y0)]) rfl (by decide +kernel) (by decide +kernel) (fun u H locs hw1 hP hD hS => ?_)
  obtain ⟨z2, rfl⟩ := hw1
  refine k_re (w := [(aIc cI y0 8 Y0), (oX5 x2 y0 y1), (aIc cI w1 8 W1), (aIc cI y1 8 z2)]) hP hD (fun hP hD => ?_)
  refine lv_aload_n hx hb dX5_find_6 rfl (lv_at hl 0 rfl) ?_
  refine va_get (D := D) (ci := 5) (v := .ref y1) (C := RX5) (T := TX5) (N := 2) hx hb hts hiX5 hown hE.1 hP 1 rfl rfl 1 (by decide) (hts _ (List.mem_cons_of_mem _ wd_95)) (fun _ h9 => h9) rfl dX5_find_7 ?_
  refine lv_iload_n hx hb dX5_find_10 rfl (lv_at hl 2 rfl) ?_
  refine va_iald hx hb hE.1 hP 3 0 rfl rfl (vp_in_nI (n := one) (by omega) (by decide)) dX5_find_11 ?_
  refine lv_topi (fun v3 ev3 => ?_)
  refine lv_iconst (v := 1) hx hb dX5_find_12 (by decide) ?_
  refine lv_bipush (v := 7) hx hb dX5_find_13 (by decide) ?_
  refine k_iS (va_runSN (As := [.int v3, .int 1, .int 7]) (rest := []) ⟨hx, hb, hml, hown, hts⟩ (m_X7_within l D cI cJ H.size v3 1 7) ⟨va_cnB 3 hts gX5_find_X7_within_n22 rfl rfl rfl (nwk8 hE.2) (hts _ (List.mem_cons_of_mem _ wd_2)) (by decide +kernel) ⟨Nat.le_of_ble_eq_true rfl, Nat.le_of_ble_eq_true rfl⟩, (hts _ (List.mem_cons_of_mem _ wd_165)), trivial⟩ (k_pre hE hP hD [] (by decide +kernel) rfl) rfl rfl hl.1 rfl (lv_room (Nat.le_of_ble_eq_true rfl)) dX5_find_15 ⟨Nat.le_of_ble_eq_true rfl, Nat.le_of_ble_eq_true rfl⟩) hP hD hS hA [] rfl (fun _ _ h9 => h9.2) (fun r4 H locs hw5 hP hD hS => ?_)
  obtain ⟨hw5, -⟩ := hw5
  refine lv_if_ne (tgt := 23) hx hb dX5_find_18 (by decide) (fun c6 => ?_) (fun c6 => ?_)
  · skip
    have hc6 : 1 ≤ v3 ∧ v3 ≤ 7 := bz_1 hw5 c6
    obtain ⟨rj, hj1, hj7, erj⟩ := wi_17 hc6
    have hrj := ev3.symm.trans erj
    refine lv_iload_n hx hb dX5_find_23 rfl (lv_at hl 2 rfl) ?_
    refine lv_istore (lv' := [(4, .int (nI one)), (0, .ref x2), (1, .ref w1), (2, .int (nI one)), (3, .int (nI oth))]) hx hb dX5_find_24 hl (by decide) rfl (fun ls hl => ?_)
    refine lv_aload_n hx hb dX5_find_26 rfl (lv_at hl 1 rfl) ?_
    refine va_get (D := D) (ci := 5) (v := .ref y0) (C := RX5) (T := TX5) (N := 2) hx hb hts hiX5 hown hE.1 hP 1 rfl rfl 0 (by decide) (hts _ (List.mem_cons_of_mem _ wd_94)) (fun _ h9 => h9) rfl dX5_find_27 ?_
    refine lv_iconst (v := 0) hx hb dX5_find_30 (by decide) ?_
    refine lv_iload_n hx hb dX5_find_31 rfl (lv_at hl 3 rfl) ?_
    refine va_iast hx hb hE.1 hP hD hS 0 0 rfl rfl (by unfold vp_in; decide) dX5_find_32 (fun H locs hP hD hS => ?_)
    refine k_re (w := [(aIc cI y0 8 (upd Y0 (Int32.toNatClampNeg 0) (nI one))), (oX5 x2 y0 y1), (aIc cI w1 8 W1), (aIc cI y1 8 z2)]) hP hD (fun hP hD => ?_)
    refine lv_iconst (v := 1) hx hb dX5_find_33 (by decide) ?_
    refine lv_istore (lv' := [(5, .int 1), (4, .int (nI one)), (0, .ref x2), (1, .ref w1), (2, .int (nI one)), (3, .int (nI oth))]) hx hb dX5_find_34 hl (by decide) rfl (fun ls hl => ?_)
    have J36 : ∀ (zz : Nat) (i36 h4_36 : Nat) (a_y0_36 : Nat → Int32), (i36 ≤ rj + 1) → (h4_36 < 8) → (rj + 1 - i36) < zz → ∀ (H : Heap) (locs : List Loc) (ls : Array Slot), va_P D vwCl [(aIc cI y0 8 a_y0_36), (oX5 x2 y0 y1), (aIc cI w1 8 W1), (aIc cI y1 8 z2)] H → va_D A [(aIc cI y0 8 a_y0_36), (oX5 x2 y0 y1), (aIc cI w1 8 W1), (aIc cI y1 8 z2)] → va_S A s.heap H locs → lv_has ls 6 [(5, .int (nI i36)), (4, .int (nI h4_36)), (0, .ref x2), (1, .ref w1), (2, .int (nI one)), (3, .int (nI oth))] → W p l e { frames := 2, cells := 0, slots := 0, locals := 49 } s m [.ref x2, .ref w1, .int (nI one), .int (nI oth)].toArray below meth c H locs 0 0 (MQ below (cQi D (fun r u => ∃ (k : Nat) (Y0p Y1p : Nat → Int32), (k ≤ 8) ∧ r = (nI k) ∧ u = [(oX5 x2 y0 y1), (aIc cI w1 8 W1), (aIc cI y0 8 Y0p), (aIc cI y1 8 Y1p)]) A) [.ref x2, .ref w1, .int (nI one), .int (nI oth)].toArray s 0 0 A) (F0 m 36 ls []) := by
      intro zz
      induction zz with
      | zero => intro i36 h4_36 a_y0_36 _ _; exact fun h => absurd h (Nat.not_lt_zero _)
      | succ zz ih36 =>
        intro i36 h4_36 a_y0_36 hc5_36 hi4_36 hmu36 H locs ls hP hD hS hl
        refine lv_iload hx hb dX5_find_36 (lv_at hl 0 rfl) ?_
        refine lv_aload_n hx hb dX5_find_38 rfl (lv_at hl 2 rfl) ?_
        refine va_get (D := D) (ci := 5) (v := .ref y1) (C := RX5) (T := TX5) (N := 2) hx hb hts hiX5 hown hE.1 hP 1 rfl rfl 1 (by decide) (hts _ (List.mem_cons_of_mem _ wd_95)) (fun _ h9 => h9) rfl dX5_find_39 ?_
        refine lv_iload_n hx hb dX5_find_42 rfl (lv_at hl 4 rfl) ?_
        refine va_iald hx hb hE.1 hP 3 0 rfl rfl (vp_in_nI (n := one) (by omega) (by decide)) dX5_find_43 ?_
        refine lv_topi (fun v7 ev7 => ?_)
        obtain rfl : v7 = nI rj := ev7.trans hrj
        refine lv_icmp_gt (tgt := 71) hx hb dX5_find_44 (by decide) (fun c8 => ?_) (fun c8 => ?_)
        · skip
          have nc8 : rj < i36 := (nI_ltI (a := rj) (b := i36) (by omega) (by omega)).mp c8
          refine lv_aload_n hx hb dX5_find_71 rfl (lv_at hl 2 rfl) ?_
          refine va_get (D := D) (ci := 5) (v := .ref y1) (C := RX5) (T := TX5) (N := 2) hx hb hts hiX5 hown hE.1 hP 1 rfl rfl 1 (by decide) (hts _ (List.mem_cons_of_mem _ wd_95)) (fun _ h9 => h9) rfl dX5_find_72 ?_
          refine lv_iload_n hx hb dX5_find_75 rfl (lv_at hl 4 rfl) ?_
          refine va_iald hx hb hE.1 hP 3 0 rfl rfl (vp_in_nI (n := one) (by omega) (by decide)) dX5_find_76 ?_
          refine lv_topi (fun v9 ev9 => ?_)
          obtain rfl : v9 = nI rj := ev9.trans hrj
          refine lv_iconst (v := 1) hx hb dX5_find_77 (by decide) ?_
          refine lv_iadd hx hb dX5_find_78 ?_
          refine lv_topi (fun v10 ev10 => ?_)
          obtain rfl : v10 = (nI (rj + 1)) := by rw [ev10]; exact nI_add rj 1
          refine k_iret (u := [(oX5 x2 y0 y1), (aIc cI w1 8 W1), (aIc cI y0 8 a_y0_36), (aIc cI y1 8 z2)]) hx hb hr hlk (k_sub hP [1, 2, 0, 3] rfl) (hD.sub [1, 2, 0, 3] (by decide +kernel) rfl) hS dX5_find_79 ?_
          exact ⟨rj + 1, a_y0_36, z2, (by omega), rfl, rfl⟩
        · skip
          have nc8 : ¬ rj < i36 := fun q9 => c8 ((nI_ltI (a := rj) (b := i36) (by omega) (by omega)).mpr q9)
          refine lv_aload_n hx hb dX5_find_47 rfl (lv_at hl 2 rfl) ?_
          refine lv_aload_n hx hb dX5_find_48 rfl (lv_at hl 3 rfl) ?_
          refine lv_iload hx hb dX5_find_49 (lv_at hl 1 rfl) ?_
          refine k_iS (va_runV (As := [.ref w1, .int (nI h4_36)]) (rest := []) ⟨hx, hb, hml, hown, hts⟩ (m_X5_leastNearer l D cI cJ H.size x2 y0 y1 w1 h4_36 W1 z2 (by omega)) (cwV 2 hts gX5_find_X5_leastNearer rfl rfl rfl (by decide +kernel) ⟨Nat.le_of_ble_eq_true rfl, Nat.le_of_ble_eq_true rfl⟩) (k_preV hE hP hD [1, 2, 3] (by decide +kernel) rfl 1 rfl rfl) rfl rfl hl.1 rfl (lv_room (Nat.le_of_ble_eq_true rfl)) dX5_find_51 ⟨Nat.le_of_ble_eq_true rfl, Nat.le_of_ble_eq_true rfl⟩) hP hD hS hA [1, 2, 3] rfl (fun _ _ ⟨_, _, _, h9⟩ => h9) (fun r11 H locs hw12 hP hD hS => ?_)
          obtain ⟨z13, hz14, rfl, -⟩ := hw12
          refine lv_istore (lv' := [(4, .int (nI z13)), (5, .int (nI i36)), (0, .ref x2), (1, .ref w1), (2, .int (nI one)), (3, .int (nI oth))]) hx hb dX5_find_54 hl (by decide) rfl (fun ls hl => ?_)
          refine lv_aload_n hx hb dX5_find_56 rfl (lv_at hl 2 rfl) ?_
          refine va_get (D := D) (ci := 5) (v := .ref y0) (C := RX5) (T := TX5) (N := 2) hx hb hts hiX5 hown hE.1 hP 1 rfl rfl 0 (by decide) (hts _ (List.mem_cons_of_mem _ wd_94)) (fun _ h9 => h9) rfl dX5_find_57 ?_
          refine lv_iload hx hb dX5_find_60 (lv_at hl 1 rfl) ?_
          refine lv_iload hx hb dX5_find_62 (lv_at hl 0 rfl) ?_
          refine va_iast hx hb hE.1 hP hD hS 0 0 rfl rfl (vp_in_nI (n := i36) (by omega) (by decide)) dX5_find_64 (fun H locs hP hD hS => ?_)
          refine k_re (w := [(aIc cI y0 8 (upd a_y0_36 (Int32.toNatClampNeg (nI i36)) (nI z13))), (oX5 x2 y0 y1), (aIc cI w1 8 W1), (aIc cI y1 8 z2)]) hP hD (fun hP hD => ?_)
          refine lv_iinc (v := (nI (i36 + 1))) (lv' := [(5, .int (nI (i36 + 1))), (4, .int (nI z13)), (0, .ref x2), (1, .ref w1), (2, .int (nI one)), (3, .int (nI oth))]) hx hb dX5_find_65 hl (k := 1) rfl (nI_1 _) (by decide) rfl (fun ls hl => ?_)
          refine lv_goto (tgt := 36) hx hb dX5_find_68 (by decide) ?_
          exact ih36 (i36 + 1) z13 (upd a_y0_36 (Int32.toNatClampNeg (nI i36)) (nI z13)) (by omega) (by omega) (by omega) _ _ _ hP hD hS (lv_sub hl [0, 1, 2, 3, 4, 5] rfl)
    exact J36 _ 1 one (upd Y0 (Int32.toNatClampNeg 0) (nI one)) (by omega) (by omega) (Nat.lt_succ_self _) _ _ _ hP hD hS (lv_sub hl [0, 1, 2, 3, 4, 5] rfl)
  · skip
    have hc6 : ¬ (1 ≤ v3 ∧ v3 ≤ 7) := bz_0 hw5 c6
    refine lv_iconst (v := 0) hx hb dX5_find_21 (by decide) ?_
    refine k_iret (u := [(oX5 x2 y0 y1), (aIc cI w1 8 W1), (aIc cI y0 8 Y0), (aIc cI y1 8 z2)]) hx hb hr hlk (k_sub hP [1, 2, 0, 3] rfl) (hD.sub [1, 2, 0, 3] (by decide +kernel) rfl) hS dX5_find_22 ?_
    exact ⟨0, Y0, z2, (by omega), rfl, rfl⟩
theorem dX1_read_0 : decode cX1_read 0 = .ok (.aload_n 0, 1) := by decide +kernel
theorem dX1_read_1 : decode cX1_read 1 = .ok (.iconst 0, 1) := by decide +kernel
theorem dX1_read_2 : decode cX1_read 2 = .ok (.putfield 30, 3) := by decide +kernel
theorem dX1_read_5 : decode cX1_read 5 = .ok (.lload_n 1, 1) := by decide +kernel
theorem dX1_read_6 : decode cX1_read 6 = .ok (.lstore 4, 2) := by decide +kernel
theorem dX1_read_8 : decode cX1_read 8 = .ok (.iconst 0, 1) := by decide +kernel
theorem dX1_read_9 : decode cX1_read 9 = .ok (.istore 6, 2) := by decide +kernel
theorem dX1_read_11 : decode cX1_read 11 = .ok (.iconst 0, 1) := by decide +kernel
theorem dX1_read_12 : decode cX1_read 12 = .ok (.istore 7, 2) := by decide +kernel
theorem dX1_read_14 : decode cX1_read 14 = .ok (.iload 7, 2) := by decide +kernel
theorem dX1_read_16 : decode cX1_read 16 = .ok (.bipush 8, 2) := by decide +kernel
theorem dX1_read_18 : decode cX1_read 18 = .ok (.if_icmp .ge 87, 3) := by decide +kernel
theorem dX1_read_21 : decode cX1_read 21 = .ok (.lload 4, 2) := by decide +kernel
theorem dX1_read_23 : decode cX1_read 23 = .ok (.lconst 0, 1) := by decide +kernel
theorem dX1_read_24 : decode cX1_read 24 = .ok (.lcmp, 1) := by decide +kernel
theorem dX1_read_25 : decode cX1_read 25 = .ok (.ifCond .le 80, 3) := by decide +kernel
theorem dX1_read_28 : decode cX1_read 28 = .ok (.lload 4, 2) := by decide +kernel
theorem dX1_read_30 : decode cX1_read 30 = .ok (.ldc2_w 34, 3) := by decide +kernel
theorem dX1_read_33 : decode cX1_read 33 = .ok (.lrem, 1) := by decide +kernel
theorem dX1_read_34 : decode cX1_read 34 = .ok (.l2i, 1) := by decide +kernel
theorem dX1_read_35 : decode cX1_read 35 = .ok (.iconst 1, 1) := by decide +kernel
theorem dX1_read_36 : decode cX1_read 36 = .ok (.isub, 1) := by decide +kernel
theorem dX1_read_37 : decode cX1_read 37 = .ok (.istore 8, 2) := by decide +kernel
theorem dX1_read_39 : decode cX1_read 39 = .ok (.iload 8, 2) := by decide +kernel
theorem dX1_read_41 : decode cX1_read 41 = .ok (.iconst 0, 1) := by decide +kernel
theorem dX1_read_42 : decode cX1_read 42 = .ok (.iload_n 3, 1) := by decide +kernel
theorem dX1_read_43 : decode cX1_read 43 = .ok (.iconst 1, 1) := by decide +kernel
theorem dX1_read_44 : decode cX1_read 44 = .ok (.isub, 1) := by decide +kernel
theorem dX1_read_45 : decode cX1_read 45 = .ok (.invokestatic 36, 3) := by decide +kernel
theorem dX1_read_48 : decode cX1_read 48 = .ok (.ifCond .eq 13, 3) := by decide +kernel
theorem dX1_read_51 : decode cX1_read 51 = .ok (.iload 6, 2) := by decide +kernel
theorem dX1_read_53 : decode cX1_read 53 = .ok (.iload 8, 2) := by decide +kernel
theorem dX1_read_55 : decode cX1_read 55 = .ok (.invokestatic 40, 3) := by decide +kernel
theorem dX1_read_58 : decode cX1_read 58 = .ok (.ifCond .eq 5, 3) := by decide +kernel
theorem dX1_read_61 : decode cX1_read 61 = .ok (.iconst 0, 1) := by decide +kernel
theorem dX1_read_62 : decode cX1_read 62 = .ok (.ireturn, 1) := by decide +kernel
theorem dX1_read_63 : decode cX1_read 63 = .ok (.iload 6, 2) := by decide +kernel
theorem dX1_read_65 : decode cX1_read 65 = .ok (.iconst 1, 1) := by decide +kernel
theorem dX1_read_66 : decode cX1_read 66 = .ok (.iload 8, 2) := by decide +kernel
theorem dX1_read_68 : decode cX1_read 68 = .ok (.ishl, 1) := by decide +kernel
theorem dX1_read_69 : decode cX1_read 69 = .ok (.ior, 1) := by decide +kernel
theorem dX1_read_70 : decode cX1_read 70 = .ok (.istore 6, 2) := by decide +kernel
theorem dX1_read_72 : decode cX1_read 72 = .ok (.aload_n 0, 1) := by decide +kernel
theorem dX1_read_73 : decode cX1_read 73 = .ok (.getfield 24, 3) := by decide +kernel
theorem dX1_read_76 : decode cX1_read 76 = .ok (.iload 7, 2) := by decide +kernel
theorem dX1_read_78 : decode cX1_read 78 = .ok (.iload 8, 2) := by decide +kernel
theorem dX1_read_80 : decode cX1_read 80 = .ok (.iastore, 1) := by decide +kernel
theorem dX1_read_81 : decode cX1_read 81 = .ok (.aload_n 0, 1) := by decide +kernel
theorem dX1_read_82 : decode cX1_read 82 = .ok (.dup, 1) := by decide +kernel
theorem dX1_read_83 : decode cX1_read 83 = .ok (.getfield 30, 3) := by decide +kernel
theorem dX1_read_86 : decode cX1_read 86 = .ok (.iconst 1, 1) := by decide +kernel
theorem dX1_read_87 : decode cX1_read 87 = .ok (.iadd, 1) := by decide +kernel
theorem dX1_read_88 : decode cX1_read 88 = .ok (.putfield 30, 3) := by decide +kernel
theorem dX1_read_91 : decode cX1_read 91 = .ok (.lload 4, 2) := by decide +kernel
theorem dX1_read_93 : decode cX1_read 93 = .ok (.ldc2_w 34, 3) := by decide +kernel
theorem dX1_read_96 : decode cX1_read 96 = .ok (.ldiv, 1) := by decide +kernel
theorem dX1_read_97 : decode cX1_read 97 = .ok (.lstore 4, 2) := by decide +kernel
theorem dX1_read_99 : decode cX1_read 99 = .ok (.iinc 7 1, 3) := by decide +kernel
theorem dX1_read_102 : decode cX1_read 102 = .ok (.goto (-88), 3) := by decide +kernel
theorem dX1_read_105 : decode cX1_read 105 = .ok (.lload 4, 2) := by decide +kernel
theorem dX1_read_107 : decode cX1_read 107 = .ok (.lconst 0, 1) := by decide +kernel
theorem dX1_read_108 : decode cX1_read 108 = .ok (.lcmp, 1) := by decide +kernel
theorem dX1_read_109 : decode cX1_read 109 = .ok (.ifCond .ne 7, 3) := by decide +kernel
theorem dX1_read_112 : decode cX1_read 112 = .ok (.iconst 1, 1) := by decide +kernel
theorem dX1_read_113 : decode cX1_read 113 = .ok (.goto 4, 3) := by decide +kernel
theorem dX1_read_116 : decode cX1_read 116 = .ok (.iconst 0, 1) := by decide +kernel
theorem dX1_read_117 : decode cX1_read 117 = .ok (.ireturn, 1) := by decide +kernel
theorem gX1_read_X7_has_n40 : GoodIn wtX1_read (wtX7_has) := tb_good (tb_c0 wd_312)
theorem gX1_read_X7_within_n36 : GoodIn wtX1_read (wtX7_within) := tb_good (tb_c0 wd_166)
set_option maxHeartbeats 4000000 in
set_option maxRecDepth 100000 in
theorem m_X1_read (l : Launch) (D : va_G) (cI cJ : ClassId) (sz : Nat) (x3 t0 t1 t2 t3 t6 t8 np pm : Nat) (ti4 ti7 : Int32) (dg : Int64) (T6 : Nat → Int32) (hnp : np ≤ 8) (hor : ∀ k, k < 8 → ∃ j : Nat, j < 8 ∧ T6 k = nI j) : Met l yX1_read wtX1_read { frames := 1, cells := 0, slots := 0, locals := 22 } (cPc D cI cJ [.ref x3, .long dg, .int (nI np)] sz [(oX1 x3 t0 t1 t2 t3 ti4 (nI pm) t6 ti7 t8), (aIc cI t6 8 T6)]) (cQi D (fun r u => ∃ (T6p : Nat → Int32) (ti7p : Int32), (r = 0 ∨ r = 1) ∧ (∀ k, k < 8 → ∃ j : Nat, j < 8 ∧ T6p k = nI j) ∧ u = [(oX1 x3 t0 t1 t2 t3 ti4 (nI pm) t6 ti7p t8), (aIc cI t6 8 T6p)]) (va_A [(oX1 x3 t0 t1 t2 t3 ti4 (nI pm) t6 ti7 t8), (aIc cI t6 8 T6)] sz)) 0 0 (va_A [(oX1 x3 t0 t1 t2 t3 ti4 (nI pm) t6 ti7 t8), (aIc cI t6 8 T6)] sz) := by
  refine k_ofW (Qc := cQi D (fun r u => ∃ (T6p : Nat → Int32) (ti7p : Int32), (r = 0 ∨ r = 1) ∧ (∀ k, k < 8 → ∃ j : Nat, j < 8 ∧ T6p k = nI j) ∧ u = [(oX1 x3 t0 t1 t2 t3 ti4 (nI pm) t6 ti7p t8), (aIc cI t6 8 T6p)])) (by decide) rfl (Nat.le_of_ble_eq_true rfl) ?_
  intro p e s m below meth c A ls hx hb hr hml hts hown hlk hnm hsz hE hP hD hS hA hl
  have hown : s.vm.findClass RX1 = some m.cls := hown
  have hiX1 : ∀ w ∈ u_ws RX1 TX1 9, w ∈ wtX1_read := fun w h => List.mem_cons_of_mem _ (iuX1 w h)
  have hl : lv_has ls 9 [(0, .ref x3), (1, .long dg), (3, .int (nI np))] := hl
  refine lv_aload_n hx hb dX1_read_0 rfl (lv_at hl 0 rfl) ?_
  refine lv_iconst (v := 0) hx hb dX1_read_1 (by decide) ?_
  refine va_put (D := D) (ci := 1) (v := .int 0) (ty := .int) (C := RX1) (T := TX1) (N := 9) hx hb hts hiX1 tyX1 tyX1_ok nmX1 hown hE.1 hP hD hS 0 rfl rfl 7 (by decide) (hts _ (List.mem_cons_of_mem _ wd_733)) (fun _ h9 => h9) rfl (by decide +kernel) rfl rfl (Nat.le_of_ble_eq_true rfl) dX1_read_2 (fun H locs hP hD hS => ?_)
  refine k_re (w := [(oX1 x3 t0 t1 t2 t3 ti4 (nI pm) t6 0 t8), (aIc cI t6 8 T6)]) hP hD (fun hP hD => ?_)
  refine lv_lload_n hx hb dX1_read_5 rfl (lv_at hl 1 rfl) ?_
  refine lv_lstore (lv' := [(4, .long dg), (0, .ref x3), (1, .long dg), (3, .int (nI np))]) hx hb dX1_read_6 hl (by decide) rfl (fun ls hl => ?_)
  refine lv_iconst (v := 0) hx hb dX1_read_8 (by decide) ?_
  refine lv_istore (lv' := [(6, .int 0), (4, .long dg), (0, .ref x3), (1, .long dg), (3, .int (nI np))]) hx hb dX1_read_9 hl (by decide) rfl (fun ls hl => ?_)
  refine lv_iconst (v := 0) hx hb dX1_read_11 (by decide) ?_
  refine lv_istore (lv' := [(7, .int 0), (6, .int 0), (4, .long dg), (0, .ref x3), (1, .long dg), (3, .int (nI np))]) hx hb dX1_read_12 hl (by decide) rfl (fun ls hl => ?_)
  have J14 : ∀ (zz : Nat) (i14 : Nat) (h4_14 : Int64) (h6_14 : Int32) (a_t6_14 : Nat → Int32) (f1_7_14 : Int32), (i14 ≤ 8) → (∀ k, k < 8 → ∃ j : Nat, j < 8 ∧ a_t6_14 k = nI j) → (8 - i14) < zz → ∀ (H : Heap) (locs : List Loc) (ls : Array Slot), va_P D vwCl [(oX1 x3 t0 t1 t2 t3 ti4 (nI pm) t6 f1_7_14 t8), (aIc cI t6 8 a_t6_14)] H → va_D A [(oX1 x3 t0 t1 t2 t3 ti4 (nI pm) t6 f1_7_14 t8), (aIc cI t6 8 a_t6_14)] → va_S A s.heap H locs → lv_has ls 9 [(7, .int (nI i14)), (6, .int h6_14), (4, .long h4_14), (0, .ref x3), (1, .long dg), (3, .int (nI np))] → W p l e { frames := 1, cells := 0, slots := 0, locals := 22 } s m [.ref x3, .long dg, .int (nI np)].toArray below meth c H locs 0 0 (MQ below (cQi D (fun r u => ∃ (T6p : Nat → Int32) (ti7p : Int32), (r = 0 ∨ r = 1) ∧ (∀ k, k < 8 → ∃ j : Nat, j < 8 ∧ T6p k = nI j) ∧ u = [(oX1 x3 t0 t1 t2 t3 ti4 (nI pm) t6 ti7p t8), (aIc cI t6 8 T6p)]) A) [.ref x3, .long dg, .int (nI np)].toArray s 0 0 A) (F0 m 14 ls []) := by
    intro zz
    induction zz with
    | zero => intro i14 h4_14 h6_14 a_t6_14 f1_7_14 _ _; exact fun h => absurd h (Nat.not_lt_zero _)
    | succ zz ih14 =>
      intro i14 h4_14 h6_14 a_t6_14 f1_7_14 hc7_14 hor2_14 hmu14 H locs ls hP hD hS hl
      refine lv_iload hx hb dX1_read_14 (lv_at hl 0 rfl) ?_
      refine lv_bipush (v := 8) hx hb dX1_read_16 (by decide) ?_
      refine lv_icmp_ge (tgt := 105) hx hb dX1_read_18 (by decide) (fun c1 => ?_) (fun c1 => ?_)
      · skip
        have nc1 : 8 ≤ i14 := (nI_leI (a := 8) (b := i14) (by omega) (by omega)).mp c1
        refine lv_lload hx hb dX1_read_105 (lv_at hl 2 rfl) ?_
        refine lv_lconst (v := 0) hx hb dX1_read_107 (by decide) ?_
        refine k_lcmp_ne (tgt := 116) hx hb dX1_read_108 dX1_read_109 (by decide) (fun c2 => ?_) (fun c2 => ?_)
        · skip
          refine lv_iconst (v := 0) hx hb dX1_read_116 (by decide) ?_
          refine k_zret (u := [(oX1 x3 t0 t1 t2 t3 ti4 (nI pm) t6 f1_7_14 t8), (aIc cI t6 8 a_t6_14)]) hx hb hr (by decide) hlk hP hD hS dX1_read_117 ?_
          exact ⟨a_t6_14, f1_7_14, (by decide), hor2_14, rfl⟩
        · skip
          refine lv_iconst (v := 1) hx hb dX1_read_112 (by decide) ?_
          refine lv_goto (tgt := 117) hx hb dX1_read_113 (by decide) ?_
          refine k_zret (u := [(oX1 x3 t0 t1 t2 t3 ti4 (nI pm) t6 f1_7_14 t8), (aIc cI t6 8 a_t6_14)]) hx hb hr (by decide) hlk hP hD hS dX1_read_117 ?_
          exact ⟨a_t6_14, f1_7_14, (by decide), hor2_14, rfl⟩
      · skip
        have nc1 : ¬ 8 ≤ i14 := fun q9 => c1 ((nI_leI (a := 8) (b := i14) (by omega) (by omega)).mpr q9)
        refine lv_lload hx hb dX1_read_21 (lv_at hl 2 rfl) ?_
        refine lv_lconst (v := 0) hx hb dX1_read_23 (by decide) ?_
        refine k_lcmp_le (tgt := 105) hx hb dX1_read_24 dX1_read_25 (by decide) (fun c3 => ?_) (fun c3 => ?_)
        · skip
          refine lv_lload hx hb dX1_read_105 (lv_at hl 2 rfl) ?_
          refine lv_lconst (v := 0) hx hb dX1_read_107 (by decide) ?_
          refine k_lcmp_ne (tgt := 116) hx hb dX1_read_108 dX1_read_109 (by decide) (fun c4 => ?_) (fun c4 => ?_)
          · skip
            refine lv_iconst (v := 0) hx hb dX1_read_116 (by decide) ?_
            refine k_zret (u := [(oX1 x3 t0 t1 t2 t3 ti4 (nI pm) t6 f1_7_14 t8), (aIc cI t6 8 a_t6_14)]) hx hb hr (by decide) hlk hP hD hS dX1_read_117 ?_
            exact ⟨a_t6_14, f1_7_14, (by decide), hor2_14, rfl⟩
          · skip
            refine lv_iconst (v := 1) hx hb dX1_read_112 (by decide) ?_
            refine lv_goto (tgt := 117) hx hb dX1_read_113 (by decide) ?_
            refine k_zret (u := [(oX1 x3 t0 t1 t2 t3 ti4 (nI pm) t6 f1_7_14 t8), (aIc cI t6 8 a_t6_14)]) hx hb hr (by decide) hlk hP hD hS dX1_read_117 ?_
            exact ⟨a_t6_14, f1_7_14, (by decide), hor2_14, rfl⟩
        · skip
          refine lv_lload hx hb dX1_read_28 (lv_at hl 2 rfl) ?_
          refine lv_ldc2 (v := 9) hx hb hown (hts _ (List.mem_cons_of_mem _ wd_734)) dX1_read_30 ?_
          refine lv_lrem hx hb dX1_read_33 (by decide) ?_
          refine lv_topl (fun v5 ev5 => ?_)
          refine lv_l2i hx hb dX1_read_34 rfl ?_
          refine lv_topi (fun v6 ev6 => ?_)
          refine lv_iconst (v := 1) hx hb dX1_read_35 (by decide) ?_
          refine lv_isub hx hb dX1_read_36 ?_
          refine lv_topi (fun v7 ev7 => ?_)
          refine lv_istore (lv' := [(8, .int v7), (7, .int (nI i14)), (6, .int h6_14), (4, .long h4_14), (0, .ref x3), (1, .long dg), (3, .int (nI np))]) hx hb dX1_read_37 hl (by decide) rfl (fun ls hl => ?_)
          refine lv_iload hx hb dX1_read_39 (lv_at hl 0 rfl) ?_
          refine lv_iconst (v := 0) hx hb dX1_read_41 (by decide) ?_
          refine lv_iload_n hx hb dX1_read_42 rfl (lv_at hl 6 rfl) ?_
          refine lv_iconst (v := 1) hx hb dX1_read_43 (by decide) ?_
          refine lv_isub hx hb dX1_read_44 ?_
          refine lv_topi (fun v8 ev8 => ?_)
          refine k_iS (va_runSN (As := [.int v7, .int 0, .int v8]) (rest := []) ⟨hx, hb, hml, hown, hts⟩ (m_X7_within l D cI cJ H.size v7 0 v8) ⟨va_cnB 3 hts gX1_read_X7_within_n36 rfl rfl rfl (nwk9 hE.2) (hts _ (List.mem_cons_of_mem _ wd_2)) (by decide +kernel) ⟨Nat.le_of_ble_eq_true rfl, Nat.le_of_ble_eq_true rfl⟩, (hts _ (List.mem_cons_of_mem _ wd_165)), trivial⟩ (k_pre hE hP hD [] (by decide +kernel) rfl) rfl rfl hl.1 rfl (lv_room (Nat.le_of_ble_eq_true rfl)) dX1_read_45 ⟨Nat.le_of_ble_eq_true rfl, Nat.le_of_ble_eq_true rfl⟩) hP hD hS hA [] rfl (fun _ _ h9 => h9.2) (fun r9 H locs hw10 hP hD hS => ?_)
          obtain ⟨hw10, -⟩ := hw10
          refine lv_if_eq (tgt := 61) hx hb dX1_read_48 (by decide) (fun c11 => ?_) (fun c11 => ?_)
          · skip
            have hc11 : ¬ (0 ≤ v7 ∧ v7 ≤ v8) := bz_0 hw10 c11
            refine lv_iconst (v := 0) hx hb dX1_read_61 (by decide) ?_
            refine k_zret (u := [(oX1 x3 t0 t1 t2 t3 ti4 (nI pm) t6 f1_7_14 t8), (aIc cI t6 8 a_t6_14)]) hx hb hr (by decide) hlk hP hD hS dX1_read_62 ?_
            exact ⟨a_t6_14, f1_7_14, (by decide), hor2_14, rfl⟩
          · skip
            have hc11 : 0 ≤ v7 ∧ v7 ≤ v8 := bz_1 hw10 c11
            refine lv_iload hx hb dX1_read_51 (lv_at hl 2 rfl) ?_
            refine lv_iload hx hb dX1_read_53 (lv_at hl 0 rfl) ?_
            refine k_iS (va_runSN (As := [.int h6_14, .int v7]) (rest := []) ⟨hx, hb, hml, hown, hts⟩ (m_X7_has l D cI cJ H.size h6_14 v7) ⟨va_cnB 2 hts gX1_read_X7_has_n40 rfl rfl rfl (nwk10 hE.2) (hts _ (List.mem_cons_of_mem _ wd_2)) (by decide +kernel) ⟨Nat.le_of_ble_eq_true rfl, Nat.le_of_ble_eq_true rfl⟩, (hts _ (List.mem_cons_of_mem _ wd_311)), trivial⟩ (k_pre hE hP hD [] (by decide +kernel) rfl) rfl rfl hl.1 rfl (lv_room (Nat.le_of_ble_eq_true rfl)) dX1_read_55 ⟨Nat.le_of_ble_eq_true rfl, Nat.le_of_ble_eq_true rfl⟩) hP hD hS hA [] rfl (fun _ _ h9 => h9.2) (fun r12 H locs hw13 hP hD hS => ?_)
            obtain ⟨hw13, -⟩ := hw13
            refine lv_if_eq (tgt := 63) hx hb dX1_read_58 (by decide) (fun c14 => ?_) (fun c14 => ?_)
            · skip
              have hc14 : ¬ (¬ (h6_14 >>> (v7 &&& 31)) &&& 1 = 0) := bz_0 hw13 c14
              obtain ⟨jp, hjp, ejp⟩ := wi_np hnp ev8 hc11
              refine lv_iload hx hb dX1_read_63 (lv_at hl 2 rfl) ?_
              refine lv_iconst (v := 1) hx hb dX1_read_65 (by decide) ?_
              refine lv_iload hx hb dX1_read_66 (lv_at hl 0 rfl) ?_
              refine lv_ishl hx hb dX1_read_68 ?_
              refine lv_topi (fun v15 ev15 => ?_)
              refine lv_ior hx hb dX1_read_69 ?_
              refine lv_topi (fun v16 ev16 => ?_)
              refine lv_istore (lv' := [(6, .int v16), (8, .int v7), (7, .int (nI i14)), (4, .long h4_14), (0, .ref x3), (1, .long dg), (3, .int (nI np))]) hx hb dX1_read_70 hl (by decide) rfl (fun ls hl => ?_)
              refine lv_aload_n hx hb dX1_read_72 rfl (lv_at hl 4 rfl) ?_
              refine va_get (D := D) (ci := 1) (v := .ref t6) (C := RX1) (T := TX1) (N := 9) hx hb hts hiX1 hown hE.1 hP 0 rfl rfl 6 (by decide) (hts _ (List.mem_cons_of_mem _ wd_103)) (fun _ h9 => h9) rfl dX1_read_73 ?_
              refine lv_iload hx hb dX1_read_76 (lv_at hl 2 rfl) ?_
              refine lv_iload hx hb dX1_read_78 (lv_at hl 1 rfl) ?_
              refine va_iast hx hb hE.1 hP hD hS 1 0 rfl rfl (vp_in_nI (n := i14) (by omega) (by decide)) dX1_read_80 (fun H locs hP hD hS => ?_)
              refine k_re (w := [(oX1 x3 t0 t1 t2 t3 ti4 (nI pm) t6 f1_7_14 t8), (aIc cI t6 8 (upd a_t6_14 (Int32.toNatClampNeg (nI i14)) v7))]) hP hD (fun hP hD => ?_)
              refine lv_aload_n hx hb dX1_read_81 rfl (lv_at hl 4 rfl) ?_
              refine lv_dup hx hb dX1_read_82 rfl ?_
              refine va_get (D := D) (ci := 1) (v := .int f1_7_14) (C := RX1) (T := TX1) (N := 9) hx hb hts hiX1 hown hE.1 hP 0 rfl rfl 7 (by decide) (hts _ (List.mem_cons_of_mem _ wd_733)) (fun _ h9 => h9) rfl dX1_read_83 ?_
              refine lv_iconst (v := 1) hx hb dX1_read_86 (by decide) ?_
              refine lv_iadd hx hb dX1_read_87 ?_
              refine lv_topi (fun v17 ev17 => ?_)
              refine va_put (D := D) (ci := 1) (v := .int v17) (ty := .int) (C := RX1) (T := TX1) (N := 9) hx hb hts hiX1 tyX1 tyX1_ok nmX1 hown hE.1 hP hD hS 0 rfl rfl 7 (by decide) (hts _ (List.mem_cons_of_mem _ wd_733)) (fun _ h9 => h9) rfl (by decide +kernel) rfl rfl (Nat.le_of_ble_eq_true rfl) dX1_read_88 (fun H locs hP hD hS => ?_)
              refine k_re (w := [(oX1 x3 t0 t1 t2 t3 ti4 (nI pm) t6 v17 t8), (aIc cI t6 8 (upd a_t6_14 (Int32.toNatClampNeg (nI i14)) v7))]) hP hD (fun hP hD => ?_)
              refine lv_lload hx hb dX1_read_91 (lv_at hl 3 rfl) ?_
              refine lv_ldc2 (v := 9) hx hb hown (hts _ (List.mem_cons_of_mem _ wd_734)) dX1_read_93 ?_
              refine lv_ldiv hx hb dX1_read_96 (by decide) ?_
              refine lv_topl (fun v18 ev18 => ?_)
              refine lv_lstore (lv' := [(4, .long v18), (6, .int v16), (8, .int v7), (7, .int (nI i14)), (0, .ref x3), (1, .long dg), (3, .int (nI np))]) hx hb dX1_read_97 hl (by decide) rfl (fun ls hl => ?_)
              refine lv_iinc (v := (nI (i14 + 1))) (lv' := [(7, .int (nI (i14 + 1))), (4, .long v18), (6, .int v16), (8, .int v7), (0, .ref x3), (1, .long dg), (3, .int (nI np))]) hx hb dX1_read_99 hl (k := 3) rfl (nI_1 _) (by decide) rfl (fun ls hl => ?_)
              refine lv_goto (tgt := 14) hx hb dX1_read_102 (by decide) ?_
              exact ih14 (i14 + 1) v18 v16 (upd a_t6_14 (Int32.toNatClampNeg (nI i14)) v7) v17 (by omega) (li_up hor2_14 ejp (by omega)) (by omega) _ _ _ hP hD hS (lv_sub hl [0, 2, 1, 4, 5, 6] rfl)
            · skip
              have hc14 : ¬ (h6_14 >>> (v7 &&& 31)) &&& 1 = 0 := bz_1 hw13 c14
              refine lv_iconst (v := 0) hx hb dX1_read_61 (by decide) ?_
              refine k_zret (u := [(oX1 x3 t0 t1 t2 t3 ti4 (nI pm) t6 f1_7_14 t8), (aIc cI t6 8 a_t6_14)]) hx hb hr (by decide) hlk hP hD hS dX1_read_62 ?_
              exact ⟨a_t6_14, f1_7_14, (by decide), hor2_14, rfl⟩
  exact J14 _ 0 dg 0 T6 0 (by omega) hor (Nat.lt_succ_self _) _ _ _ hP hD hS (lv_sub hl [0, 1, 2, 3, 4, 5] rfl)
theorem dX1_pay_0 : decode cX1_pay 0 = .ok (.aload_n 0, 1) := by decide +kernel
theorem dX1_pay_1 : decode cX1_pay 1 = .ok (.getfield 9, 3) := by decide +kernel
theorem dX1_pay_4 : decode cX1_pay 4 = .ok (.iconst 0, 1) := by decide +kernel
theorem dX1_pay_5 : decode cX1_pay 5 = .ok (.invokestatic 44, 3) := by decide +kernel
theorem dX1_pay_8 : decode cX1_pay 8 = .ok (.aload_n 0, 1) := by decide +kernel
theorem dX1_pay_9 : decode cX1_pay 9 = .ok (.iconst 0, 1) := by decide +kernel
theorem dX1_pay_10 : decode cX1_pay 10 = .ok (.putfield 50, 3) := by decide +kernel
theorem dX1_pay_13 : decode cX1_pay 13 = .ok (.iconst 0, 1) := by decide +kernel
theorem dX1_pay_14 : decode cX1_pay 14 = .ok (.istore_n 2, 1) := by decide +kernel
theorem dX1_pay_15 : decode cX1_pay 15 = .ok (.iload_n 2, 1) := by decide +kernel
theorem dX1_pay_16 : decode cX1_pay 16 = .ok (.aload_n 0, 1) := by decide +kernel
theorem dX1_pay_17 : decode cX1_pay 17 = .ok (.getfield 30, 3) := by decide +kernel
theorem dX1_pay_20 : decode cX1_pay 20 = .ok (.if_icmp .ge 60, 3) := by decide +kernel
theorem dX1_pay_23 : decode cX1_pay 23 = .ok (.iload_n 2, 1) := by decide +kernel
theorem dX1_pay_24 : decode cX1_pay 24 = .ok (.bipush 8, 2) := by decide +kernel
theorem dX1_pay_26 : decode cX1_pay 26 = .ok (.if_icmp .ge 54, 3) := by decide +kernel
theorem dX1_pay_29 : decode cX1_pay 29 = .ok (.aload_n 0, 1) := by decide +kernel
theorem dX1_pay_30 : decode cX1_pay 30 = .ok (.getfield 24, 3) := by decide +kernel
theorem dX1_pay_33 : decode cX1_pay 33 = .ok (.iload_n 2, 1) := by decide +kernel
theorem dX1_pay_34 : decode cX1_pay 34 = .ok (.iaload, 1) := by decide +kernel
theorem dX1_pay_35 : decode cX1_pay 35 = .ok (.istore_n 3, 1) := by decide +kernel
theorem dX1_pay_36 : decode cX1_pay 36 = .ok (.aload_n 0, 1) := by decide +kernel
theorem dX1_pay_37 : decode cX1_pay 37 = .ok (.getfield 9, 3) := by decide +kernel
theorem dX1_pay_40 : decode cX1_pay 40 = .ok (.iload_n 3, 1) := by decide +kernel
theorem dX1_pay_41 : decode cX1_pay 41 = .ok (.aload_n 1, 1) := by decide +kernel
theorem dX1_pay_42 : decode cX1_pay 42 = .ok (.iload_n 3, 1) := by decide +kernel
theorem dX1_pay_43 : decode cX1_pay 43 = .ok (.invokevirtual 53, 3) := by decide +kernel
theorem dX1_pay_46 : decode cX1_pay 46 = .ok (.aload_n 1, 1) := by decide +kernel
theorem dX1_pay_47 : decode cX1_pay 47 = .ok (.getfield 59, 3) := by decide +kernel
theorem dX1_pay_50 : decode cX1_pay 50 = .ok (.aload_n 0, 1) := by decide +kernel
theorem dX1_pay_51 : decode cX1_pay 51 = .ok (.getfield 50, 3) := by decide +kernel
theorem dX1_pay_54 : decode cX1_pay 54 = .ok (.isub, 1) := by decide +kernel
theorem dX1_pay_55 : decode cX1_pay 55 = .ok (.invokestatic 62, 3) := by decide +kernel
theorem dX1_pay_58 : decode cX1_pay 58 = .ok (.iastore, 1) := by decide +kernel
theorem dX1_pay_59 : decode cX1_pay 59 = .ok (.aload_n 0, 1) := by decide +kernel
theorem dX1_pay_60 : decode cX1_pay 60 = .ok (.dup, 1) := by decide +kernel
theorem dX1_pay_61 : decode cX1_pay 61 = .ok (.getfield 50, 3) := by decide +kernel
theorem dX1_pay_64 : decode cX1_pay 64 = .ok (.aload_n 0, 1) := by decide +kernel
theorem dX1_pay_65 : decode cX1_pay 65 = .ok (.getfield 9, 3) := by decide +kernel
theorem dX1_pay_68 : decode cX1_pay 68 = .ok (.iload_n 3, 1) := by decide +kernel
theorem dX1_pay_69 : decode cX1_pay 69 = .ok (.iaload, 1) := by decide +kernel
theorem dX1_pay_70 : decode cX1_pay 70 = .ok (.iadd, 1) := by decide +kernel
theorem dX1_pay_71 : decode cX1_pay 71 = .ok (.putfield 50, 3) := by decide +kernel
theorem dX1_pay_74 : decode cX1_pay 74 = .ok (.iinc 2 1, 3) := by decide +kernel
theorem dX1_pay_77 : decode cX1_pay 77 = .ok (.goto (-62), 3) := by decide +kernel
theorem dX1_pay_80 : decode cX1_pay 80 = .ok (.return_, 1) := by decide +kernel
theorem gX1_pay_J7_fill_53178 : GoodIn wtX1_pay (va_wsS RX1 44 yJ7_fill_53178 wtJ7_fill_53178) := tb_good (tb_s0 wd_742 wd_73 wd_74 wd_75)
theorem gX1_pay_X4_paidFirst : GoodIn wtX1_pay (wsV RX1 53 RX4 yX4_paidFirst wtX4_paidFirst) := tb_good (tb_v0 wd_743 wd_744 wd_745 wd_16 wd_746)
set_option maxHeartbeats 4000000 in
set_option maxRecDepth 100000 in
theorem m_X1_pay (l : Launch) (D : va_G) (cI cJ : ClassId) (sz : Nat) (x3 t0 t1 t2 t3 t6 t8 x1 x0 s1 s2 s5 s6 s7 s8 s9 s10 s11 b0 b1 b2 b3 b4 b5 b6 b7 b8 b9 b10 b11 pm np nl pn : Nat) (ti4 ti7 si4 si12 si13 bi14 : Int32) (T0 T6 B5 S8 S10 : Nat → Int32) (hor : ∀ k, k < 8 → ∃ j : Nat, j < 8 ∧ T6 k = nI j) : Met l yX1_pay wtX1_pay { frames := 1, cells := 0, slots := 0, locals := 23 } (cPc D cI cJ [.ref x3, .ref x1] sz [(oX1 x3 t0 t1 t2 t3 ti4 (nI pm) t6 ti7 t8), (aIc cI t0 8 T0), (aIc cI t6 8 T6), (oX4 x1 x0 s1 s2 (nI pn) si4 s5 s6 s7 s8 s9 s10 s11 si12 si13), (oX0 x0 b0 b1 b2 b3 b4 b5 b6 b7 b8 b9 b10 b11 (nI np) (nI nl) bi14), (aIc cI b5 8 B5), (aIc cI s8 8 S8), (aIc cI s10 8 S10)]) (cQv D (fun u => ∃ (T0p : Nat → Int32) (ti4p : Int32), u = [(oX1 x3 t0 t1 t2 t3 ti4p (nI pm) t6 ti7 t8), (aIc cI t0 8 T0p), (aIc cI t6 8 T6), (oX4 x1 x0 s1 s2 (nI pn) si4 s5 s6 s7 s8 s9 s10 s11 si12 si13), (oX0 x0 b0 b1 b2 b3 b4 b5 b6 b7 b8 b9 b10 b11 (nI np) (nI nl) bi14), (aIc cI b5 8 B5), (aIc cI s8 8 S8), (aIc cI s10 8 S10)]) (va_A [(oX1 x3 t0 t1 t2 t3 ti4 (nI pm) t6 ti7 t8), (aIc cI t0 8 T0), (aIc cI t6 8 T6), (oX4 x1 x0 s1 s2 (nI pn) si4 s5 s6 s7 s8 s9 s10 s11 si12 si13), (oX0 x0 b0 b1 b2 b3 b4 b5 b6 b7 b8 b9 b10 b11 (nI np) (nI nl) bi14), (aIc cI b5 8 B5), (aIc cI s8 8 S8), (aIc cI s10 8 S10)] sz)) 0 0 (va_A [(oX1 x3 t0 t1 t2 t3 ti4 (nI pm) t6 ti7 t8), (aIc cI t0 8 T0), (aIc cI t6 8 T6), (oX4 x1 x0 s1 s2 (nI pn) si4 s5 s6 s7 s8 s9 s10 s11 si12 si13), (oX0 x0 b0 b1 b2 b3 b4 b5 b6 b7 b8 b9 b10 b11 (nI np) (nI nl) bi14), (aIc cI b5 8 B5), (aIc cI s8 8 S8), (aIc cI s10 8 S10)] sz) := by
  refine k_ofW (Qc := cQv D (fun u => ∃ (T0p : Nat → Int32) (ti4p : Int32), u = [(oX1 x3 t0 t1 t2 t3 ti4p (nI pm) t6 ti7 t8), (aIc cI t0 8 T0p), (aIc cI t6 8 T6), (oX4 x1 x0 s1 s2 (nI pn) si4 s5 s6 s7 s8 s9 s10 s11 si12 si13), (oX0 x0 b0 b1 b2 b3 b4 b5 b6 b7 b8 b9 b10 b11 (nI np) (nI nl) bi14), (aIc cI b5 8 B5), (aIc cI s8 8 S8), (aIc cI s10 8 S10)])) (by decide) rfl (Nat.le_of_ble_eq_true rfl) ?_
  intro p e s m below meth c A ls hx hb hr hml hts hown hlk hnm hsz hE hP hD hS hA hl
  have hown : s.vm.findClass RX1 = some m.cls := hown
  have hiX1 : ∀ w ∈ u_ws RX1 TX1 9, w ∈ wtX1_pay := fun w h => List.mem_cons_of_mem _ (iuX1 w h)
  have hiX4 : ∀ w ∈ u_ws RX4 TX4 14, w ∈ wtX1_pay := fun w h => List.mem_cons_of_mem _ (iuX4 w h)
  have hl : lv_has ls 4 [(0, .ref x3), (1, .ref x1)] := hl
  refine lv_aload_n hx hb dX1_pay_0 rfl (lv_at hl 0 rfl) ?_
  refine va_get (D := D) (ci := 1) (v := .ref t0) (C := RX1) (T := TX1) (N := 9) hx hb hts hiX1 hown hE.1 hP 0 rfl rfl 0 (by decide) (hts _ (List.mem_cons_of_mem _ wd_99)) (fun _ h9 => h9) rfl dX1_pay_1 ?_
  refine lv_iconst (v := 0) hx hb dX1_pay_4 (by decide) ?_
  refine k_v (va_runS (As := [.ref t0, .int 0]) (rest := []) ⟨hx, hb, hml, hown, hts⟩ (m_J7_fill l D cI cJ (s.heap).size t0 0 8 T0 (by decide)) (va_cwS 2 hts gX1_pay_J7_fill_53178 rfl rfl rfl (by decide +kernel) ⟨Nat.le_of_ble_eq_true rfl, Nat.le_of_ble_eq_true rfl⟩) (k_pre hE hP hD [1] (by decide +kernel) rfl) rfl rfl hl.1 rfl (lv_room (Nat.le_of_ble_eq_true rfl)) dX1_pay_5 ⟨Nat.le_of_ble_eq_true rfl, Nat.le_of_ble_eq_true rfl⟩) hP hD hS hA [1] [0, 2, 3, 4, 5, 6, 7] rfl (wr := [(oX1 x3 t0 t1 t2 t3 ti4 (nI pm) t6 ti7 t8), (aIc cI t6 8 T6), (oX4 x1 x0 s1 s2 (nI pn) si4 s5 s6 s7 s8 s9 s10 s11 si12 si13), (oX0 x0 b0 b1 b2 b3 b4 b5 b6 b7 b8 b9 b10 b11 (nI np) (nI nl) bi14), (aIc cI b5 8 B5), (aIc cI s8 8 S8), (aIc cI s10 8 S10)]) rfl (by decide +kernel) (by decide +kernel) (fun u H locs hw1 hP hD hS => ?_)
  subst hw1
  refine k_re (w := [(oX1 x3 t0 t1 t2 t3 ti4 (nI pm) t6 ti7 t8), (aIc cI t6 8 T6), (oX4 x1 x0 s1 s2 (nI pn) si4 s5 s6 s7 s8 s9 s10 s11 si12 si13), (oX0 x0 b0 b1 b2 b3 b4 b5 b6 b7 b8 b9 b10 b11 (nI np) (nI nl) bi14), (aIc cI b5 8 B5), (aIc cI s8 8 S8), (aIc cI s10 8 S10), (aIc cI t0 8 (fl 8 0 T0))]) hP hD (fun hP hD => ?_)
  refine lv_aload_n hx hb dX1_pay_8 rfl (lv_at hl 0 rfl) ?_
  refine lv_iconst (v := 0) hx hb dX1_pay_9 (by decide) ?_
  refine va_put (D := D) (ci := 1) (v := .int 0) (ty := .int) (C := RX1) (T := TX1) (N := 9) hx hb hts hiX1 tyX1 tyX1_ok nmX1 hown hE.1 hP hD hS 0 rfl rfl 4 (by decide) (hts _ (List.mem_cons_of_mem _ wd_739)) (fun _ h9 => h9) rfl (by decide +kernel) rfl rfl (Nat.le_of_ble_eq_true rfl) dX1_pay_10 (fun H locs hP hD hS => ?_)
  refine k_re (w := [(oX1 x3 t0 t1 t2 t3 0 (nI pm) t6 ti7 t8), (aIc cI t6 8 T6), (oX4 x1 x0 s1 s2 (nI pn) si4 s5 s6 s7 s8 s9 s10 s11 si12 si13), (oX0 x0 b0 b1 b2 b3 b4 b5 b6 b7 b8 b9 b10 b11 (nI np) (nI nl) bi14), (aIc cI b5 8 B5), (aIc cI s8 8 S8), (aIc cI s10 8 S10), (aIc cI t0 8 (fl 8 0 T0))]) hP hD (fun hP hD => ?_)
  refine lv_iconst (v := 0) hx hb dX1_pay_13 (by decide) ?_
  refine lv_istore_n (lv' := [(2, .int 0), (0, .ref x3), (1, .ref x1)]) hx hb dX1_pay_14 rfl hl (by decide) rfl (fun ls hl => ?_)
  have J15 : ∀ (zz : Nat) (i15 : Nat) (a_t0_15 : Nat → Int32) (f1_4_15 : Int32), (i15 ≤ 8) → (8 - i15) < zz → ∀ (H : Heap) (locs : List Loc) (ls : Array Slot), va_P D vwCl [(oX1 x3 t0 t1 t2 t3 f1_4_15 (nI pm) t6 ti7 t8), (aIc cI t6 8 T6), (oX4 x1 x0 s1 s2 (nI pn) si4 s5 s6 s7 s8 s9 s10 s11 si12 si13), (oX0 x0 b0 b1 b2 b3 b4 b5 b6 b7 b8 b9 b10 b11 (nI np) (nI nl) bi14), (aIc cI b5 8 B5), (aIc cI s8 8 S8), (aIc cI s10 8 S10), (aIc cI t0 8 a_t0_15)] H → va_D A [(oX1 x3 t0 t1 t2 t3 f1_4_15 (nI pm) t6 ti7 t8), (aIc cI t6 8 T6), (oX4 x1 x0 s1 s2 (nI pn) si4 s5 s6 s7 s8 s9 s10 s11 si12 si13), (oX0 x0 b0 b1 b2 b3 b4 b5 b6 b7 b8 b9 b10 b11 (nI np) (nI nl) bi14), (aIc cI b5 8 B5), (aIc cI s8 8 S8), (aIc cI s10 8 S10), (aIc cI t0 8 a_t0_15)] → va_S A s.heap H locs → lv_has ls 4 [(2, .int (nI i15)), (0, .ref x3), (1, .ref x1)] → W p l e { frames := 1, cells := 0, slots := 0, locals := 23 } s m [.ref x3, .ref x1].toArray below meth c H locs 0 0 (MQ below (cQv D (fun u => ∃ (T0p : Nat → Int32) (ti4p : Int32), u = [(oX1 x3 t0 t1 t2 t3 ti4p (nI pm) t6 ti7 t8), (aIc cI t0 8 T0p), (aIc cI t6 8 T6), (oX4 x1 x0 s1 s2 (nI pn) si4 s5 s6 s7 s8 s9 s10 s11 si12 si13), (oX0 x0 b0 b1 b2 b3 b4 b5 b6 b7 b8 b9 b10 b11 (nI np) (nI nl) bi14), (aIc cI b5 8 B5), (aIc cI s8 8 S8), (aIc cI s10 8 S10)]) A) [.ref x3, .ref x1].toArray s 0 0 A) (F0 m 15 ls []) := by
    intro zz
    induction zz with
    | zero => intro i15 a_t0_15 f1_4_15 _; exact fun h => absurd h (Nat.not_lt_zero _)
    | succ zz ih15 =>
      intro i15 a_t0_15 f1_4_15 hc2_15 hmu15 H locs ls hP hD hS hl
      refine lv_iload_n hx hb dX1_pay_15 rfl (lv_at hl 0 rfl) ?_
      refine lv_aload_n hx hb dX1_pay_16 rfl (lv_at hl 1 rfl) ?_
      refine va_get (D := D) (ci := 1) (v := .int ti7) (C := RX1) (T := TX1) (N := 9) hx hb hts hiX1 hown hE.1 hP 0 rfl rfl 7 (by decide) (hts _ (List.mem_cons_of_mem _ wd_733)) (fun _ h9 => h9) rfl dX1_pay_17 ?_
      refine lv_icmp_ge (tgt := 80) hx hb dX1_pay_20 (by decide) (fun c2 => ?_) (fun c2 => ?_)
      · skip
        refine k_vret (u := [(oX1 x3 t0 t1 t2 t3 f1_4_15 (nI pm) t6 ti7 t8), (aIc cI t0 8 a_t0_15), (aIc cI t6 8 T6), (oX4 x1 x0 s1 s2 (nI pn) si4 s5 s6 s7 s8 s9 s10 s11 si12 si13), (oX0 x0 b0 b1 b2 b3 b4 b5 b6 b7 b8 b9 b10 b11 (nI np) (nI nl) bi14), (aIc cI b5 8 B5), (aIc cI s8 8 S8), (aIc cI s10 8 S10)]) hx hb hr hlk (k_sub hP [0, 7, 1, 2, 3, 4, 5, 6] rfl) (hD.sub [0, 7, 1, 2, 3, 4, 5, 6] (by decide +kernel) rfl) hS dX1_pay_80 ?_
        exact ⟨a_t0_15, f1_4_15, rfl⟩
      · skip
        refine lv_iload_n hx hb dX1_pay_23 rfl (lv_at hl 0 rfl) ?_
        refine lv_bipush (v := 8) hx hb dX1_pay_24 (by decide) ?_
        refine lv_icmp_ge (tgt := 80) hx hb dX1_pay_26 (by decide) (fun c3 => ?_) (fun c3 => ?_)
        · skip
          have nc3 : 8 ≤ i15 := (nI_leI (a := 8) (b := i15) (by omega) (by omega)).mp c3
          refine k_vret (u := [(oX1 x3 t0 t1 t2 t3 f1_4_15 (nI pm) t6 ti7 t8), (aIc cI t0 8 a_t0_15), (aIc cI t6 8 T6), (oX4 x1 x0 s1 s2 (nI pn) si4 s5 s6 s7 s8 s9 s10 s11 si12 si13), (oX0 x0 b0 b1 b2 b3 b4 b5 b6 b7 b8 b9 b10 b11 (nI np) (nI nl) bi14), (aIc cI b5 8 B5), (aIc cI s8 8 S8), (aIc cI s10 8 S10)]) hx hb hr hlk (k_sub hP [0, 7, 1, 2, 3, 4, 5, 6] rfl) (hD.sub [0, 7, 1, 2, 3, 4, 5, 6] (by decide +kernel) rfl) hS dX1_pay_80 ?_
          exact ⟨a_t0_15, f1_4_15, rfl⟩
        · skip
          have nc3 : ¬ 8 ≤ i15 := fun q9 => c3 ((nI_leI (a := 8) (b := i15) (by omega) (by omega)).mpr q9)
          refine lv_aload_n hx hb dX1_pay_29 rfl (lv_at hl 1 rfl) ?_
          refine va_get (D := D) (ci := 1) (v := .ref t6) (C := RX1) (T := TX1) (N := 9) hx hb hts hiX1 hown hE.1 hP 0 rfl rfl 6 (by decide) (hts _ (List.mem_cons_of_mem _ wd_103)) (fun _ h9 => h9) rfl dX1_pay_30 ?_
          refine lv_iload_n hx hb dX1_pay_33 rfl (lv_at hl 0 rfl) ?_
          refine va_iald hx hb hE.1 hP 1 0 rfl rfl (vp_in_nI (n := i15) (by omega) (by decide)) dX1_pay_34 ?_
          refine lv_topi (fun v4 ev4 => ?_)
          obtain ⟨n5, hn5, en5⟩ := li_at (n := i15) hor (by omega) (by decide)
          obtain rfl : v4 = nI n5 := ev4.trans en5
          refine lv_istore_n (lv' := [(3, .int (nI n5)), (2, .int (nI i15)), (0, .ref x3), (1, .ref x1)]) hx hb dX1_pay_35 rfl hl (by decide) rfl (fun ls hl => ?_)
          refine lv_aload_n hx hb dX1_pay_36 rfl (lv_at hl 2 rfl) ?_
          refine va_get (D := D) (ci := 1) (v := .ref t0) (C := RX1) (T := TX1) (N := 9) hx hb hts hiX1 hown hE.1 hP 0 rfl rfl 0 (by decide) (hts _ (List.mem_cons_of_mem _ wd_99)) (fun _ h9 => h9) rfl dX1_pay_37 ?_
          refine lv_iload_n hx hb dX1_pay_40 rfl (lv_at hl 0 rfl) ?_
          refine lv_aload_n hx hb dX1_pay_41 rfl (lv_at hl 3 rfl) ?_
          refine lv_iload_n hx hb dX1_pay_42 rfl (lv_at hl 0 rfl) ?_
          refine k_iS (va_runV (As := [.int (nI n5)]) (rest := [.int (nI n5), .ref t0]) ⟨hx, hb, hml, hown, hts⟩ (m_X4_paidFirst l D cI cJ H.size x1 x0 s1 s2 s5 s6 s7 s8 s9 s10 s11 b0 b1 b2 b3 b4 b5 b6 b7 b8 b9 b10 b11 n5 np nl pn si4 si12 si13 bi14 B5 S8 S10 (by omega)) (cwV 1 hts gX1_pay_X4_paidFirst rfl rfl rfl (by decide +kernel) ⟨Nat.le_of_ble_eq_true rfl, Nat.le_of_ble_eq_true rfl⟩) (k_preV hE hP hD [2, 3, 4, 5, 6] (by decide +kernel) rfl 2 rfl rfl) rfl rfl hl.1 rfl (lv_room (Nat.le_of_ble_eq_true rfl)) dX1_pay_43 ⟨Nat.le_of_ble_eq_true rfl, Nat.le_of_ble_eq_true rfl⟩) hP hD hS hA [2, 3, 4, 5, 6] rfl (fun _ _ h9 => h9) (fun r6 H locs hw7 hP hD hS => ?_)
          refine lv_aload_n hx hb dX1_pay_46 rfl (lv_at hl 3 rfl) ?_
          refine va_get (D := D) (ci := 4) (v := .int si12) (C := RX4) (T := TX4) (N := 14) hx hb hts hiX4 hown hE.1 hP 2 rfl rfl 12 (by decide) (hts _ (List.mem_cons_of_mem _ wd_740)) (fun _ h9 => h9) rfl dX1_pay_47 ?_
          refine lv_aload_n hx hb dX1_pay_50 rfl (lv_at hl 2 rfl) ?_
          refine va_get (D := D) (ci := 1) (v := .int f1_4_15) (C := RX1) (T := TX1) (N := 9) hx hb hts hiX1 hown hE.1 hP 0 rfl rfl 4 (by decide) (hts _ (List.mem_cons_of_mem _ wd_739)) (fun _ h9 => h9) rfl dX1_pay_51 ?_
          refine lv_isub hx hb dX1_pay_54 ?_
          refine lv_topi (fun v8 ev8 => ?_)
          refine va_mmin hx hb (by rw [hml]; exact hl.1.symm) hown (hts _ (List.mem_cons_of_mem _ wd_741)) (hts _ (List.mem_cons_of_mem _ wd_327)) (hts _ (List.mem_cons_of_mem _ wd_324)) (hts _ (List.mem_cons_of_mem _ wd_328)) (Nat.le_of_ble_eq_true rfl) (Nat.le_of_ble_eq_true rfl) (Nat.le_of_ble_eq_true rfl) (Nat.le_of_ble_eq_true rfl) dX1_pay_55 ?_
          refine lv_topi (fun v9 ev9 => ?_)
          refine va_iast hx hb hE.1 hP hD hS 7 0 rfl rfl (vp_in_nI (n := n5) (by omega) (by decide)) dX1_pay_58 (fun H locs hP hD hS => ?_)
          refine k_re (w := [(oX1 x3 t0 t1 t2 t3 f1_4_15 (nI pm) t6 ti7 t8), (aIc cI t6 8 T6), (oX4 x1 x0 s1 s2 (nI pn) si4 s5 s6 s7 s8 s9 s10 s11 si12 si13), (oX0 x0 b0 b1 b2 b3 b4 b5 b6 b7 b8 b9 b10 b11 (nI np) (nI nl) bi14), (aIc cI b5 8 B5), (aIc cI s8 8 S8), (aIc cI s10 8 S10), (aIc cI t0 8 (upd a_t0_15 (Int32.toNatClampNeg (nI n5)) v9))]) hP hD (fun hP hD => ?_)
          refine lv_aload_n hx hb dX1_pay_59 rfl (lv_at hl 2 rfl) ?_
          refine lv_dup hx hb dX1_pay_60 rfl ?_
          refine va_get (D := D) (ci := 1) (v := .int f1_4_15) (C := RX1) (T := TX1) (N := 9) hx hb hts hiX1 hown hE.1 hP 0 rfl rfl 4 (by decide) (hts _ (List.mem_cons_of_mem _ wd_739)) (fun _ h9 => h9) rfl dX1_pay_61 ?_
          refine lv_aload_n hx hb dX1_pay_64 rfl (lv_at hl 2 rfl) ?_
          refine va_get (D := D) (ci := 1) (v := .ref t0) (C := RX1) (T := TX1) (N := 9) hx hb hts hiX1 hown hE.1 hP 0 rfl rfl 0 (by decide) (hts _ (List.mem_cons_of_mem _ wd_99)) (fun _ h9 => h9) rfl dX1_pay_65 ?_
          refine lv_iload_n hx hb dX1_pay_68 rfl (lv_at hl 0 rfl) ?_
          refine va_iald hx hb hE.1 hP 7 0 rfl rfl (vp_in_nI (n := n5) (by omega) (by decide)) dX1_pay_69 ?_
          refine lv_topi (fun v10 ev10 => ?_)
          refine lv_iadd hx hb dX1_pay_70 ?_
          refine lv_topi (fun v11 ev11 => ?_)
          refine va_put (D := D) (ci := 1) (v := .int v11) (ty := .int) (C := RX1) (T := TX1) (N := 9) hx hb hts hiX1 tyX1 tyX1_ok nmX1 hown hE.1 hP hD hS 0 rfl rfl 4 (by decide) (hts _ (List.mem_cons_of_mem _ wd_739)) (fun _ h9 => h9) rfl (by decide +kernel) rfl rfl (Nat.le_of_ble_eq_true rfl) dX1_pay_71 (fun H locs hP hD hS => ?_)
          refine k_re (w := [(oX1 x3 t0 t1 t2 t3 v11 (nI pm) t6 ti7 t8), (aIc cI t6 8 T6), (oX4 x1 x0 s1 s2 (nI pn) si4 s5 s6 s7 s8 s9 s10 s11 si12 si13), (oX0 x0 b0 b1 b2 b3 b4 b5 b6 b7 b8 b9 b10 b11 (nI np) (nI nl) bi14), (aIc cI b5 8 B5), (aIc cI s8 8 S8), (aIc cI s10 8 S10), (aIc cI t0 8 (upd a_t0_15 (Int32.toNatClampNeg (nI n5)) v9))]) hP hD (fun hP hD => ?_)
          refine lv_iinc (v := (nI (i15 + 1))) (lv' := [(2, .int (nI (i15 + 1))), (3, .int (nI n5)), (0, .ref x3), (1, .ref x1)]) hx hb dX1_pay_74 hl (k := 1) rfl (nI_1 _) (by decide) rfl (fun ls hl => ?_)
          refine lv_goto (tgt := 15) hx hb dX1_pay_77 (by decide) ?_
          exact ih15 (i15 + 1) (upd a_t0_15 (Int32.toNatClampNeg (nI n5)) v9) v11 (by omega) (by omega) _ _ _ hP hD hS (lv_sub hl [0, 2, 3] rfl)
  exact J15 _ 0 (fl 8 0 T0) 0 (by omega) (Nat.lt_succ_self _) _ _ _ hP hD hS (lv_sub hl [0, 1, 2] rfl)
theorem dX1_leastBelow_0 : decode cX1_leastBelow 0 = .ok (.iconst 0, 1) := by decide +kernel
theorem dX1_leastBelow_1 : decode cX1_leastBelow 1 = .ok (.istore_n 1, 1) := by decide +kernel
theorem dX1_leastBelow_2 : decode cX1_leastBelow 2 = .ok (.iload_n 1, 1) := by decide +kernel
theorem dX1_leastBelow_3 : decode cX1_leastBelow 3 = .ok (.bipush 8, 2) := by decide +kernel
theorem dX1_leastBelow_5 : decode cX1_leastBelow 5 = .ok (.if_icmp .ge 20, 3) := by decide +kernel
theorem dX1_leastBelow_8 : decode cX1_leastBelow 8 = .ok (.aload_n 0, 1) := by decide +kernel
theorem dX1_leastBelow_9 : decode cX1_leastBelow 9 = .ok (.getfield 27, 3) := by decide +kernel
theorem dX1_leastBelow_12 : decode cX1_leastBelow 12 = .ok (.iload_n 1, 1) := by decide +kernel
theorem dX1_leastBelow_13 : decode cX1_leastBelow 13 = .ok (.iaload, 1) := by decide +kernel
theorem dX1_leastBelow_14 : decode cX1_leastBelow 14 = .ok (.ifCond .ge 5, 3) := by decide +kernel
theorem dX1_leastBelow_17 : decode cX1_leastBelow 17 = .ok (.iload_n 1, 1) := by decide +kernel
theorem dX1_leastBelow_18 : decode cX1_leastBelow 18 = .ok (.ireturn, 1) := by decide +kernel
theorem dX1_leastBelow_19 : decode cX1_leastBelow 19 = .ok (.iinc 1 1, 3) := by decide +kernel
theorem dX1_leastBelow_22 : decode cX1_leastBelow 22 = .ok (.goto (-20), 3) := by decide +kernel
theorem dX1_leastBelow_25 : decode cX1_leastBelow 25 = .ok (.iconst (-1), 1) := by decide +kernel
theorem dX1_leastBelow_26 : decode cX1_leastBelow 26 = .ok (.ireturn, 1) := by decide +kernel
set_option maxHeartbeats 4000000 in
set_option maxRecDepth 100000 in
theorem m_X1_leastBelow (l : Launch) (D : va_G) (cI cJ : ClassId) (sz : Nat) (x3 t0 t1 t2 t3 t6 t8 pm : Nat) (ti4 ti7 : Int32) (T8 : Nat → Int32) : Met l yX1_leastBelow wtX1_leastBelow { frames := 0, cells := 0, slots := 0, locals := 0 } (cPc D cI cJ [.ref x3] sz [(oX1 x3 t0 t1 t2 t3 ti4 (nI pm) t6 ti7 t8), (aIc cI t8 9 T8)]) (cQi D (fun r u => (r = -1 ∨ ∃ k : Nat, k < 8 ∧ r = nI k) ∧ u = [(oX1 x3 t0 t1 t2 t3 ti4 (nI pm) t6 ti7 t8), (aIc cI t8 9 T8)]) (va_A [(oX1 x3 t0 t1 t2 t3 ti4 (nI pm) t6 ti7 t8), (aIc cI t8 9 T8)] sz)) 0 0 (va_A [(oX1 x3 t0 t1 t2 t3 ti4 (nI pm) t6 ti7 t8), (aIc cI t8 9 T8)] sz) := by
  refine k_ofW (Qc := cQi D (fun r u => (r = -1 ∨ ∃ k : Nat, k < 8 ∧ r = nI k) ∧ u = [(oX1 x3 t0 t1 t2 t3 ti4 (nI pm) t6 ti7 t8), (aIc cI t8 9 T8)])) (by decide) rfl (Nat.le_of_ble_eq_true rfl) ?_
  intro p e s m below meth c A ls hx hb hr hml hts hown hlk hnm hsz hE hP hD hS hA hl
  have hown : s.vm.findClass RX1 = some m.cls := hown
  have hiX1 : ∀ w ∈ u_ws RX1 TX1 9, w ∈ wtX1_leastBelow := fun w h => List.mem_cons_of_mem _ (iuX1 w h)
  have hl : lv_has ls 2 [(0, .ref x3)] := hl
  refine lv_iconst (v := 0) hx hb dX1_leastBelow_0 (by decide) ?_
  refine lv_istore_n (lv' := [(1, .int 0), (0, .ref x3)]) hx hb dX1_leastBelow_1 rfl hl (by decide) rfl (fun ls hl => ?_)
  have J2 : ∀ (zz : Nat) (i2 : Nat), (i2 ≤ 8) → (8 - i2) < zz → ∀ (H : Heap) (locs : List Loc) (ls : Array Slot), va_P D vwCl [(oX1 x3 t0 t1 t2 t3 ti4 (nI pm) t6 ti7 t8), (aIc cI t8 9 T8)] H → va_D A [(oX1 x3 t0 t1 t2 t3 ti4 (nI pm) t6 ti7 t8), (aIc cI t8 9 T8)] → va_S A s.heap H locs → lv_has ls 2 [(1, .int (nI i2)), (0, .ref x3)] → W p l e { frames := 0, cells := 0, slots := 0, locals := 0 } s m [.ref x3].toArray below meth c H locs 0 0 (MQ below (cQi D (fun r u => (r = -1 ∨ ∃ k : Nat, k < 8 ∧ r = nI k) ∧ u = [(oX1 x3 t0 t1 t2 t3 ti4 (nI pm) t6 ti7 t8), (aIc cI t8 9 T8)]) A) [.ref x3].toArray s 0 0 A) (F0 m 2 ls []) := by
    intro zz
    induction zz with
    | zero => intro i2 _; exact fun h => absurd h (Nat.not_lt_zero _)
    | succ zz ih2 =>
      intro i2 hc1_2 hmu2 H locs ls hP hD hS hl
      refine lv_iload_n hx hb dX1_leastBelow_2 rfl (lv_at hl 0 rfl) ?_
      refine lv_bipush (v := 8) hx hb dX1_leastBelow_3 (by decide) ?_
      refine lv_icmp_ge (tgt := 25) hx hb dX1_leastBelow_5 (by decide) (fun c1 => ?_) (fun c1 => ?_)
      · skip
        have nc1 : 8 ≤ i2 := (nI_leI (a := 8) (b := i2) (by omega) (by omega)).mp c1
        refine lv_iconst (v := (-1)) hx hb dX1_leastBelow_25 (by decide) ?_
        refine k_iret (u := [(oX1 x3 t0 t1 t2 t3 ti4 (nI pm) t6 ti7 t8), (aIc cI t8 9 T8)]) hx hb hr hlk hP hD hS dX1_leastBelow_26 ?_
        exact ⟨(Or.inl rfl), rfl⟩
      · skip
        have nc1 : ¬ 8 ≤ i2 := fun q9 => c1 ((nI_leI (a := 8) (b := i2) (by omega) (by omega)).mpr q9)
        refine lv_aload_n hx hb dX1_leastBelow_8 rfl (lv_at hl 1 rfl) ?_
        refine va_get (D := D) (ci := 1) (v := .ref t8) (C := RX1) (T := TX1) (N := 9) hx hb hts hiX1 hown hE.1 hP 0 rfl rfl 8 (by decide) (hts _ (List.mem_cons_of_mem _ wd_104)) (fun _ h9 => h9) rfl dX1_leastBelow_9 ?_
        refine lv_iload_n hx hb dX1_leastBelow_12 rfl (lv_at hl 0 rfl) ?_
        refine va_iald hx hb hE.1 hP 1 0 rfl rfl (vp_in_nI (n := i2) (by omega) (by decide)) dX1_leastBelow_13 ?_
        refine lv_topi (fun v2 ev2 => ?_)
        refine lv_if_ge (tgt := 19) hx hb dX1_leastBelow_14 (by decide) (fun c3 => ?_) (fun c3 => ?_)
        · skip
          refine lv_iinc (v := (nI (i2 + 1))) (lv' := [(1, .int (nI (i2 + 1))), (0, .ref x3)]) hx hb dX1_leastBelow_19 hl (k := 0) rfl (nI_1 _) (by decide) rfl (fun ls hl => ?_)
          refine lv_goto (tgt := 2) hx hb dX1_leastBelow_22 (by decide) ?_
          exact ih2 (i2 + 1) (by omega) (by omega) _ _ _ hP hD hS (lv_sub hl [0, 1] rfl)
        · skip
          refine lv_iload_n hx hb dX1_leastBelow_17 rfl (lv_at hl 0 rfl) ?_
          refine k_iret (u := [(oX1 x3 t0 t1 t2 t3 ti4 (nI pm) t6 ti7 t8), (aIc cI t8 9 T8)]) hx hb hr hlk hP hD hS dX1_leastBelow_18 ?_
          exact ⟨(Or.inr ⟨i2, by omega, rfl⟩), rfl⟩
  exact J2 _ 0 (by omega) (Nat.lt_succ_self _) _ _ _ hP hD hS (lv_sub hl [0, 1] rfl)
theorem dX1_leastAbove_0 : decode cX1_leastAbove 0 = .ok (.iconst 0, 1) := by decide +kernel
theorem dX1_leastAbove_1 : decode cX1_leastAbove 1 = .ok (.istore_n 1, 1) := by decide +kernel
theorem dX1_leastAbove_2 : decode cX1_leastAbove 2 = .ok (.iload_n 1, 1) := by decide +kernel
theorem dX1_leastAbove_3 : decode cX1_leastAbove 3 = .ok (.bipush 8, 2) := by decide +kernel
theorem dX1_leastAbove_5 : decode cX1_leastAbove 5 = .ok (.if_icmp .ge 20, 3) := by decide +kernel
theorem dX1_leastAbove_8 : decode cX1_leastAbove 8 = .ok (.aload_n 0, 1) := by decide +kernel
theorem dX1_leastAbove_9 : decode cX1_leastAbove 9 = .ok (.getfield 27, 3) := by decide +kernel
theorem dX1_leastAbove_12 : decode cX1_leastAbove 12 = .ok (.iload_n 1, 1) := by decide +kernel
theorem dX1_leastAbove_13 : decode cX1_leastAbove 13 = .ok (.iaload, 1) := by decide +kernel
theorem dX1_leastAbove_14 : decode cX1_leastAbove 14 = .ok (.ifCond .le 5, 3) := by decide +kernel
theorem dX1_leastAbove_17 : decode cX1_leastAbove 17 = .ok (.iload_n 1, 1) := by decide +kernel
theorem dX1_leastAbove_18 : decode cX1_leastAbove 18 = .ok (.ireturn, 1) := by decide +kernel
theorem dX1_leastAbove_19 : decode cX1_leastAbove 19 = .ok (.iinc 1 1, 3) := by decide +kernel
theorem dX1_leastAbove_22 : decode cX1_leastAbove 22 = .ok (.goto (-20), 3) := by decide +kernel
theorem dX1_leastAbove_25 : decode cX1_leastAbove 25 = .ok (.iconst (-1), 1) := by decide +kernel
theorem dX1_leastAbove_26 : decode cX1_leastAbove 26 = .ok (.ireturn, 1) := by decide +kernel
set_option maxHeartbeats 4000000 in
set_option maxRecDepth 100000 in
theorem m_X1_leastAbove (l : Launch) (D : va_G) (cI cJ : ClassId) (sz : Nat) (x3 t0 t1 t2 t3 t6 t8 pm : Nat) (ti4 ti7 : Int32) (T8 : Nat → Int32) : Met l yX1_leastAbove wtX1_leastAbove { frames := 0, cells := 0, slots := 0, locals := 0 } (cPc D cI cJ [.ref x3] sz [(oX1 x3 t0 t1 t2 t3 ti4 (nI pm) t6 ti7 t8), (aIc cI t8 9 T8)]) (cQi D (fun r u => (r = -1 ∨ ∃ k : Nat, k < 8 ∧ r = nI k) ∧ u = [(oX1 x3 t0 t1 t2 t3 ti4 (nI pm) t6 ti7 t8), (aIc cI t8 9 T8)]) (va_A [(oX1 x3 t0 t1 t2 t3 ti4 (nI pm) t6 ti7 t8), (aIc cI t8 9 T8)] sz)) 0 0 (va_A [(oX1 x3 t0 t1 t2 t3 ti4 (nI pm) t6 ti7 t8), (aIc cI t8 9 T8)] sz) := by
  refine k_ofW (Qc := cQi D (fun r u => (r = -1 ∨ ∃ k : Nat, k < 8 ∧ r = nI k) ∧ u = [(oX1 x3 t0 t1 t2 t3 ti4 (nI pm) t6 ti7 t8), (aIc cI t8 9 T8)])) (by decide) rfl (Nat.le_of_ble_eq_true rfl) ?_
  intro p e s m below meth c A ls hx hb hr hml hts hown hlk hnm hsz hE hP hD hS hA hl
  have hown : s.vm.findClass RX1 = some m.cls := hown
  have hiX1 : ∀ w ∈ u_ws RX1 TX1 9, w ∈ wtX1_leastAbove := fun w h => List.mem_cons_of_mem _ (iuX1 w h)
  have hl : lv_has ls 2 [(0, .ref x3)] := hl
  refine lv_iconst (v := 0) hx hb dX1_leastAbove_0 (by decide) ?_
  refine lv_istore_n (lv' := [(1, .int 0), (0, .ref x3)]) hx hb dX1_leastAbove_1 rfl hl (by decide) rfl (fun ls hl => ?_)
  have J2 : ∀ (zz : Nat) (i2 : Nat), (i2 ≤ 8) → (8 - i2) < zz → ∀ (H : Heap) (locs : List Loc) (ls : Array Slot), va_P D vwCl [(oX1 x3 t0 t1 t2 t3 ti4 (nI pm) t6 ti7 t8), (aIc cI t8 9 T8)] H → va_D A [(oX1 x3 t0 t1 t2 t3 ti4 (nI pm) t6 ti7 t8), (aIc cI t8 9 T8)] → va_S A s.heap H locs → lv_has ls 2 [(1, .int (nI i2)), (0, .ref x3)] → W p l e { frames := 0, cells := 0, slots := 0, locals := 0 } s m [.ref x3].toArray below meth c H locs 0 0 (MQ below (cQi D (fun r u => (r = -1 ∨ ∃ k : Nat, k < 8 ∧ r = nI k) ∧ u = [(oX1 x3 t0 t1 t2 t3 ti4 (nI pm) t6 ti7 t8), (aIc cI t8 9 T8)]) A) [.ref x3].toArray s 0 0 A) (F0 m 2 ls []) := by
    intro zz
    induction zz with
    | zero => intro i2 _; exact fun h => absurd h (Nat.not_lt_zero _)
    | succ zz ih2 =>
      intro i2 hc1_2 hmu2 H locs ls hP hD hS hl
      refine lv_iload_n hx hb dX1_leastAbove_2 rfl (lv_at hl 0 rfl) ?_
      refine lv_bipush (v := 8) hx hb dX1_leastAbove_3 (by decide) ?_
      refine lv_icmp_ge (tgt := 25) hx hb dX1_leastAbove_5 (by decide) (fun c1 => ?_) (fun c1 => ?_)
      · skip
        have nc1 : 8 ≤ i2 := (nI_leI (a := 8) (b := i2) (by omega) (by omega)).mp c1
        refine lv_iconst (v := (-1)) hx hb dX1_leastAbove_25 (by decide) ?_
        refine k_iret (u := [(oX1 x3 t0 t1 t2 t3 ti4 (nI pm) t6 ti7 t8), (aIc cI t8 9 T8)]) hx hb hr hlk hP hD hS dX1_leastAbove_26 ?_
        exact ⟨(Or.inl rfl), rfl⟩
      · skip
        have nc1 : ¬ 8 ≤ i2 := fun q9 => c1 ((nI_leI (a := 8) (b := i2) (by omega) (by omega)).mpr q9)
        refine lv_aload_n hx hb dX1_leastAbove_8 rfl (lv_at hl 1 rfl) ?_
        refine va_get (D := D) (ci := 1) (v := .ref t8) (C := RX1) (T := TX1) (N := 9) hx hb hts hiX1 hown hE.1 hP 0 rfl rfl 8 (by decide) (hts _ (List.mem_cons_of_mem _ wd_104)) (fun _ h9 => h9) rfl dX1_leastAbove_9 ?_
        refine lv_iload_n hx hb dX1_leastAbove_12 rfl (lv_at hl 0 rfl) ?_
        refine va_iald hx hb hE.1 hP 1 0 rfl rfl (vp_in_nI (n := i2) (by omega) (by decide)) dX1_leastAbove_13 ?_
        refine lv_topi (fun v2 ev2 => ?_)
        refine lv_if_le (tgt := 19) hx hb dX1_leastAbove_14 (by decide) (fun c3 => ?_) (fun c3 => ?_)
        · skip
          refine lv_iinc (v := (nI (i2 + 1))) (lv' := [(1, .int (nI (i2 + 1))), (0, .ref x3)]) hx hb dX1_leastAbove_19 hl (k := 0) rfl (nI_1 _) (by decide) rfl (fun ls hl => ?_)
          refine lv_goto (tgt := 2) hx hb dX1_leastAbove_22 (by decide) ?_
          exact ih2 (i2 + 1) (by omega) (by omega) _ _ _ hP hD hS (lv_sub hl [0, 1] rfl)
        · skip
          refine lv_iload_n hx hb dX1_leastAbove_17 rfl (lv_at hl 0 rfl) ?_
          refine k_iret (u := [(oX1 x3 t0 t1 t2 t3 ti4 (nI pm) t6 ti7 t8), (aIc cI t8 9 T8)]) hx hb hr hlk hP hD hS dX1_leastAbove_18 ?_
          exact ⟨(Or.inr ⟨i2, by omega, rfl⟩), rfl⟩
  exact J2 _ 0 (by omega) (Nat.lt_succ_self _) _ _ _ hP hD hS (lv_sub hl [0, 1] rfl)
theorem dX1_settleBetween_0 : decode cX1_settleBetween 0 = .ok (.aload_n 0, 1) := by decide +kernel
theorem dX1_settleBetween_1 : decode cX1_settleBetween 1 = .ok (.getfield 27, 3) := by decide +kernel
theorem dX1_settleBetween_4 : decode cX1_settleBetween 4 = .ok (.iload_n 1, 1) := by decide +kernel
theorem dX1_settleBetween_5 : decode cX1_settleBetween 5 = .ok (.iaload, 1) := by decide +kernel
theorem dX1_settleBetween_6 : decode cX1_settleBetween 6 = .ok (.ineg, 1) := by decide +kernel
theorem dX1_settleBetween_7 : decode cX1_settleBetween 7 = .ok (.aload_n 0, 1) := by decide +kernel
theorem dX1_settleBetween_8 : decode cX1_settleBetween 8 = .ok (.getfield 27, 3) := by decide +kernel
theorem dX1_settleBetween_11 : decode cX1_settleBetween 11 = .ok (.iload_n 2, 1) := by decide +kernel
theorem dX1_settleBetween_12 : decode cX1_settleBetween 12 = .ok (.iaload, 1) := by decide +kernel
theorem dX1_settleBetween_13 : decode cX1_settleBetween 13 = .ok (.invokestatic 82, 3) := by decide +kernel
theorem dX1_settleBetween_16 : decode cX1_settleBetween 16 = .ok (.invokestatic 62, 3) := by decide +kernel
theorem dX1_settleBetween_19 : decode cX1_settleBetween 19 = .ok (.istore_n 3, 1) := by decide +kernel
theorem dX1_settleBetween_20 : decode cX1_settleBetween 20 = .ok (.aload_n 0, 1) := by decide +kernel
theorem dX1_settleBetween_21 : decode cX1_settleBetween 21 = .ok (.getfield 27, 3) := by decide +kernel
theorem dX1_settleBetween_24 : decode cX1_settleBetween 24 = .ok (.iload_n 1, 1) := by decide +kernel
theorem dX1_settleBetween_25 : decode cX1_settleBetween 25 = .ok (.dup2, 1) := by decide +kernel
theorem dX1_settleBetween_26 : decode cX1_settleBetween 26 = .ok (.iaload, 1) := by decide +kernel
theorem dX1_settleBetween_27 : decode cX1_settleBetween 27 = .ok (.iload_n 3, 1) := by decide +kernel
theorem dX1_settleBetween_28 : decode cX1_settleBetween 28 = .ok (.iadd, 1) := by decide +kernel
theorem dX1_settleBetween_29 : decode cX1_settleBetween 29 = .ok (.iastore, 1) := by decide +kernel
theorem dX1_settleBetween_30 : decode cX1_settleBetween 30 = .ok (.aload_n 0, 1) := by decide +kernel
theorem dX1_settleBetween_31 : decode cX1_settleBetween 31 = .ok (.getfield 27, 3) := by decide +kernel
theorem dX1_settleBetween_34 : decode cX1_settleBetween 34 = .ok (.iload_n 2, 1) := by decide +kernel
theorem dX1_settleBetween_35 : decode cX1_settleBetween 35 = .ok (.dup2, 1) := by decide +kernel
theorem dX1_settleBetween_36 : decode cX1_settleBetween 36 = .ok (.iaload, 1) := by decide +kernel
theorem dX1_settleBetween_37 : decode cX1_settleBetween 37 = .ok (.iload_n 2, 1) := by decide +kernel
theorem dX1_settleBetween_38 : decode cX1_settleBetween 38 = .ok (.bipush 8, 2) := by decide +kernel
theorem dX1_settleBetween_40 : decode cX1_settleBetween 40 = .ok (.if_icmp .ne 7, 3) := by decide +kernel
theorem dX1_settleBetween_43 : decode cX1_settleBetween 43 = .ok (.iload_n 3, 1) := by decide +kernel
theorem dX1_settleBetween_44 : decode cX1_settleBetween 44 = .ok (.goto 5, 3) := by decide +kernel
theorem dX1_settleBetween_47 : decode cX1_settleBetween 47 = .ok (.iload_n 3, 1) := by decide +kernel
theorem dX1_settleBetween_48 : decode cX1_settleBetween 48 = .ok (.ineg, 1) := by decide +kernel
theorem dX1_settleBetween_49 : decode cX1_settleBetween 49 = .ok (.iadd, 1) := by decide +kernel
theorem dX1_settleBetween_50 : decode cX1_settleBetween 50 = .ok (.iastore, 1) := by decide +kernel
theorem dX1_settleBetween_51 : decode cX1_settleBetween 51 = .ok (.aload_n 0, 1) := by decide +kernel
theorem dX1_settleBetween_52 : decode cX1_settleBetween 52 = .ok (.getfield 15, 3) := by decide +kernel
theorem dX1_settleBetween_55 : decode cX1_settleBetween 55 = .ok (.aload_n 0, 1) := by decide +kernel
theorem dX1_settleBetween_56 : decode cX1_settleBetween 56 = .ok (.getfield 68, 3) := by decide +kernel
theorem dX1_settleBetween_59 : decode cX1_settleBetween 59 = .ok (.iload_n 1, 1) := by decide +kernel
theorem dX1_settleBetween_60 : decode cX1_settleBetween 60 = .ok (.iastore, 1) := by decide +kernel
theorem dX1_settleBetween_61 : decode cX1_settleBetween 61 = .ok (.aload_n 0, 1) := by decide +kernel
theorem dX1_settleBetween_62 : decode cX1_settleBetween 62 = .ok (.getfield 18, 3) := by decide +kernel
theorem dX1_settleBetween_65 : decode cX1_settleBetween 65 = .ok (.aload_n 0, 1) := by decide +kernel
theorem dX1_settleBetween_66 : decode cX1_settleBetween 66 = .ok (.getfield 68, 3) := by decide +kernel
theorem dX1_settleBetween_69 : decode cX1_settleBetween 69 = .ok (.iload_n 2, 1) := by decide +kernel
theorem dX1_settleBetween_70 : decode cX1_settleBetween 70 = .ok (.iastore, 1) := by decide +kernel
theorem dX1_settleBetween_71 : decode cX1_settleBetween 71 = .ok (.aload_n 0, 1) := by decide +kernel
theorem dX1_settleBetween_72 : decode cX1_settleBetween 72 = .ok (.getfield 21, 3) := by decide +kernel
theorem dX1_settleBetween_75 : decode cX1_settleBetween 75 = .ok (.aload_n 0, 1) := by decide +kernel
theorem dX1_settleBetween_76 : decode cX1_settleBetween 76 = .ok (.getfield 68, 3) := by decide +kernel
theorem dX1_settleBetween_79 : decode cX1_settleBetween 79 = .ok (.iload_n 3, 1) := by decide +kernel
theorem dX1_settleBetween_80 : decode cX1_settleBetween 80 = .ok (.iastore, 1) := by decide +kernel
theorem dX1_settleBetween_81 : decode cX1_settleBetween 81 = .ok (.aload_n 0, 1) := by decide +kernel
theorem dX1_settleBetween_82 : decode cX1_settleBetween 82 = .ok (.dup, 1) := by decide +kernel
theorem dX1_settleBetween_83 : decode cX1_settleBetween 83 = .ok (.getfield 68, 3) := by decide +kernel
theorem dX1_settleBetween_86 : decode cX1_settleBetween 86 = .ok (.iconst 1, 1) := by decide +kernel
theorem dX1_settleBetween_87 : decode cX1_settleBetween 87 = .ok (.iadd, 1) := by decide +kernel
theorem dX1_settleBetween_88 : decode cX1_settleBetween 88 = .ok (.putfield 68, 3) := by decide +kernel
theorem dX1_settleBetween_91 : decode cX1_settleBetween 91 = .ok (.return_, 1) := by decide +kernel
set_option maxHeartbeats 4000000 in
set_option maxRecDepth 100000 in
theorem m_X1_settleBetween (l : Launch) (D : va_G) (cI cJ : ClassId) (sz : Nat) (x3 t0 t1 t2 t3 t6 t8 a0 e0 pm : Nat) (ti4 ti7 : Int32) (T1 T2 T3 T8 : Nat → Int32) (ha : a0 < 8) (he : e0 < 9) (hpm : pm < 9) : Met l yX1_settleBetween wtX1_settleBetween { frames := 1, cells := 0, slots := 0, locals := 14 } (cPc D cI cJ [.ref x3, .int (nI a0), .int (nI e0)] sz [(oX1 x3 t0 t1 t2 t3 ti4 (nI pm) t6 ti7 t8), (aIc cI t1 9 T1), (aIc cI t2 9 T2), (aIc cI t3 9 T3), (aIc cI t8 9 T8)]) (cQv D (fun u => ∃ (T1p T2p T3p T8p : Nat → Int32), u = [(oX1 x3 t0 t1 t2 t3 ti4 (nI (pm + 1)) t6 ti7 t8), (aIc cI t1 9 T1p), (aIc cI t2 9 T2p), (aIc cI t3 9 T3p), (aIc cI t8 9 T8p)]) (va_A [(oX1 x3 t0 t1 t2 t3 ti4 (nI pm) t6 ti7 t8), (aIc cI t1 9 T1), (aIc cI t2 9 T2), (aIc cI t3 9 T3), (aIc cI t8 9 T8)] sz)) 0 0 (va_A [(oX1 x3 t0 t1 t2 t3 ti4 (nI pm) t6 ti7 t8), (aIc cI t1 9 T1), (aIc cI t2 9 T2), (aIc cI t3 9 T3), (aIc cI t8 9 T8)] sz) := by
  refine k_ofW (Qc := cQv D (fun u => ∃ (T1p T2p T3p T8p : Nat → Int32), u = [(oX1 x3 t0 t1 t2 t3 ti4 (nI (pm + 1)) t6 ti7 t8), (aIc cI t1 9 T1p), (aIc cI t2 9 T2p), (aIc cI t3 9 T3p), (aIc cI t8 9 T8p)])) (by decide) rfl (Nat.le_of_ble_eq_true rfl) ?_
  intro p e s m below meth c A ls hx hb hr hml hts hown hlk hnm hsz hE hP hD hS hA hl
  have hown : s.vm.findClass RX1 = some m.cls := hown
  have hiX1 : ∀ w ∈ u_ws RX1 TX1 9, w ∈ wtX1_settleBetween := fun w h => List.mem_cons_of_mem _ (iuX1 w h)
  have hl : lv_has ls 4 [(0, .ref x3), (1, .int (nI a0)), (2, .int (nI e0))] := hl
  refine lv_aload_n hx hb dX1_settleBetween_0 rfl (lv_at hl 0 rfl) ?_
  refine va_get (D := D) (ci := 1) (v := .ref t8) (C := RX1) (T := TX1) (N := 9) hx hb hts hiX1 hown hE.1 hP 0 rfl rfl 8 (by decide) (hts _ (List.mem_cons_of_mem _ wd_104)) (fun _ h9 => h9) rfl dX1_settleBetween_1 ?_
  refine lv_iload_n hx hb dX1_settleBetween_4 rfl (lv_at hl 1 rfl) ?_
  refine va_iald hx hb hE.1 hP 4 0 rfl rfl (vp_in_nI (n := a0) (by omega) (by decide)) dX1_settleBetween_5 ?_
  refine lv_topi (fun v1 ev1 => ?_)
  refine lv_ineg hx hb dX1_settleBetween_6 ?_
  refine lv_topi (fun v2 ev2 => ?_)
  refine lv_aload_n hx hb dX1_settleBetween_7 rfl (lv_at hl 0 rfl) ?_
  refine va_get (D := D) (ci := 1) (v := .ref t8) (C := RX1) (T := TX1) (N := 9) hx hb hts hiX1 hown hE.1 hP 0 rfl rfl 8 (by decide) (hts _ (List.mem_cons_of_mem _ wd_104)) (fun _ h9 => h9) rfl dX1_settleBetween_8 ?_
  refine lv_iload_n hx hb dX1_settleBetween_11 rfl (lv_at hl 2 rfl) ?_
  refine va_iald hx hb hE.1 hP 4 0 rfl rfl (vp_in_nI (n := e0) (by omega) (by decide)) dX1_settleBetween_12 ?_
  refine lv_topi (fun v3 ev3 => ?_)
  refine va_mabs hx hb (by rw [hml]; exact hl.1.symm) hown (hts _ (List.mem_cons_of_mem _ wd_782)) (hts _ (List.mem_cons_of_mem _ wd_783)) (hts _ (List.mem_cons_of_mem _ wd_324)) (hts _ (List.mem_cons_of_mem _ wd_784)) (Nat.le_of_ble_eq_true rfl) (Nat.le_of_ble_eq_true rfl) (Nat.le_of_ble_eq_true rfl) (Nat.le_of_ble_eq_true rfl) dX1_settleBetween_13 ?_
  refine lv_topi (fun v4 ev4 => ?_)
  refine va_mmin hx hb (by rw [hml]; exact hl.1.symm) hown (hts _ (List.mem_cons_of_mem _ wd_741)) (hts _ (List.mem_cons_of_mem _ wd_327)) (hts _ (List.mem_cons_of_mem _ wd_324)) (hts _ (List.mem_cons_of_mem _ wd_328)) (Nat.le_of_ble_eq_true rfl) (Nat.le_of_ble_eq_true rfl) (Nat.le_of_ble_eq_true rfl) (Nat.le_of_ble_eq_true rfl) dX1_settleBetween_16 ?_
  refine lv_topi (fun v5 ev5 => ?_)
  refine lv_istore_n (lv' := [(3, .int v5), (0, .ref x3), (1, .int (nI a0)), (2, .int (nI e0))]) hx hb dX1_settleBetween_19 rfl hl (by decide) rfl (fun ls hl => ?_)
  refine lv_aload_n hx hb dX1_settleBetween_20 rfl (lv_at hl 1 rfl) ?_
  refine va_get (D := D) (ci := 1) (v := .ref t8) (C := RX1) (T := TX1) (N := 9) hx hb hts hiX1 hown hE.1 hP 0 rfl rfl 8 (by decide) (hts _ (List.mem_cons_of_mem _ wd_104)) (fun _ h9 => h9) rfl dX1_settleBetween_21 ?_
  refine lv_iload_n hx hb dX1_settleBetween_24 rfl (lv_at hl 2 rfl) ?_
  refine lv_dup2_11 hx hb dX1_settleBetween_25 rfl rfl ?_
  refine va_iald hx hb hE.1 hP 4 0 rfl rfl (vp_in_nI (n := a0) (by omega) (by decide)) dX1_settleBetween_26 ?_
  refine lv_topi (fun v6 ev6 => ?_)
  refine lv_iload_n hx hb dX1_settleBetween_27 rfl (lv_at hl 0 rfl) ?_
  refine lv_iadd hx hb dX1_settleBetween_28 ?_
  refine lv_topi (fun v7 ev7 => ?_)
  refine va_iast hx hb hE.1 hP hD hS 4 0 rfl rfl (vp_in_nI (n := a0) (by omega) (by decide)) dX1_settleBetween_29 (fun H locs hP hD hS => ?_)
  refine k_re (w := [(oX1 x3 t0 t1 t2 t3 ti4 (nI pm) t6 ti7 t8), (aIc cI t1 9 T1), (aIc cI t2 9 T2), (aIc cI t3 9 T3), (aIc cI t8 9 (upd T8 (Int32.toNatClampNeg (nI a0)) v7))]) hP hD (fun hP hD => ?_)
  refine lv_aload_n hx hb dX1_settleBetween_30 rfl (lv_at hl 1 rfl) ?_
  refine va_get (D := D) (ci := 1) (v := .ref t8) (C := RX1) (T := TX1) (N := 9) hx hb hts hiX1 hown hE.1 hP 0 rfl rfl 8 (by decide) (hts _ (List.mem_cons_of_mem _ wd_104)) (fun _ h9 => h9) rfl dX1_settleBetween_31 ?_
  refine lv_iload_n hx hb dX1_settleBetween_34 rfl (lv_at hl 3 rfl) ?_
  refine lv_dup2_11 hx hb dX1_settleBetween_35 rfl rfl ?_
  refine va_iald hx hb hE.1 hP 4 0 rfl rfl (vp_in_nI (n := e0) (by omega) (by decide)) dX1_settleBetween_36 ?_
  refine lv_topi (fun v8 ev8 => ?_)
  refine lv_iload_n hx hb dX1_settleBetween_37 rfl (lv_at hl 3 rfl) ?_
  refine lv_bipush (v := 8) hx hb dX1_settleBetween_38 (by decide) ?_
  refine lv_icmp_ne (tgt := 47) hx hb dX1_settleBetween_40 (by decide) (fun c9 => ?_) (fun c9 => ?_)
  · skip
    have nc9 : ¬ e0 = 8 := fun q9 => c9 ((nI_eq (a := e0) (b := 8) (by omega) (by omega)).mpr q9)
    refine lv_iload_n hx hb dX1_settleBetween_47 rfl (lv_at hl 0 rfl) ?_
    refine lv_ineg hx hb dX1_settleBetween_48 ?_
    refine lv_topi (fun v10 ev10 => ?_)
    refine lv_iadd hx hb dX1_settleBetween_49 ?_
    refine lv_topi (fun v11 ev11 => ?_)
    refine va_iast hx hb hE.1 hP hD hS 4 0 rfl rfl (vp_in_nI (n := e0) (by omega) (by decide)) dX1_settleBetween_50 (fun H locs hP hD hS => ?_)
    refine k_re (w := [(oX1 x3 t0 t1 t2 t3 ti4 (nI pm) t6 ti7 t8), (aIc cI t1 9 T1), (aIc cI t2 9 T2), (aIc cI t3 9 T3), (aIc cI t8 9 (upd (upd T8 (Int32.toNatClampNeg (nI a0)) v7) (Int32.toNatClampNeg (nI e0)) v11))]) hP hD (fun hP hD => ?_)
    refine lv_aload_n hx hb dX1_settleBetween_51 rfl (lv_at hl 1 rfl) ?_
    refine va_get (D := D) (ci := 1) (v := .ref t1) (C := RX1) (T := TX1) (N := 9) hx hb hts hiX1 hown hE.1 hP 0 rfl rfl 1 (by decide) (hts _ (List.mem_cons_of_mem _ wd_100)) (fun _ h9 => h9) rfl dX1_settleBetween_52 ?_
    refine lv_aload_n hx hb dX1_settleBetween_55 rfl (lv_at hl 1 rfl) ?_
    refine va_get (D := D) (ci := 1) (v := .int (nI pm)) (C := RX1) (T := TX1) (N := 9) hx hb hts hiX1 hown hE.1 hP 0 rfl rfl 5 (by decide) (hts _ (List.mem_cons_of_mem _ wd_769)) (fun _ h9 => h9) rfl dX1_settleBetween_56 ?_
    refine lv_iload_n hx hb dX1_settleBetween_59 rfl (lv_at hl 2 rfl) ?_
    refine va_iast hx hb hE.1 hP hD hS 1 0 rfl rfl (vp_in_nI (n := pm) (by omega) (by decide)) dX1_settleBetween_60 (fun H locs hP hD hS => ?_)
    refine k_re (w := [(oX1 x3 t0 t1 t2 t3 ti4 (nI pm) t6 ti7 t8), (aIc cI t1 9 (upd T1 (Int32.toNatClampNeg (nI pm)) (nI a0))), (aIc cI t2 9 T2), (aIc cI t3 9 T3), (aIc cI t8 9 (upd (upd T8 (Int32.toNatClampNeg (nI a0)) v7) (Int32.toNatClampNeg (nI e0)) v11))]) hP hD (fun hP hD => ?_)
    refine lv_aload_n hx hb dX1_settleBetween_61 rfl (lv_at hl 1 rfl) ?_
    refine va_get (D := D) (ci := 1) (v := .ref t2) (C := RX1) (T := TX1) (N := 9) hx hb hts hiX1 hown hE.1 hP 0 rfl rfl 2 (by decide) (hts _ (List.mem_cons_of_mem _ wd_101)) (fun _ h9 => h9) rfl dX1_settleBetween_62 ?_
    refine lv_aload_n hx hb dX1_settleBetween_65 rfl (lv_at hl 1 rfl) ?_
    refine va_get (D := D) (ci := 1) (v := .int (nI pm)) (C := RX1) (T := TX1) (N := 9) hx hb hts hiX1 hown hE.1 hP 0 rfl rfl 5 (by decide) (hts _ (List.mem_cons_of_mem _ wd_769)) (fun _ h9 => h9) rfl dX1_settleBetween_66 ?_
    refine lv_iload_n hx hb dX1_settleBetween_69 rfl (lv_at hl 3 rfl) ?_
    refine va_iast hx hb hE.1 hP hD hS 2 0 rfl rfl (vp_in_nI (n := pm) (by omega) (by decide)) dX1_settleBetween_70 (fun H locs hP hD hS => ?_)
    refine k_re (w := [(oX1 x3 t0 t1 t2 t3 ti4 (nI pm) t6 ti7 t8), (aIc cI t1 9 (upd T1 (Int32.toNatClampNeg (nI pm)) (nI a0))), (aIc cI t2 9 (upd T2 (Int32.toNatClampNeg (nI pm)) (nI e0))), (aIc cI t3 9 T3), (aIc cI t8 9 (upd (upd T8 (Int32.toNatClampNeg (nI a0)) v7) (Int32.toNatClampNeg (nI e0)) v11))]) hP hD (fun hP hD => ?_)
    refine lv_aload_n hx hb dX1_settleBetween_71 rfl (lv_at hl 1 rfl) ?_
    refine va_get (D := D) (ci := 1) (v := .ref t3) (C := RX1) (T := TX1) (N := 9) hx hb hts hiX1 hown hE.1 hP 0 rfl rfl 3 (by decide) (hts _ (List.mem_cons_of_mem _ wd_102)) (fun _ h9 => h9) rfl dX1_settleBetween_72 ?_
    refine lv_aload_n hx hb dX1_settleBetween_75 rfl (lv_at hl 1 rfl) ?_
    refine va_get (D := D) (ci := 1) (v := .int (nI pm)) (C := RX1) (T := TX1) (N := 9) hx hb hts hiX1 hown hE.1 hP 0 rfl rfl 5 (by decide) (hts _ (List.mem_cons_of_mem _ wd_769)) (fun _ h9 => h9) rfl dX1_settleBetween_76 ?_
    refine lv_iload_n hx hb dX1_settleBetween_79 rfl (lv_at hl 0 rfl) ?_
    refine va_iast hx hb hE.1 hP hD hS 3 0 rfl rfl (vp_in_nI (n := pm) (by omega) (by decide)) dX1_settleBetween_80 (fun H locs hP hD hS => ?_)
    refine k_re (w := [(oX1 x3 t0 t1 t2 t3 ti4 (nI pm) t6 ti7 t8), (aIc cI t1 9 (upd T1 (Int32.toNatClampNeg (nI pm)) (nI a0))), (aIc cI t2 9 (upd T2 (Int32.toNatClampNeg (nI pm)) (nI e0))), (aIc cI t3 9 (upd T3 (Int32.toNatClampNeg (nI pm)) v5)), (aIc cI t8 9 (upd (upd T8 (Int32.toNatClampNeg (nI a0)) v7) (Int32.toNatClampNeg (nI e0)) v11))]) hP hD (fun hP hD => ?_)
    refine lv_aload_n hx hb dX1_settleBetween_81 rfl (lv_at hl 1 rfl) ?_
    refine lv_dup hx hb dX1_settleBetween_82 rfl ?_
    refine va_get (D := D) (ci := 1) (v := .int (nI pm)) (C := RX1) (T := TX1) (N := 9) hx hb hts hiX1 hown hE.1 hP 0 rfl rfl 5 (by decide) (hts _ (List.mem_cons_of_mem _ wd_769)) (fun _ h9 => h9) rfl dX1_settleBetween_83 ?_
    refine lv_iconst (v := 1) hx hb dX1_settleBetween_86 (by decide) ?_
    refine lv_iadd hx hb dX1_settleBetween_87 ?_
    refine lv_topi (fun v12 ev12 => ?_)
    obtain rfl : v12 = (nI (pm + 1)) := by rw [ev12]; exact nI_add pm 1
    refine va_put (D := D) (ci := 1) (v := .int (nI (pm + 1))) (ty := .int) (C := RX1) (T := TX1) (N := 9) hx hb hts hiX1 tyX1 tyX1_ok nmX1 hown hE.1 hP hD hS 0 rfl rfl 5 (by decide) (hts _ (List.mem_cons_of_mem _ wd_769)) (fun _ h9 => h9) rfl (by decide +kernel) rfl rfl (Nat.le_of_ble_eq_true rfl) dX1_settleBetween_88 (fun H locs hP hD hS => ?_)
    refine k_re (w := [(oX1 x3 t0 t1 t2 t3 ti4 (nI (pm + 1)) t6 ti7 t8), (aIc cI t1 9 (upd T1 (Int32.toNatClampNeg (nI pm)) (nI a0))), (aIc cI t2 9 (upd T2 (Int32.toNatClampNeg (nI pm)) (nI e0))), (aIc cI t3 9 (upd T3 (Int32.toNatClampNeg (nI pm)) v5)), (aIc cI t8 9 (upd (upd T8 (Int32.toNatClampNeg (nI a0)) v7) (Int32.toNatClampNeg (nI e0)) v11))]) hP hD (fun hP hD => ?_)
    refine k_vret (u := [(oX1 x3 t0 t1 t2 t3 ti4 (nI (pm + 1)) t6 ti7 t8), (aIc cI t1 9 (upd T1 (Int32.toNatClampNeg (nI pm)) (nI a0))), (aIc cI t2 9 (upd T2 (Int32.toNatClampNeg (nI pm)) (nI e0))), (aIc cI t3 9 (upd T3 (Int32.toNatClampNeg (nI pm)) v5)), (aIc cI t8 9 (upd (upd T8 (Int32.toNatClampNeg (nI a0)) v7) (Int32.toNatClampNeg (nI e0)) v11))]) hx hb hr hlk hP hD hS dX1_settleBetween_91 ?_
    exact ⟨(upd T1 (Int32.toNatClampNeg (nI pm)) (nI a0)), (upd T2 (Int32.toNatClampNeg (nI pm)) (nI e0)), (upd T3 (Int32.toNatClampNeg (nI pm)) v5), (upd (upd T8 (Int32.toNatClampNeg (nI a0)) v7) (Int32.toNatClampNeg (nI e0)) v11), rfl⟩
  · skip
    have nc9 : e0 = 8 := (nI_eq (a := e0) (b := 8) (by omega) (by omega)).mp c9
    refine lv_iload_n hx hb dX1_settleBetween_43 rfl (lv_at hl 0 rfl) ?_
    refine lv_goto (tgt := 49) hx hb dX1_settleBetween_44 (by decide) ?_
    refine lv_iadd hx hb dX1_settleBetween_49 ?_
    refine lv_topi (fun v13 ev13 => ?_)
    refine va_iast hx hb hE.1 hP hD hS 4 0 rfl rfl (vp_in_nI (n := e0) (by omega) (by decide)) dX1_settleBetween_50 (fun H locs hP hD hS => ?_)
    refine k_re (w := [(oX1 x3 t0 t1 t2 t3 ti4 (nI pm) t6 ti7 t8), (aIc cI t1 9 T1), (aIc cI t2 9 T2), (aIc cI t3 9 T3), (aIc cI t8 9 (upd (upd T8 (Int32.toNatClampNeg (nI a0)) v7) (Int32.toNatClampNeg (nI e0)) v13))]) hP hD (fun hP hD => ?_)
    refine lv_aload_n hx hb dX1_settleBetween_51 rfl (lv_at hl 1 rfl) ?_
    refine va_get (D := D) (ci := 1) (v := .ref t1) (C := RX1) (T := TX1) (N := 9) hx hb hts hiX1 hown hE.1 hP 0 rfl rfl 1 (by decide) (hts _ (List.mem_cons_of_mem _ wd_100)) (fun _ h9 => h9) rfl dX1_settleBetween_52 ?_
    refine lv_aload_n hx hb dX1_settleBetween_55 rfl (lv_at hl 1 rfl) ?_
    refine va_get (D := D) (ci := 1) (v := .int (nI pm)) (C := RX1) (T := TX1) (N := 9) hx hb hts hiX1 hown hE.1 hP 0 rfl rfl 5 (by decide) (hts _ (List.mem_cons_of_mem _ wd_769)) (fun _ h9 => h9) rfl dX1_settleBetween_56 ?_
    refine lv_iload_n hx hb dX1_settleBetween_59 rfl (lv_at hl 2 rfl) ?_
    refine va_iast hx hb hE.1 hP hD hS 1 0 rfl rfl (vp_in_nI (n := pm) (by omega) (by decide)) dX1_settleBetween_60 (fun H locs hP hD hS => ?_)
    refine k_re (w := [(oX1 x3 t0 t1 t2 t3 ti4 (nI pm) t6 ti7 t8), (aIc cI t1 9 (upd T1 (Int32.toNatClampNeg (nI pm)) (nI a0))), (aIc cI t2 9 T2), (aIc cI t3 9 T3), (aIc cI t8 9 (upd (upd T8 (Int32.toNatClampNeg (nI a0)) v7) (Int32.toNatClampNeg (nI e0)) v13))]) hP hD (fun hP hD => ?_)
    refine lv_aload_n hx hb dX1_settleBetween_61 rfl (lv_at hl 1 rfl) ?_
    refine va_get (D := D) (ci := 1) (v := .ref t2) (C := RX1) (T := TX1) (N := 9) hx hb hts hiX1 hown hE.1 hP 0 rfl rfl 2 (by decide) (hts _ (List.mem_cons_of_mem _ wd_101)) (fun _ h9 => h9) rfl dX1_settleBetween_62 ?_
    refine lv_aload_n hx hb dX1_settleBetween_65 rfl (lv_at hl 1 rfl) ?_
    refine va_get (D := D) (ci := 1) (v := .int (nI pm)) (C := RX1) (T := TX1) (N := 9) hx hb hts hiX1 hown hE.1 hP 0 rfl rfl 5 (by decide) (hts _ (List.mem_cons_of_mem _ wd_769)) (fun _ h9 => h9) rfl dX1_settleBetween_66 ?_
    refine lv_iload_n hx hb dX1_settleBetween_69 rfl (lv_at hl 3 rfl) ?_
    refine va_iast hx hb hE.1 hP hD hS 2 0 rfl rfl (vp_in_nI (n := pm) (by omega) (by decide)) dX1_settleBetween_70 (fun H locs hP hD hS => ?_)
    refine k_re (w := [(oX1 x3 t0 t1 t2 t3 ti4 (nI pm) t6 ti7 t8), (aIc cI t1 9 (upd T1 (Int32.toNatClampNeg (nI pm)) (nI a0))), (aIc cI t2 9 (upd T2 (Int32.toNatClampNeg (nI pm)) (nI e0))), (aIc cI t3 9 T3), (aIc cI t8 9 (upd (upd T8 (Int32.toNatClampNeg (nI a0)) v7) (Int32.toNatClampNeg (nI e0)) v13))]) hP hD (fun hP hD => ?_)
    refine lv_aload_n hx hb dX1_settleBetween_71 rfl (lv_at hl 1 rfl) ?_
    refine va_get (D := D) (ci := 1) (v := .ref t3) (C := RX1) (T := TX1) (N := 9) hx hb hts hiX1 hown hE.1 hP 0 rfl rfl 3 (by decide) (hts _ (List.mem_cons_of_mem _ wd_102)) (fun _ h9 => h9) rfl dX1_settleBetween_72 ?_
    refine lv_aload_n hx hb dX1_settleBetween_75 rfl (lv_at hl 1 rfl) ?_
    refine va_get (D := D) (ci := 1) (v := .int (nI pm)) (C := RX1) (T := TX1) (N := 9) hx hb hts hiX1 hown hE.1 hP 0 rfl rfl 5 (by decide) (hts _ (List.mem_cons_of_mem _ wd_769)) (fun _ h9 => h9) rfl dX1_settleBetween_76 ?_
    refine lv_iload_n hx hb dX1_settleBetween_79 rfl (lv_at hl 0 rfl) ?_
    refine va_iast hx hb hE.1 hP hD hS 3 0 rfl rfl (vp_in_nI (n := pm) (by omega) (by decide)) dX1_settleBetween_80 (fun H locs hP hD hS => ?_)
    refine k_re (w := [(oX1 x3 t0 t1 t2 t3 ti4 (nI pm) t6 ti7 t8), (aIc cI t1 9 (upd T1 (Int32.toNatClampNeg (nI pm)) (nI a0))), (aIc cI t2 9 (upd T2 (Int32.toNatClampNeg (nI pm)) (nI e0))), (aIc cI t3 9 (upd T3 (Int32.toNatClampNeg (nI pm)) v5)), (aIc cI t8 9 (upd (upd T8 (Int32.toNatClampNeg (nI a0)) v7) (Int32.toNatClampNeg (nI e0)) v13))]) hP hD (fun hP hD => ?_)
    refine lv_aload_n hx hb dX1_settleBetween_81 rfl (lv_at hl 1 rfl) ?_
    refine lv_dup hx hb dX1_settleBetween_82 rfl ?_
    refine va_get (D := D) (ci := 1) (v := .int (nI pm)) (C := RX1) (T := TX1) (N := 9) hx hb hts hiX1 hown hE.1 hP 0 rfl rfl 5 (by decide) (hts _ (List.mem_cons_of_mem _ wd_769)) (fun _ h9 => h9) rfl dX1_settleBetween_83 ?_
    refine lv_iconst (v := 1) hx hb dX1_settleBetween_86 (by decide) ?_
    refine lv_iadd hx hb dX1_settleBetween_87 ?_
    refine lv_topi (fun v14 ev14 => ?_)
    obtain rfl : v14 = (nI (pm + 1)) := by rw [ev14]; exact nI_add pm 1
    refine va_put (D := D) (ci := 1) (v := .int (nI (pm + 1))) (ty := .int) (C := RX1) (T := TX1) (N := 9) hx hb hts hiX1 tyX1 tyX1_ok nmX1 hown hE.1 hP hD hS 0 rfl rfl 5 (by decide) (hts _ (List.mem_cons_of_mem _ wd_769)) (fun _ h9 => h9) rfl (by decide +kernel) rfl rfl (Nat.le_of_ble_eq_true rfl) dX1_settleBetween_88 (fun H locs hP hD hS => ?_)
    refine k_re (w := [(oX1 x3 t0 t1 t2 t3 ti4 (nI (pm + 1)) t6 ti7 t8), (aIc cI t1 9 (upd T1 (Int32.toNatClampNeg (nI pm)) (nI a0))), (aIc cI t2 9 (upd T2 (Int32.toNatClampNeg (nI pm)) (nI e0))), (aIc cI t3 9 (upd T3 (Int32.toNatClampNeg (nI pm)) v5)), (aIc cI t8 9 (upd (upd T8 (Int32.toNatClampNeg (nI a0)) v7) (Int32.toNatClampNeg (nI e0)) v13))]) hP hD (fun hP hD => ?_)
    refine k_vret (u := [(oX1 x3 t0 t1 t2 t3 ti4 (nI (pm + 1)) t6 ti7 t8), (aIc cI t1 9 (upd T1 (Int32.toNatClampNeg (nI pm)) (nI a0))), (aIc cI t2 9 (upd T2 (Int32.toNatClampNeg (nI pm)) (nI e0))), (aIc cI t3 9 (upd T3 (Int32.toNatClampNeg (nI pm)) v5)), (aIc cI t8 9 (upd (upd T8 (Int32.toNatClampNeg (nI a0)) v7) (Int32.toNatClampNeg (nI e0)) v13))]) hx hb hr hlk hP hD hS dX1_settleBetween_91 ?_
    exact ⟨(upd T1 (Int32.toNatClampNeg (nI pm)) (nI a0)), (upd T2 (Int32.toNatClampNeg (nI pm)) (nI e0)), (upd T3 (Int32.toNatClampNeg (nI pm)) v5), (upd (upd T8 (Int32.toNatClampNeg (nI a0)) v7) (Int32.toNatClampNeg (nI e0)) v13), rfl⟩
theorem dX1_recover_0 : decode cX1_recover 0 = .ok (.aload_n 0, 1) := by decide +kernel
theorem dX1_recover_1 : decode cX1_recover 1 = .ok (.iconst 0, 1) := by decide +kernel
theorem dX1_recover_2 : decode cX1_recover 2 = .ok (.putfield 68, 3) := by decide +kernel
theorem dX1_recover_5 : decode cX1_recover 5 = .ok (.aload_n 0, 1) := by decide +kernel
theorem dX1_recover_6 : decode cX1_recover 6 = .ok (.getfield 27, 3) := by decide +kernel
theorem dX1_recover_9 : decode cX1_recover 9 = .ok (.bipush 8, 2) := by decide +kernel
theorem dX1_recover_11 : decode cX1_recover 11 = .ok (.aload_n 0, 1) := by decide +kernel
theorem dX1_recover_12 : decode cX1_recover 12 = .ok (.getfield 50, 3) := by decide +kernel
theorem dX1_recover_15 : decode cX1_recover 15 = .ok (.iload_n 2, 1) := by decide +kernel
theorem dX1_recover_16 : decode cX1_recover 16 = .ok (.isub, 1) := by decide +kernel
theorem dX1_recover_17 : decode cX1_recover 17 = .ok (.iastore, 1) := by decide +kernel
theorem dX1_recover_18 : decode cX1_recover 18 = .ok (.iconst 0, 1) := by decide +kernel
theorem dX1_recover_19 : decode cX1_recover 19 = .ok (.istore_n 3, 1) := by decide +kernel
theorem dX1_recover_20 : decode cX1_recover 20 = .ok (.iload_n 3, 1) := by decide +kernel
theorem dX1_recover_21 : decode cX1_recover 21 = .ok (.bipush 8, 2) := by decide +kernel
theorem dX1_recover_23 : decode cX1_recover 23 = .ok (.if_icmp .ge 25, 3) := by decide +kernel
theorem dX1_recover_26 : decode cX1_recover 26 = .ok (.aload_n 0, 1) := by decide +kernel
theorem dX1_recover_27 : decode cX1_recover 27 = .ok (.getfield 27, 3) := by decide +kernel
theorem dX1_recover_30 : decode cX1_recover 30 = .ok (.iload_n 3, 1) := by decide +kernel
theorem dX1_recover_31 : decode cX1_recover 31 = .ok (.aload_n 0, 1) := by decide +kernel
theorem dX1_recover_32 : decode cX1_recover 32 = .ok (.getfield 9, 3) := by decide +kernel
theorem dX1_recover_35 : decode cX1_recover 35 = .ok (.iload_n 3, 1) := by decide +kernel
theorem dX1_recover_36 : decode cX1_recover 36 = .ok (.iaload, 1) := by decide +kernel
theorem dX1_recover_37 : decode cX1_recover 37 = .ok (.aload_n 1, 1) := by decide +kernel
theorem dX1_recover_38 : decode cX1_recover 38 = .ok (.iload_n 3, 1) := by decide +kernel
theorem dX1_recover_39 : decode cX1_recover 39 = .ok (.iaload, 1) := by decide +kernel
theorem dX1_recover_40 : decode cX1_recover 40 = .ok (.isub, 1) := by decide +kernel
theorem dX1_recover_41 : decode cX1_recover 41 = .ok (.iastore, 1) := by decide +kernel
theorem dX1_recover_42 : decode cX1_recover 42 = .ok (.iinc 3 1, 3) := by decide +kernel
theorem dX1_recover_45 : decode cX1_recover 45 = .ok (.goto (-25), 3) := by decide +kernel
theorem dX1_recover_48 : decode cX1_recover 48 = .ok (.iconst 0, 1) := by decide +kernel
theorem dX1_recover_49 : decode cX1_recover 49 = .ok (.istore_n 3, 1) := by decide +kernel
theorem dX1_recover_50 : decode cX1_recover 50 = .ok (.iload_n 3, 1) := by decide +kernel
theorem dX1_recover_51 : decode cX1_recover 51 = .ok (.bipush 8, 2) := by decide +kernel
theorem dX1_recover_53 : decode cX1_recover 53 = .ok (.if_icmp .gt 57, 3) := by decide +kernel
theorem dX1_recover_56 : decode cX1_recover 56 = .ok (.aload_n 0, 1) := by decide +kernel
theorem dX1_recover_57 : decode cX1_recover 57 = .ok (.invokevirtual 71, 3) := by decide +kernel
theorem dX1_recover_60 : decode cX1_recover 60 = .ok (.istore 4, 2) := by decide +kernel
theorem dX1_recover_62 : decode cX1_recover 62 = .ok (.aload_n 0, 1) := by decide +kernel
theorem dX1_recover_63 : decode cX1_recover 63 = .ok (.getfield 27, 3) := by decide +kernel
theorem dX1_recover_66 : decode cX1_recover 66 = .ok (.bipush 8, 2) := by decide +kernel
theorem dX1_recover_68 : decode cX1_recover 68 = .ok (.iaload, 1) := by decide +kernel
theorem dX1_recover_69 : decode cX1_recover 69 = .ok (.ifCond .ge 8, 3) := by decide +kernel
theorem dX1_recover_72 : decode cX1_recover 72 = .ok (.bipush 8, 2) := by decide +kernel
theorem dX1_recover_74 : decode cX1_recover 74 = .ok (.goto 7, 3) := by decide +kernel
theorem dX1_recover_77 : decode cX1_recover 77 = .ok (.aload_n 0, 1) := by decide +kernel
theorem dX1_recover_78 : decode cX1_recover 78 = .ok (.invokevirtual 75, 3) := by decide +kernel
theorem dX1_recover_81 : decode cX1_recover 81 = .ok (.istore 5, 2) := by decide +kernel
theorem dX1_recover_83 : decode cX1_recover 83 = .ok (.iload 4, 2) := by decide +kernel
theorem dX1_recover_85 : decode cX1_recover 85 = .ok (.iconst (-1), 1) := by decide +kernel
theorem dX1_recover_86 : decode cX1_recover 86 = .ok (.if_icmp .eq 9, 3) := by decide +kernel
theorem dX1_recover_89 : decode cX1_recover 89 = .ok (.iload 5, 2) := by decide +kernel
theorem dX1_recover_91 : decode cX1_recover 91 = .ok (.iconst (-1), 1) := by decide +kernel
theorem dX1_recover_92 : decode cX1_recover 92 = .ok (.if_icmp .ne 4, 3) := by decide +kernel
theorem dX1_recover_95 : decode cX1_recover 95 = .ok (.return_, 1) := by decide +kernel
theorem dX1_recover_96 : decode cX1_recover 96 = .ok (.aload_n 0, 1) := by decide +kernel
theorem dX1_recover_97 : decode cX1_recover 97 = .ok (.iload 4, 2) := by decide +kernel
theorem dX1_recover_99 : decode cX1_recover 99 = .ok (.iload 5, 2) := by decide +kernel
theorem dX1_recover_101 : decode cX1_recover 101 = .ok (.invokevirtual 78, 3) := by decide +kernel
theorem dX1_recover_104 : decode cX1_recover 104 = .ok (.iinc 3 1, 3) := by decide +kernel
theorem dX1_recover_107 : decode cX1_recover 107 = .ok (.goto (-57), 3) := by decide +kernel
theorem dX1_recover_110 : decode cX1_recover 110 = .ok (.return_, 1) := by decide +kernel
theorem gX1_recover_X1_leastAbove : GoodIn wtX1_recover (wsV RX1 75 RX1 yX1_leastAbove wtX1_leastAbove) := tb_good (tb_v0 wd_774 wd_775 wd_776 wd_26 wd_777)
theorem gX1_recover_X1_leastBelow : GoodIn wtX1_recover (wsV RX1 71 RX1 yX1_leastBelow wtX1_leastBelow) := tb_good (tb_v0 wd_770 wd_771 wd_772 wd_26 wd_773)
theorem gX1_recover_X1_settleBetween : GoodIn wtX1_recover (wsV RX1 78 RX1 yX1_settleBetween wtX1_settleBetween) := tb_good (tb_v0 wd_778 wd_779 wd_780 wd_26 wd_781)
set_option maxHeartbeats 4000000 in
set_option maxRecDepth 100000 in
theorem m_X1_recover (l : Launch) (D : va_G) (cI cJ : ClassId) (sz : Nat) (x3 t0 t1 t2 t3 t6 t8 s10 pm : Nat) (ti4 ti7 tt : Int32) (T1 T2 T3 T8 T0 S10 : Nat → Int32) : Met l yX1_recover wtX1_recover { frames := 2, cells := 0, slots := 0, locals := 37 } (cPc D cI cJ [.ref x3, .ref s10, .int tt] sz [(oX1 x3 t0 t1 t2 t3 ti4 (nI pm) t6 ti7 t8), (aIc cI t1 9 T1), (aIc cI t2 9 T2), (aIc cI t3 9 T3), (aIc cI t8 9 T8), (aIc cI t0 8 T0), (aIc cI s10 8 S10)]) (cQv D (fun u => ∃ (T1p T2p T3p T8p : Nat → Int32) (pmp : Nat), (pmp ≤ 9) ∧ u = [(oX1 x3 t0 t1 t2 t3 ti4 (nI pmp) t6 ti7 t8), (aIc cI t1 9 T1p), (aIc cI t2 9 T2p), (aIc cI t3 9 T3p), (aIc cI t8 9 T8p), (aIc cI t0 8 T0), (aIc cI s10 8 S10)]) (va_A [(oX1 x3 t0 t1 t2 t3 ti4 (nI pm) t6 ti7 t8), (aIc cI t1 9 T1), (aIc cI t2 9 T2), (aIc cI t3 9 T3), (aIc cI t8 9 T8), (aIc cI t0 8 T0), (aIc cI s10 8 S10)] sz)) 0 0 (va_A [(oX1 x3 t0 t1 t2 t3 ti4 (nI pm) t6 ti7 t8), (aIc cI t1 9 T1), (aIc cI t2 9 T2), (aIc cI t3 9 T3), (aIc cI t8 9 T8), (aIc cI t0 8 T0), (aIc cI s10 8 S10)] sz) := by
  refine k_ofW (Qc := cQv D (fun u => ∃ (T1p T2p T3p T8p : Nat → Int32) (pmp : Nat), (pmp ≤ 9) ∧ u = [(oX1 x3 t0 t1 t2 t3 ti4 (nI pmp) t6 ti7 t8), (aIc cI t1 9 T1p), (aIc cI t2 9 T2p), (aIc cI t3 9 T3p), (aIc cI t8 9 T8p), (aIc cI t0 8 T0), (aIc cI s10 8 S10)])) (by decide) rfl (Nat.le_of_ble_eq_true rfl) ?_
  intro p e s m below meth c A ls hx hb hr hml hts hown hlk hnm hsz hE hP hD hS hA hl
  have hown : s.vm.findClass RX1 = some m.cls := hown
  have hiX1 : ∀ w ∈ u_ws RX1 TX1 9, w ∈ wtX1_recover := fun w h => List.mem_cons_of_mem _ (iuX1 w h)
  have hl : lv_has ls 6 [(0, .ref x3), (1, .ref s10), (2, .int tt)] := hl
  refine lv_aload_n hx hb dX1_recover_0 rfl (lv_at hl 0 rfl) ?_
  refine lv_iconst (v := 0) hx hb dX1_recover_1 (by decide) ?_
  refine va_put (D := D) (ci := 1) (v := .int 0) (ty := .int) (C := RX1) (T := TX1) (N := 9) hx hb hts hiX1 tyX1 tyX1_ok nmX1 hown hE.1 hP hD hS 0 rfl rfl 5 (by decide) (hts _ (List.mem_cons_of_mem _ wd_769)) (fun _ h9 => h9) rfl (by decide +kernel) rfl rfl (Nat.le_of_ble_eq_true rfl) dX1_recover_2 (fun H locs hP hD hS => ?_)
  refine k_re (w := [(oX1 x3 t0 t1 t2 t3 ti4 0 t6 ti7 t8), (aIc cI t1 9 T1), (aIc cI t2 9 T2), (aIc cI t3 9 T3), (aIc cI t8 9 T8), (aIc cI t0 8 T0), (aIc cI s10 8 S10)]) hP hD (fun hP hD => ?_)
  refine lv_aload_n hx hb dX1_recover_5 rfl (lv_at hl 0 rfl) ?_
  refine va_get (D := D) (ci := 1) (v := .ref t8) (C := RX1) (T := TX1) (N := 9) hx hb hts hiX1 hown hE.1 hP 0 rfl rfl 8 (by decide) (hts _ (List.mem_cons_of_mem _ wd_104)) (fun _ h9 => h9) rfl dX1_recover_6 ?_
  refine lv_bipush (v := 8) hx hb dX1_recover_9 (by decide) ?_
  refine lv_aload_n hx hb dX1_recover_11 rfl (lv_at hl 0 rfl) ?_
  refine va_get (D := D) (ci := 1) (v := .int ti4) (C := RX1) (T := TX1) (N := 9) hx hb hts hiX1 hown hE.1 hP 0 rfl rfl 4 (by decide) (hts _ (List.mem_cons_of_mem _ wd_739)) (fun _ h9 => h9) rfl dX1_recover_12 ?_
  refine lv_iload_n hx hb dX1_recover_15 rfl (lv_at hl 2 rfl) ?_
  refine lv_isub hx hb dX1_recover_16 ?_
  refine lv_topi (fun v1 ev1 => ?_)
  refine va_iast hx hb hE.1 hP hD hS 4 0 rfl rfl (by unfold vp_in; decide) dX1_recover_17 (fun H locs hP hD hS => ?_)
  refine k_re (w := [(oX1 x3 t0 t1 t2 t3 ti4 0 t6 ti7 t8), (aIc cI t1 9 T1), (aIc cI t2 9 T2), (aIc cI t3 9 T3), (aIc cI t8 9 (upd T8 (Int32.toNatClampNeg 8) v1)), (aIc cI t0 8 T0), (aIc cI s10 8 S10)]) hP hD (fun hP hD => ?_)
  refine lv_iconst (v := 0) hx hb dX1_recover_18 (by decide) ?_
  refine lv_istore_n (lv' := [(3, .int 0), (0, .ref x3), (1, .ref s10), (2, .int tt)]) hx hb dX1_recover_19 rfl hl (by decide) rfl (fun ls hl => ?_)
  have J20 : ∀ (zz : Nat) (i20 : Nat) (a_t8_20 : Nat → Int32), (i20 ≤ 8) → (8 - i20) < zz → ∀ (H : Heap) (locs : List Loc) (ls : Array Slot), va_P D vwCl [(oX1 x3 t0 t1 t2 t3 ti4 0 t6 ti7 t8), (aIc cI t1 9 T1), (aIc cI t2 9 T2), (aIc cI t3 9 T3), (aIc cI t8 9 a_t8_20), (aIc cI t0 8 T0), (aIc cI s10 8 S10)] H → va_D A [(oX1 x3 t0 t1 t2 t3 ti4 0 t6 ti7 t8), (aIc cI t1 9 T1), (aIc cI t2 9 T2), (aIc cI t3 9 T3), (aIc cI t8 9 a_t8_20), (aIc cI t0 8 T0), (aIc cI s10 8 S10)] → va_S A s.heap H locs → lv_has ls 6 [(3, .int (nI i20)), (0, .ref x3), (1, .ref s10), (2, .int tt)] → W p l e { frames := 2, cells := 0, slots := 0, locals := 37 } s m [.ref x3, .ref s10, .int tt].toArray below meth c H locs 0 0 (MQ below (cQv D (fun u => ∃ (T1p T2p T3p T8p : Nat → Int32) (pmp : Nat), (pmp ≤ 9) ∧ u = [(oX1 x3 t0 t1 t2 t3 ti4 (nI pmp) t6 ti7 t8), (aIc cI t1 9 T1p), (aIc cI t2 9 T2p), (aIc cI t3 9 T3p), (aIc cI t8 9 T8p), (aIc cI t0 8 T0), (aIc cI s10 8 S10)]) A) [.ref x3, .ref s10, .int tt].toArray s 0 0 A) (F0 m 20 ls []) := by
    intro zz
    induction zz with
    | zero => intro i20 a_t8_20 _; exact fun h => absurd h (Nat.not_lt_zero _)
    | succ zz ih20 =>
      intro i20 a_t8_20 hc3_20 hmu20 H locs ls hP hD hS hl
      refine lv_iload_n hx hb dX1_recover_20 rfl (lv_at hl 0 rfl) ?_
      refine lv_bipush (v := 8) hx hb dX1_recover_21 (by decide) ?_
      refine lv_icmp_ge (tgt := 48) hx hb dX1_recover_23 (by decide) (fun c2 => ?_) (fun c2 => ?_)
      · skip
        have nc2 : 8 ≤ i20 := (nI_leI (a := 8) (b := i20) (by omega) (by omega)).mp c2
        refine lv_iconst (v := 0) hx hb dX1_recover_48 (by decide) ?_
        refine lv_istore_n (lv' := [(3, .int 0), (0, .ref x3), (1, .ref s10), (2, .int tt)]) hx hb dX1_recover_49 rfl hl (by decide) rfl (fun ls hl => ?_)
        have J50 : ∀ (zz : Nat) (i50 : Nat) (a_t1_50 a_t2_50 a_t3_50 a_t8_50 : Nat → Int32) (f1_5_50 : Nat), (i50 ≤ 9) → (f1_5_50 ≤ i50) → (9 - i50) < zz → ∀ (H : Heap) (locs : List Loc) (ls : Array Slot), va_P D vwCl [(oX1 x3 t0 t1 t2 t3 ti4 (nI f1_5_50) t6 ti7 t8), (aIc cI t1 9 a_t1_50), (aIc cI t2 9 a_t2_50), (aIc cI t3 9 a_t3_50), (aIc cI t8 9 a_t8_50), (aIc cI t0 8 T0), (aIc cI s10 8 S10)] H → va_D A [(oX1 x3 t0 t1 t2 t3 ti4 (nI f1_5_50) t6 ti7 t8), (aIc cI t1 9 a_t1_50), (aIc cI t2 9 a_t2_50), (aIc cI t3 9 a_t3_50), (aIc cI t8 9 a_t8_50), (aIc cI t0 8 T0), (aIc cI s10 8 S10)] → va_S A s.heap H locs → lv_has ls 6 [(3, .int (nI i50)), (0, .ref x3), (1, .ref s10), (2, .int tt)] → W p l e { frames := 2, cells := 0, slots := 0, locals := 37 } s m [.ref x3, .ref s10, .int tt].toArray below meth c H locs 0 0 (MQ below (cQv D (fun u => ∃ (T1p T2p T3p T8p : Nat → Int32) (pmp : Nat), (pmp ≤ 9) ∧ u = [(oX1 x3 t0 t1 t2 t3 ti4 (nI pmp) t6 ti7 t8), (aIc cI t1 9 T1p), (aIc cI t2 9 T2p), (aIc cI t3 9 T3p), (aIc cI t8 9 T8p), (aIc cI t0 8 T0), (aIc cI s10 8 S10)]) A) [.ref x3, .ref s10, .int tt].toArray s 0 0 A) (F0 m 50 ls []) := by
          intro zz
          induction zz with
          | zero => intro i50 a_t1_50 a_t2_50 a_t3_50 a_t8_50 f1_5_50 _ _; exact fun h => absurd h (Nat.not_lt_zero _)
          | succ zz ih50 =>
            intro i50 a_t1_50 a_t2_50 a_t3_50 a_t8_50 f1_5_50 hc3_50 hpi_50 hmu50 H locs ls hP hD hS hl
            refine lv_iload_n hx hb dX1_recover_50 rfl (lv_at hl 0 rfl) ?_
            refine lv_bipush (v := 8) hx hb dX1_recover_51 (by decide) ?_
            refine lv_icmp_gt (tgt := 110) hx hb dX1_recover_53 (by decide) (fun c3 => ?_) (fun c3 => ?_)
            · skip
              have nc3 : 8 < i50 := (nI_ltI (a := 8) (b := i50) (by omega) (by omega)).mp c3
              refine k_vret (u := [(oX1 x3 t0 t1 t2 t3 ti4 (nI f1_5_50) t6 ti7 t8), (aIc cI t1 9 a_t1_50), (aIc cI t2 9 a_t2_50), (aIc cI t3 9 a_t3_50), (aIc cI t8 9 a_t8_50), (aIc cI t0 8 T0), (aIc cI s10 8 S10)]) hx hb hr hlk hP hD hS dX1_recover_110 ?_
              exact ⟨a_t1_50, a_t2_50, a_t3_50, a_t8_50, f1_5_50, (by omega), rfl⟩
            · skip
              have nc3 : ¬ 8 < i50 := fun q9 => c3 ((nI_ltI (a := 8) (b := i50) (by omega) (by omega)).mpr q9)
              refine lv_aload_n hx hb dX1_recover_56 rfl (lv_at hl 1 rfl) ?_
              refine k_iS (va_runV (As := []) (rest := []) ⟨hx, hb, hml, hown, hts⟩ (m_X1_leastBelow l D cI cJ H.size x3 t0 t1 t2 t3 t6 t8 f1_5_50 ti4 ti7 a_t8_50) (cwV 0 hts gX1_recover_X1_leastBelow rfl rfl rfl (by decide +kernel) ⟨Nat.le_of_ble_eq_true rfl, Nat.le_of_ble_eq_true rfl⟩) (k_preV hE hP hD [0, 4] (by decide +kernel) rfl 0 rfl rfl) rfl rfl hl.1 rfl (lv_room (Nat.le_of_ble_eq_true rfl)) dX1_recover_57 ⟨Nat.le_of_ble_eq_true rfl, Nat.le_of_ble_eq_true rfl⟩) hP hD hS hA [0, 4] rfl (fun _ _ ⟨_, h9⟩ => h9) (fun r4 H locs hw5 hP hD hS => ?_)
              obtain ⟨hz6, -⟩ := hw5
              refine lv_istore (lv' := [(4, .int r4), (3, .int (nI i50)), (0, .ref x3), (1, .ref s10), (2, .int tt)]) hx hb dX1_recover_60 hl (by decide) rfl (fun ls hl => ?_)
              refine lv_aload_n hx hb dX1_recover_62 rfl (lv_at hl 2 rfl) ?_
              refine va_get (D := D) (ci := 1) (v := .ref t8) (C := RX1) (T := TX1) (N := 9) hx hb hts hiX1 hown hE.1 hP 0 rfl rfl 8 (by decide) (hts _ (List.mem_cons_of_mem _ wd_104)) (fun _ h9 => h9) rfl dX1_recover_63 ?_
              refine lv_bipush (v := 8) hx hb dX1_recover_66 (by decide) ?_
              refine va_iald hx hb hE.1 hP 4 0 rfl rfl (by unfold vp_in; decide) dX1_recover_68 ?_
              refine lv_topi (fun v7 ev7 => ?_)
              refine lv_if_ge (tgt := 77) hx hb dX1_recover_69 (by decide) (fun c8 => ?_) (fun c8 => ?_)
              · skip
                refine lv_aload_n hx hb dX1_recover_77 rfl (lv_at hl 2 rfl) ?_
                refine k_iS (va_runV (As := []) (rest := []) ⟨hx, hb, hml, hown, hts⟩ (m_X1_leastAbove l D cI cJ H.size x3 t0 t1 t2 t3 t6 t8 f1_5_50 ti4 ti7 a_t8_50) (cwV 0 hts gX1_recover_X1_leastAbove rfl rfl rfl (by decide +kernel) ⟨Nat.le_of_ble_eq_true rfl, Nat.le_of_ble_eq_true rfl⟩) (k_preV hE hP hD [0, 4] (by decide +kernel) rfl 0 rfl rfl) rfl rfl hl.1 rfl (lv_room (Nat.le_of_ble_eq_true rfl)) dX1_recover_78 ⟨Nat.le_of_ble_eq_true rfl, Nat.le_of_ble_eq_true rfl⟩) hP hD hS hA [0, 4] rfl (fun _ _ ⟨_, h9⟩ => h9) (fun r9 H locs hw10 hP hD hS => ?_)
                obtain ⟨hz11, -⟩ := hw10
                refine lv_istore (lv' := [(5, .int r9), (4, .int r4), (3, .int (nI i50)), (0, .ref x3), (1, .ref s10), (2, .int tt)]) hx hb dX1_recover_81 hl (by decide) rfl (fun ls hl => ?_)
                refine lv_iload hx hb dX1_recover_83 (lv_at hl 1 rfl) ?_
                refine lv_iconst (v := (-1)) hx hb dX1_recover_85 (by decide) ?_
                refine lv_icmp_eq (tgt := 95) hx hb dX1_recover_86 (by decide) (fun c12 => ?_) (fun c12 => ?_)
                · skip
                  refine k_vret (u := [(oX1 x3 t0 t1 t2 t3 ti4 (nI f1_5_50) t6 ti7 t8), (aIc cI t1 9 a_t1_50), (aIc cI t2 9 a_t2_50), (aIc cI t3 9 a_t3_50), (aIc cI t8 9 a_t8_50), (aIc cI t0 8 T0), (aIc cI s10 8 S10)]) hx hb hr hlk hP hD hS dX1_recover_95 ?_
                  exact ⟨a_t1_50, a_t2_50, a_t3_50, a_t8_50, f1_5_50, (by omega), rfl⟩
                · skip
                  refine lv_iload hx hb dX1_recover_89 (lv_at hl 0 rfl) ?_
                  refine lv_iconst (v := (-1)) hx hb dX1_recover_91 (by decide) ?_
                  refine lv_icmp_ne (tgt := 96) hx hb dX1_recover_92 (by decide) (fun c13 => ?_) (fun c13 => ?_)
                  · skip
                    obtain ⟨pa, hpa, rfl⟩ := hz6.resolve_left c12
                    obtain ⟨pe, hpe, rfl⟩ := hz11.resolve_left c13
                    refine lv_aload_n hx hb dX1_recover_96 rfl (lv_at hl 3 rfl) ?_
                    refine lv_iload hx hb dX1_recover_97 (lv_at hl 1 rfl) ?_
                    refine lv_iload hx hb dX1_recover_99 (lv_at hl 0 rfl) ?_
                    refine k_v (va_runV (As := [.int (nI pa), .int (nI pe)]) (rest := []) ⟨hx, hb, hml, hown, hts⟩ (m_X1_settleBetween l D cI cJ H.size x3 t0 t1 t2 t3 t6 t8 pa pe f1_5_50 ti4 ti7 a_t1_50 a_t2_50 a_t3_50 a_t8_50 (by omega) (by omega) (by omega)) (cwV 2 hts gX1_recover_X1_settleBetween rfl rfl rfl (by decide +kernel) ⟨Nat.le_of_ble_eq_true rfl, Nat.le_of_ble_eq_true rfl⟩) (k_preV hE hP hD [0, 1, 2, 3, 4] (by decide +kernel) rfl 0 rfl rfl) rfl rfl hl.1 rfl (lv_room (Nat.le_of_ble_eq_true rfl)) dX1_recover_101 ⟨Nat.le_of_ble_eq_true rfl, Nat.le_of_ble_eq_true rfl⟩) hP hD hS hA [0, 1, 2, 3, 4] [5, 6] rfl (wr := [(aIc cI t0 8 T0), (aIc cI s10 8 S10)]) rfl (by decide +kernel) (by decide +kernel) (fun u H locs hw14 hP hD hS => ?_)
                    obtain ⟨z15, z16, z17, z18, rfl⟩ := hw14
                    refine k_re (w := [(aIc cI t0 8 T0), (aIc cI s10 8 S10), (oX1 x3 t0 t1 t2 t3 ti4 (nI (f1_5_50 + 1)) t6 ti7 t8), (aIc cI t1 9 z15), (aIc cI t2 9 z16), (aIc cI t3 9 z17), (aIc cI t8 9 z18)]) hP hD (fun hP hD => ?_)
                    refine lv_iinc (v := (nI (i50 + 1))) (lv' := [(3, .int (nI (i50 + 1))), (5, .int (nI pe)), (4, .int (nI pa)), (0, .ref x3), (1, .ref s10), (2, .int tt)]) hx hb dX1_recover_104 hl (k := 2) rfl (nI_1 _) (by decide) rfl (fun ls hl => ?_)
                    refine lv_goto (tgt := 50) hx hb dX1_recover_107 (by decide) ?_
                    exact ih50 (i50 + 1) z15 z16 z17 z18 (f1_5_50 + 1) (by omega) (by omega) (by omega) _ _ _ (k_sub hP [2, 3, 4, 5, 6, 0, 1] rfl) (hD.sub [2, 3, 4, 5, 6, 0, 1] (by decide +kernel) rfl) hS (lv_sub hl [0, 3, 4, 5] rfl)
                  · skip
                    refine k_vret (u := [(oX1 x3 t0 t1 t2 t3 ti4 (nI f1_5_50) t6 ti7 t8), (aIc cI t1 9 a_t1_50), (aIc cI t2 9 a_t2_50), (aIc cI t3 9 a_t3_50), (aIc cI t8 9 a_t8_50), (aIc cI t0 8 T0), (aIc cI s10 8 S10)]) hx hb hr hlk hP hD hS dX1_recover_95 ?_
                    exact ⟨a_t1_50, a_t2_50, a_t3_50, a_t8_50, f1_5_50, (by omega), rfl⟩
              · skip
                refine lv_bipush (v := 8) hx hb dX1_recover_72 (by decide) ?_
                refine lv_goto (tgt := 81) hx hb dX1_recover_74 (by decide) ?_
                refine lv_istore (lv' := [(5, .int 8), (4, .int r4), (3, .int (nI i50)), (0, .ref x3), (1, .ref s10), (2, .int tt)]) hx hb dX1_recover_81 hl (by decide) rfl (fun ls hl => ?_)
                refine lv_iload hx hb dX1_recover_83 (lv_at hl 1 rfl) ?_
                refine lv_iconst (v := (-1)) hx hb dX1_recover_85 (by decide) ?_
                refine lv_icmp_eq (tgt := 95) hx hb dX1_recover_86 (by decide) (fun c19 => ?_) (fun c19 => ?_)
                · skip
                  refine k_vret (u := [(oX1 x3 t0 t1 t2 t3 ti4 (nI f1_5_50) t6 ti7 t8), (aIc cI t1 9 a_t1_50), (aIc cI t2 9 a_t2_50), (aIc cI t3 9 a_t3_50), (aIc cI t8 9 a_t8_50), (aIc cI t0 8 T0), (aIc cI s10 8 S10)]) hx hb hr hlk hP hD hS dX1_recover_95 ?_
                  exact ⟨a_t1_50, a_t2_50, a_t3_50, a_t8_50, f1_5_50, (by omega), rfl⟩
                · skip
                  refine lv_iload hx hb dX1_recover_89 (lv_at hl 0 rfl) ?_
                  refine lv_iconst (v := (-1)) hx hb dX1_recover_91 (by decide) ?_
                  refine lv_icmp_ne (tgt := 96) hx hb dX1_recover_92 (by decide) (fun _ => ?_) (fun c20 => absurd c20 (by decide))
                  obtain ⟨pa, hpa, rfl⟩ := hz6.resolve_left c19
                  refine lv_aload_n hx hb dX1_recover_96 rfl (lv_at hl 3 rfl) ?_
                  refine lv_iload hx hb dX1_recover_97 (lv_at hl 1 rfl) ?_
                  refine lv_iload hx hb dX1_recover_99 (lv_at hl 0 rfl) ?_
                  refine k_v (va_runV (As := [.int (nI pa), .int 8]) (rest := []) ⟨hx, hb, hml, hown, hts⟩ (m_X1_settleBetween l D cI cJ H.size x3 t0 t1 t2 t3 t6 t8 pa 8 f1_5_50 ti4 ti7 a_t1_50 a_t2_50 a_t3_50 a_t8_50 (by omega) (by omega) (by omega)) (cwV 2 hts gX1_recover_X1_settleBetween rfl rfl rfl (by decide +kernel) ⟨Nat.le_of_ble_eq_true rfl, Nat.le_of_ble_eq_true rfl⟩) (k_preV hE hP hD [0, 1, 2, 3, 4] (by decide +kernel) rfl 0 rfl rfl) rfl rfl hl.1 rfl (lv_room (Nat.le_of_ble_eq_true rfl)) dX1_recover_101 ⟨Nat.le_of_ble_eq_true rfl, Nat.le_of_ble_eq_true rfl⟩) hP hD hS hA [0, 1, 2, 3, 4] [5, 6] rfl (wr := [(aIc cI t0 8 T0), (aIc cI s10 8 S10)]) rfl (by decide +kernel) (by decide +kernel) (fun u H locs hw21 hP hD hS => ?_)
                  obtain ⟨z22, z23, z24, z25, rfl⟩ := hw21
                  refine k_re (w := [(aIc cI t0 8 T0), (aIc cI s10 8 S10), (oX1 x3 t0 t1 t2 t3 ti4 (nI (f1_5_50 + 1)) t6 ti7 t8), (aIc cI t1 9 z22), (aIc cI t2 9 z23), (aIc cI t3 9 z24), (aIc cI t8 9 z25)]) hP hD (fun hP hD => ?_)
                  refine lv_iinc (v := (nI (i50 + 1))) (lv' := [(3, .int (nI (i50 + 1))), (5, .int 8), (4, .int (nI pa)), (0, .ref x3), (1, .ref s10), (2, .int tt)]) hx hb dX1_recover_104 hl (k := 2) rfl (nI_1 _) (by decide) rfl (fun ls hl => ?_)
                  refine lv_goto (tgt := 50) hx hb dX1_recover_107 (by decide) ?_
                  exact ih50 (i50 + 1) z22 z23 z24 z25 (f1_5_50 + 1) (by omega) (by omega) (by omega) _ _ _ (k_sub hP [2, 3, 4, 5, 6, 0, 1] rfl) (hD.sub [2, 3, 4, 5, 6, 0, 1] (by decide +kernel) rfl) hS (lv_sub hl [0, 3, 4, 5] rfl)
        exact J50 _ 0 T1 T2 T3 a_t8_20 0 (by omega) (by omega) (Nat.lt_succ_self _) _ _ _ hP hD hS (lv_sub hl [0, 1, 2, 3] rfl)
      · skip
        have nc2 : ¬ 8 ≤ i20 := fun q9 => c2 ((nI_leI (a := 8) (b := i20) (by omega) (by omega)).mpr q9)
        refine lv_aload_n hx hb dX1_recover_26 rfl (lv_at hl 1 rfl) ?_
        refine va_get (D := D) (ci := 1) (v := .ref t8) (C := RX1) (T := TX1) (N := 9) hx hb hts hiX1 hown hE.1 hP 0 rfl rfl 8 (by decide) (hts _ (List.mem_cons_of_mem _ wd_104)) (fun _ h9 => h9) rfl dX1_recover_27 ?_
        refine lv_iload_n hx hb dX1_recover_30 rfl (lv_at hl 0 rfl) ?_
        refine lv_aload_n hx hb dX1_recover_31 rfl (lv_at hl 1 rfl) ?_
        refine va_get (D := D) (ci := 1) (v := .ref t0) (C := RX1) (T := TX1) (N := 9) hx hb hts hiX1 hown hE.1 hP 0 rfl rfl 0 (by decide) (hts _ (List.mem_cons_of_mem _ wd_99)) (fun _ h9 => h9) rfl dX1_recover_32 ?_
        refine lv_iload_n hx hb dX1_recover_35 rfl (lv_at hl 0 rfl) ?_
        refine va_iald hx hb hE.1 hP 5 0 rfl rfl (vp_in_nI (n := i20) (by omega) (by decide)) dX1_recover_36 ?_
        refine lv_topi (fun v26 ev26 => ?_)
        refine lv_aload_n hx hb dX1_recover_37 rfl (lv_at hl 2 rfl) ?_
        refine lv_iload_n hx hb dX1_recover_38 rfl (lv_at hl 0 rfl) ?_
        refine va_iald hx hb hE.1 hP 6 0 rfl rfl (vp_in_nI (n := i20) (by omega) (by decide)) dX1_recover_39 ?_
        refine lv_topi (fun v27 ev27 => ?_)
        refine lv_isub hx hb dX1_recover_40 ?_
        refine lv_topi (fun v28 ev28 => ?_)
        refine va_iast hx hb hE.1 hP hD hS 4 0 rfl rfl (vp_in_nI (n := i20) (by omega) (by decide)) dX1_recover_41 (fun H locs hP hD hS => ?_)
        refine k_re (w := [(oX1 x3 t0 t1 t2 t3 ti4 0 t6 ti7 t8), (aIc cI t1 9 T1), (aIc cI t2 9 T2), (aIc cI t3 9 T3), (aIc cI t8 9 (upd a_t8_20 (Int32.toNatClampNeg (nI i20)) v28)), (aIc cI t0 8 T0), (aIc cI s10 8 S10)]) hP hD (fun hP hD => ?_)
        refine lv_iinc (v := (nI (i20 + 1))) (lv' := [(3, .int (nI (i20 + 1))), (0, .ref x3), (1, .ref s10), (2, .int tt)]) hx hb dX1_recover_42 hl (k := 0) rfl (nI_1 _) (by decide) rfl (fun ls hl => ?_)
        refine lv_goto (tgt := 20) hx hb dX1_recover_45 (by decide) ?_
        exact ih20 (i20 + 1) (upd a_t8_20 (Int32.toNatClampNeg (nI i20)) v28) (by omega) (by omega) _ _ _ hP hD hS (lv_sub hl [0, 1, 2, 3] rfl)
  exact J20 _ 0 (upd T8 (Int32.toNatClampNeg 8) v1) (by omega) (Nat.lt_succ_self _) _ _ _ hP hD hS (lv_sub hl [0, 1, 2, 3] rfl)
theorem dX3_put_0 : decode cX3_put 0 = .ok (.aload_n 0, 1) := by decide +kernel
theorem dX3_put_1 : decode cX3_put 1 = .ok (.getfield 9, 3) := by decide +kernel
theorem dX3_put_4 : decode cX3_put 4 = .ok (.iload_n 1, 1) := by decide +kernel
theorem dX3_put_5 : decode cX3_put 5 = .ok (.iload_n 2, 1) := by decide +kernel
theorem dX3_put_6 : decode cX3_put 6 = .ok (.iastore, 1) := by decide +kernel
theorem dX3_put_7 : decode cX3_put 7 = .ok (.aload_n 0, 1) := by decide +kernel
theorem dX3_put_8 : decode cX3_put 8 = .ok (.getfield 15, 3) := by decide +kernel
theorem dX3_put_11 : decode cX3_put 11 = .ok (.iload_n 1, 1) := by decide +kernel
theorem dX3_put_12 : decode cX3_put 12 = .ok (.iload_n 3, 1) := by decide +kernel
theorem dX3_put_13 : decode cX3_put 13 = .ok (.iastore, 1) := by decide +kernel
theorem dX3_put_14 : decode cX3_put 14 = .ok (.return_, 1) := by decide +kernel
