theorem dX8_hasRing_0 : decode cX8_hasRing 0 = .ok (.iconst 0, 1) := by decide +kernel
theorem dX8_hasRing_1 : decode cX8_hasRing 1 = .ok (.istore_n 3, 1) := by decide +kernel
theorem dX8_hasRing_2 : decode cX8_hasRing 2 = .ok (.iload_n 3, 1) := by decide +kernel
theorem dX8_hasRing_3 : decode cX8_hasRing 3 = .ok (.bipush 8, 2) := by decide +kernel
theorem dX8_hasRing_5 : decode cX8_hasRing 5 = .ok (.if_icmp .ge 30, 3) := by decide +kernel
theorem dX8_hasRing_8 : decode cX8_hasRing 8 = .ok (.aload_n 0, 1) := by decide +kernel
theorem dX8_hasRing_9 : decode cX8_hasRing 9 = .ok (.getfield 58, 3) := by decide +kernel
theorem dX8_hasRing_12 : decode cX8_hasRing 12 = .ok (.iload_n 3, 1) := by decide +kernel
theorem dX8_hasRing_13 : decode cX8_hasRing 13 = .ok (.iload_n 1, 1) := by decide +kernel
theorem dX8_hasRing_14 : decode cX8_hasRing 14 = .ok (.iload_n 3, 1) := by decide +kernel
theorem dX8_hasRing_15 : decode cX8_hasRing 15 = .ok (.invokestatic 154, 3) := by decide +kernel
theorem dX8_hasRing_18 : decode cX8_hasRing 18 = .ok (.ifCond .eq 7, 3) := by decide +kernel
theorem dX8_hasRing_21 : decode cX8_hasRing 21 = .ok (.iconst 0, 1) := by decide +kernel
theorem dX8_hasRing_22 : decode cX8_hasRing 22 = .ok (.goto 6, 3) := by decide +kernel
theorem dX8_hasRing_25 : decode cX8_hasRing 25 = .ok (.aload_n 2, 1) := by decide +kernel
theorem dX8_hasRing_26 : decode cX8_hasRing 26 = .ok (.iload_n 3, 1) := by decide +kernel
theorem dX8_hasRing_27 : decode cX8_hasRing 27 = .ok (.iaload, 1) := by decide +kernel
theorem dX8_hasRing_28 : decode cX8_hasRing 28 = .ok (.iastore, 1) := by decide +kernel
theorem dX8_hasRing_29 : decode cX8_hasRing 29 = .ok (.iinc 3 1, 3) := by decide +kernel
theorem dX8_hasRing_32 : decode cX8_hasRing 32 = .ok (.goto (-30), 3) := by decide +kernel
theorem dX8_hasRing_35 : decode cX8_hasRing 35 = .ok (.aload_n 0, 1) := by decide +kernel
theorem dX8_hasRing_36 : decode cX8_hasRing 36 = .ok (.invokevirtual 207, 3) := by decide +kernel
theorem dX8_hasRing_39 : decode cX8_hasRing 39 = .ok (.iconst 0, 1) := by decide +kernel
theorem dX8_hasRing_40 : decode cX8_hasRing 40 = .ok (.istore_n 3, 1) := by decide +kernel
theorem dX8_hasRing_41 : decode cX8_hasRing 41 = .ok (.iload_n 3, 1) := by decide +kernel
theorem dX8_hasRing_42 : decode cX8_hasRing 42 = .ok (.bipush 8, 2) := by decide +kernel
theorem dX8_hasRing_44 : decode cX8_hasRing 44 = .ok (.if_icmp .ge 24, 3) := by decide +kernel
theorem dX8_hasRing_47 : decode cX8_hasRing 47 = .ok (.aload_n 0, 1) := by decide +kernel
theorem dX8_hasRing_48 : decode cX8_hasRing 48 = .ok (.getfield 61, 3) := by decide +kernel
theorem dX8_hasRing_51 : decode cX8_hasRing 51 = .ok (.iload_n 3, 1) := by decide +kernel
theorem dX8_hasRing_52 : decode cX8_hasRing 52 = .ok (.iaload, 1) := by decide +kernel
theorem dX8_hasRing_53 : decode cX8_hasRing 53 = .ok (.iload_n 3, 1) := by decide +kernel
theorem dX8_hasRing_54 : decode cX8_hasRing 54 = .ok (.invokestatic 154, 3) := by decide +kernel
theorem dX8_hasRing_57 : decode cX8_hasRing 57 = .ok (.ifCond .eq 5, 3) := by decide +kernel
theorem dX8_hasRing_60 : decode cX8_hasRing 60 = .ok (.iconst 1, 1) := by decide +kernel
theorem dX8_hasRing_61 : decode cX8_hasRing 61 = .ok (.ireturn, 1) := by decide +kernel
theorem dX8_hasRing_62 : decode cX8_hasRing 62 = .ok (.iinc 3 1, 3) := by decide +kernel
theorem dX8_hasRing_65 : decode cX8_hasRing 65 = .ok (.goto (-24), 3) := by decide +kernel
theorem dX8_hasRing_68 : decode cX8_hasRing 68 = .ok (.iconst 0, 1) := by decide +kernel
theorem dX8_hasRing_69 : decode cX8_hasRing 69 = .ok (.ireturn, 1) := by decide +kernel
theorem gX8_hasRing_X8_closes : GoodIn wtX8_hasRing (wsV RX8 207 RX8 yX8_closes wtX8_closes) := tb_good (tb_v0 wd_437 wd_438 wd_439 wd_5 wd_440)
theorem gX8_hasRing_X8_isOn : GoodIn wtX8_hasRing (va_wsS RX8 154 yX8_isOn wtX8_isOn) := tb_good (tb_s0 wd_423 wd_424 wd_5 wd_425)
set_option maxHeartbeats 4000000 in
set_option maxRecDepth 100000 in
theorem m_X8_hasRing (l : Launch) (D : va_G) (cI cJ : ClassId) (sz : Nat) (g g2 g3 g4 g5 g6 g7 g8 g9 g10 g12 g13 g15 g16 g17 g19 g20 g21 g22 g23 g24 g25 g26 g27 g28 g33 g34 g35 g36 g37 g38 g39 g41 g42 g44 g45 mn ml mv : Nat) (gi0 gi14 gi18 gi29 gi30 gi32 gi40 gi43 p0 : Int32) (G21 G22 G23 G44 : Nat → Int32) : Met l yX8_hasRing wtX8_hasRing { frames := 2, cells := 0, slots := 0, locals := 43 } (cPc D cI cJ [.ref g, .int p0, .ref g44] sz [(oX8 g gi0 (nI mn) g2 g3 g4 g5 g6 g7 g8 g9 g10 (nI ml) g12 g13 gi14 g15 g16 g17 gi18 g19 g20 g21 g22 g23 g24 g25 g26 g27 g28 gi29 gi30 (nI mv) gi32 g33 g34 g35 g36 g37 g38 g39 gi40 g41 g42 gi43 g44 g45), (aIc cI g21 8 G21), (aIc cI g22 8 G22), (aIc cI g23 8 G23), (aIc cI g44 8 G44)]) (cQi D (fun r u => ∃ (G21p G22p G23p : Nat → Int32), (r = 0 ∨ r = 1) ∧ u = [(oX8 g gi0 (nI mn) g2 g3 g4 g5 g6 g7 g8 g9 g10 (nI ml) g12 g13 gi14 g15 g16 g17 gi18 g19 g20 g21 g22 g23 g24 g25 g26 g27 g28 gi29 gi30 (nI mv) gi32 g33 g34 g35 g36 g37 g38 g39 gi40 g41 g42 gi43 g44 g45), (aIc cI g21 8 G21p), (aIc cI g22 8 G22p), (aIc cI g23 8 G23p), (aIc cI g44 8 G44)]) (va_A [(oX8 g gi0 (nI mn) g2 g3 g4 g5 g6 g7 g8 g9 g10 (nI ml) g12 g13 gi14 g15 g16 g17 gi18 g19 g20 g21 g22 g23 g24 g25 g26 g27 g28 gi29 gi30 (nI mv) gi32 g33 g34 g35 g36 g37 g38 g39 gi40 g41 g42 gi43 g44 g45), (aIc cI g21 8 G21), (aIc cI g22 8 G22), (aIc cI g23 8 G23), (aIc cI g44 8 G44)] sz)) 0 0 (va_A [(oX8 g gi0 (nI mn) g2 g3 g4 g5 g6 g7 g8 g9 g10 (nI ml) g12 g13 gi14 g15 g16 g17 gi18 g19 g20 g21 g22 g23 g24 g25 g26 g27 g28 gi29 gi30 (nI mv) gi32 g33 g34 g35 g36 g37 g38 g39 gi40 g41 g42 gi43 g44 g45), (aIc cI g21 8 G21), (aIc cI g22 8 G22), (aIc cI g23 8 G23), (aIc cI g44 8 G44)] sz) := by
  refine k_ofW (Qc := cQi D (fun r u => ∃ (G21p G22p G23p : Nat → Int32), (r = 0 ∨ r = 1) ∧ u = [(oX8 g gi0 (nI mn) g2 g3 g4 g5 g6 g7 g8 g9 g10 (nI ml) g12 g13 gi14 g15 g16 g17 gi18 g19 g20 g21 g22 g23 g24 g25 g26 g27 g28 gi29 gi30 (nI mv) gi32 g33 g34 g35 g36 g37 g38 g39 gi40 g41 g42 gi43 g44 g45), (aIc cI g21 8 G21p), (aIc cI g22 8 G22p), (aIc cI g23 8 G23p), (aIc cI g44 8 G44)])) (by decide) rfl (Nat.le_of_ble_eq_true rfl) ?_
  intro p e s m below meth c A ls hx hb hr hml hts hown hlk hnm hsz hE hP hD hS hA hl
  have hown : s.vm.findClass RX8 = some m.cls := hown
  have hiX8 : ∀ w ∈ u_ws RX8 TX8 46, w ∈ wtX8_hasRing := fun w h => List.mem_cons_of_mem _ (iuX8 w h)
  have hl : lv_has ls 4 [(0, .ref g), (1, .int p0), (2, .ref g44)] := hl
  refine lv_iconst (v := 0) hx hb dX8_hasRing_0 (by decide) ?_
  refine lv_istore_n (lv' := [(3, .int 0), (0, .ref g), (1, .int p0), (2, .ref g44)]) hx hb dX8_hasRing_1 rfl hl (by decide) rfl (fun ls hl => ?_)
  have J2 : ∀ (zz : Nat) (i2 : Nat) (a_g21_2 : Nat → Int32), (i2 ≤ 8) → (8 - i2) < zz → ∀ (H : Heap) (locs : List Loc) (ls : Array Slot), va_P D vwCl [(oX8 g gi0 (nI mn) g2 g3 g4 g5 g6 g7 g8 g9 g10 (nI ml) g12 g13 gi14 g15 g16 g17 gi18 g19 g20 g21 g22 g23 g24 g25 g26 g27 g28 gi29 gi30 (nI mv) gi32 g33 g34 g35 g36 g37 g38 g39 gi40 g41 g42 gi43 g44 g45), (aIc cI g21 8 a_g21_2), (aIc cI g22 8 G22), (aIc cI g23 8 G23), (aIc cI g44 8 G44)] H → va_D A [(oX8 g gi0 (nI mn) g2 g3 g4 g5 g6 g7 g8 g9 g10 (nI ml) g12 g13 gi14 g15 g16 g17 gi18 g19 g20 g21 g22 g23 g24 g25 g26 g27 g28 gi29 gi30 (nI mv) gi32 g33 g34 g35 g36 g37 g38 g39 gi40 g41 g42 gi43 g44 g45), (aIc cI g21 8 a_g21_2), (aIc cI g22 8 G22), (aIc cI g23 8 G23), (aIc cI g44 8 G44)] → va_S A s.heap H locs → lv_has ls 4 [(3, .int (nI i2)), (0, .ref g), (1, .int p0), (2, .ref g44)] → W p l e { frames := 2, cells := 0, slots := 0, locals := 43 } s m [.ref g, .int p0, .ref g44].toArray below meth c H locs 0 0 (MQ below (cQi D (fun r u => ∃ (G21p G22p G23p : Nat → Int32), (r = 0 ∨ r = 1) ∧ u = [(oX8 g gi0 (nI mn) g2 g3 g4 g5 g6 g7 g8 g9 g10 (nI ml) g12 g13 gi14 g15 g16 g17 gi18 g19 g20 g21 g22 g23 g24 g25 g26 g27 g28 gi29 gi30 (nI mv) gi32 g33 g34 g35 g36 g37 g38 g39 gi40 g41 g42 gi43 g44 g45), (aIc cI g21 8 G21p), (aIc cI g22 8 G22p), (aIc cI g23 8 G23p), (aIc cI g44 8 G44)]) A) [.ref g, .int p0, .ref g44].toArray s 0 0 A) (F0 m 2 ls []) := by
    intro zz
    induction zz with
    | zero => intro i2 a_g21_2 _; exact fun h => absurd h (Nat.not_lt_zero _)
    | succ zz ih2 =>
      intro i2 a_g21_2 hc3_2 hmu2 H locs ls hP hD hS hl
      refine lv_iload_n hx hb dX8_hasRing_2 rfl (lv_at hl 0 rfl) ?_
      refine lv_bipush (v := 8) hx hb dX8_hasRing_3 (by decide) ?_
      refine lv_icmp_ge (tgt := 35) hx hb dX8_hasRing_5 (by decide) (fun c1 => ?_) (fun c1 => ?_)
      · skip
        have nc1 : 8 ≤ i2 := (nI_leI (a := 8) (b := i2) (by omega) (by omega)).mp c1
        refine lv_aload_n hx hb dX8_hasRing_35 rfl (lv_at hl 1 rfl) ?_
        refine k_v (va_runV (As := []) (rest := []) ⟨hx, hb, hml, hown, hts⟩ (m_X8_closes l D cI cJ H.size g g2 g3 g4 g5 g6 g7 g8 g9 g10 g12 g13 g15 g16 g17 g19 g20 g21 g22 g23 g24 g25 g26 g27 g28 g33 g34 g35 g36 g37 g38 g39 g41 g42 g44 g45 mn ml mv gi0 gi14 gi18 gi29 gi30 gi32 gi40 gi43 a_g21_2 G22 G23) (cwV 0 hts gX8_hasRing_X8_closes rfl rfl rfl (by decide +kernel) ⟨Nat.le_of_ble_eq_true rfl, Nat.le_of_ble_eq_true rfl⟩) (k_preV hE hP hD [0, 1, 2, 3] (by decide +kernel) rfl 0 rfl rfl) rfl rfl hl.1 rfl (lv_room (Nat.le_of_ble_eq_true rfl)) dX8_hasRing_36 ⟨Nat.le_of_ble_eq_true rfl, Nat.le_of_ble_eq_true rfl⟩) hP hD hS hA [0, 1, 2, 3] [4] rfl (wr := [(aIc cI g44 8 G44)]) rfl (by decide +kernel) (by decide +kernel) (fun u H locs hw2 hP hD hS => ?_)
        obtain ⟨z3, z4, rfl⟩ := hw2
        refine k_re (w := [(aIc cI g44 8 G44), (oX8 g gi0 (nI mn) g2 g3 g4 g5 g6 g7 g8 g9 g10 (nI ml) g12 g13 gi14 g15 g16 g17 gi18 g19 g20 g21 g22 g23 g24 g25 g26 g27 g28 gi29 gi30 (nI mv) gi32 g33 g34 g35 g36 g37 g38 g39 gi40 g41 g42 gi43 g44 g45), (aIc cI g21 8 a_g21_2), (aIc cI g22 8 z3), (aIc cI g23 8 z4)]) hP hD (fun hP hD => ?_)
        refine lv_iconst (v := 0) hx hb dX8_hasRing_39 (by decide) ?_
        refine lv_istore_n (lv' := [(3, .int 0), (0, .ref g), (1, .int p0), (2, .ref g44)]) hx hb dX8_hasRing_40 rfl hl (by decide) rfl (fun ls hl => ?_)
        have J41 : ∀ (zz : Nat) (i41 : Nat), (i41 ≤ 8) → (8 - i41) < zz → ∀ (H : Heap) (locs : List Loc) (ls : Array Slot), va_P D vwCl [(aIc cI g44 8 G44), (oX8 g gi0 (nI mn) g2 g3 g4 g5 g6 g7 g8 g9 g10 (nI ml) g12 g13 gi14 g15 g16 g17 gi18 g19 g20 g21 g22 g23 g24 g25 g26 g27 g28 gi29 gi30 (nI mv) gi32 g33 g34 g35 g36 g37 g38 g39 gi40 g41 g42 gi43 g44 g45), (aIc cI g21 8 a_g21_2), (aIc cI g22 8 z3), (aIc cI g23 8 z4)] H → va_D A [(aIc cI g44 8 G44), (oX8 g gi0 (nI mn) g2 g3 g4 g5 g6 g7 g8 g9 g10 (nI ml) g12 g13 gi14 g15 g16 g17 gi18 g19 g20 g21 g22 g23 g24 g25 g26 g27 g28 gi29 gi30 (nI mv) gi32 g33 g34 g35 g36 g37 g38 g39 gi40 g41 g42 gi43 g44 g45), (aIc cI g21 8 a_g21_2), (aIc cI g22 8 z3), (aIc cI g23 8 z4)] → va_S A s.heap H locs → lv_has ls 4 [(3, .int (nI i41)), (0, .ref g), (1, .int p0), (2, .ref g44)] → W p l e { frames := 2, cells := 0, slots := 0, locals := 43 } s m [.ref g, .int p0, .ref g44].toArray below meth c H locs 0 0 (MQ below (cQi D (fun r u => ∃ (G21p G22p G23p : Nat → Int32), (r = 0 ∨ r = 1) ∧ u = [(oX8 g gi0 (nI mn) g2 g3 g4 g5 g6 g7 g8 g9 g10 (nI ml) g12 g13 gi14 g15 g16 g17 gi18 g19 g20 g21 g22 g23 g24 g25 g26 g27 g28 gi29 gi30 (nI mv) gi32 g33 g34 g35 g36 g37 g38 g39 gi40 g41 g42 gi43 g44 g45), (aIc cI g21 8 G21p), (aIc cI g22 8 G22p), (aIc cI g23 8 G23p), (aIc cI g44 8 G44)]) A) [.ref g, .int p0, .ref g44].toArray s 0 0 A) (F0 m 41 ls []) := by
          intro zz
          induction zz with
          | zero => intro i41 _; exact fun h => absurd h (Nat.not_lt_zero _)
          | succ zz ih41 =>
            intro i41 hc3_41 hmu41 H locs ls hP hD hS hl
            refine lv_iload_n hx hb dX8_hasRing_41 rfl (lv_at hl 0 rfl) ?_
            refine lv_bipush (v := 8) hx hb dX8_hasRing_42 (by decide) ?_
            refine lv_icmp_ge (tgt := 68) hx hb dX8_hasRing_44 (by decide) (fun c5 => ?_) (fun c5 => ?_)
            · skip
              have nc5 : 8 ≤ i41 := (nI_leI (a := 8) (b := i41) (by omega) (by omega)).mp c5
              refine lv_iconst (v := 0) hx hb dX8_hasRing_68 (by decide) ?_
              refine k_zret (u := [(oX8 g gi0 (nI mn) g2 g3 g4 g5 g6 g7 g8 g9 g10 (nI ml) g12 g13 gi14 g15 g16 g17 gi18 g19 g20 g21 g22 g23 g24 g25 g26 g27 g28 gi29 gi30 (nI mv) gi32 g33 g34 g35 g36 g37 g38 g39 gi40 g41 g42 gi43 g44 g45), (aIc cI g21 8 a_g21_2), (aIc cI g22 8 z3), (aIc cI g23 8 z4), (aIc cI g44 8 G44)]) hx hb hr (by decide) hlk (k_sub hP [1, 2, 3, 4, 0] rfl) (hD.sub [1, 2, 3, 4, 0] (by decide +kernel) rfl) hS dX8_hasRing_69 ?_
              exact ⟨a_g21_2, z3, z4, (by decide), rfl⟩
            · skip
              have nc5 : ¬ 8 ≤ i41 := fun q9 => c5 ((nI_leI (a := 8) (b := i41) (by omega) (by omega)).mpr q9)
              refine lv_aload_n hx hb dX8_hasRing_47 rfl (lv_at hl 1 rfl) ?_
              refine va_get (D := D) (ci := 8) (v := .ref g22) (C := RX8) (T := TX8) (N := 46) hx hb hts hiX8 hown hE.1 hP 1 rfl rfl 22 (by decide) (hts _ (List.mem_cons_of_mem _ wd_133)) (fun _ h9 => h9) rfl dX8_hasRing_48 ?_
              refine lv_iload_n hx hb dX8_hasRing_51 rfl (lv_at hl 0 rfl) ?_
              refine va_iald hx hb hE.1 hP 3 0 rfl rfl (vp_in_nI (n := i41) (by omega) (by decide)) dX8_hasRing_52 ?_
              refine lv_topi (fun v6 ev6 => ?_)
              refine lv_iload_n hx hb dX8_hasRing_53 rfl (lv_at hl 0 rfl) ?_
              refine k_iS (va_runS (As := [.int v6, .int (nI i41)]) (rest := []) ⟨hx, hb, hml, hown, hts⟩ (m_X8_isOn l D cI cJ H.size v6 (nI i41)) (va_cwS 2 hts gX8_hasRing_X8_isOn rfl rfl rfl (by decide +kernel) ⟨Nat.le_of_ble_eq_true rfl, Nat.le_of_ble_eq_true rfl⟩) (k_pre hE hP hD [] (by decide +kernel) rfl) rfl rfl hl.1 rfl (lv_room (Nat.le_of_ble_eq_true rfl)) dX8_hasRing_54 ⟨Nat.le_of_ble_eq_true rfl, Nat.le_of_ble_eq_true rfl⟩) hP hD hS hA [] rfl (fun _ _ h9 => h9.2) (fun r7 H locs hw8 hP hD hS => ?_)
              obtain ⟨hw8, -⟩ := hw8
              refine lv_if_eq (tgt := 62) hx hb dX8_hasRing_57 (by decide) (fun c9 => ?_) (fun c9 => ?_)
              · skip
                have hc9 : ¬ ((v6 >>> ((nI i41) &&& 31)) &&& 1 = 1) := bz_0 hw8 c9
                refine lv_iinc (v := (nI (i41 + 1))) (lv' := [(3, .int (nI (i41 + 1))), (0, .ref g), (1, .int p0), (2, .ref g44)]) hx hb dX8_hasRing_62 hl (k := 0) rfl (nI_1 _) (by decide) rfl (fun ls hl => ?_)
                refine lv_goto (tgt := 41) hx hb dX8_hasRing_65 (by decide) ?_
                exact ih41 (i41 + 1) (by omega) (by omega) _ _ _ hP hD hS (lv_sub hl [0, 1, 2, 3] rfl)
              · skip
                have hc9 : (v6 >>> ((nI i41) &&& 31)) &&& 1 = 1 := bz_1 hw8 c9
                refine lv_iconst (v := 1) hx hb dX8_hasRing_60 (by decide) ?_
                refine k_zret (u := [(oX8 g gi0 (nI mn) g2 g3 g4 g5 g6 g7 g8 g9 g10 (nI ml) g12 g13 gi14 g15 g16 g17 gi18 g19 g20 g21 g22 g23 g24 g25 g26 g27 g28 gi29 gi30 (nI mv) gi32 g33 g34 g35 g36 g37 g38 g39 gi40 g41 g42 gi43 g44 g45), (aIc cI g21 8 a_g21_2), (aIc cI g22 8 z3), (aIc cI g23 8 z4), (aIc cI g44 8 G44)]) hx hb hr (by decide) hlk (k_sub hP [1, 2, 3, 4, 0] rfl) (hD.sub [1, 2, 3, 4, 0] (by decide +kernel) rfl) hS dX8_hasRing_61 ?_
                exact ⟨a_g21_2, z3, z4, (by decide), rfl⟩
        exact J41 _ 0 (by omega) (Nat.lt_succ_self _) _ _ _ hP hD hS (lv_sub hl [0, 1, 2, 3] rfl)
      · skip
        have nc1 : ¬ 8 ≤ i2 := fun q9 => c1 ((nI_leI (a := 8) (b := i2) (by omega) (by omega)).mpr q9)
        refine lv_aload_n hx hb dX8_hasRing_8 rfl (lv_at hl 1 rfl) ?_
        refine va_get (D := D) (ci := 8) (v := .ref g21) (C := RX8) (T := TX8) (N := 46) hx hb hts hiX8 hown hE.1 hP 0 rfl rfl 21 (by decide) (hts _ (List.mem_cons_of_mem _ wd_132)) (fun _ h9 => h9) rfl dX8_hasRing_9 ?_
        refine lv_iload_n hx hb dX8_hasRing_12 rfl (lv_at hl 0 rfl) ?_
        refine lv_iload_n hx hb dX8_hasRing_13 rfl (lv_at hl 2 rfl) ?_
        refine lv_iload_n hx hb dX8_hasRing_14 rfl (lv_at hl 0 rfl) ?_
        refine k_iS (va_runS (As := [.int p0, .int (nI i2)]) (rest := [.int (nI i2), .ref g21]) ⟨hx, hb, hml, hown, hts⟩ (m_X8_isOn l D cI cJ H.size p0 (nI i2)) (va_cwS 2 hts gX8_hasRing_X8_isOn rfl rfl rfl (by decide +kernel) ⟨Nat.le_of_ble_eq_true rfl, Nat.le_of_ble_eq_true rfl⟩) (k_pre hE hP hD [] (by decide +kernel) rfl) rfl rfl hl.1 rfl (lv_room (Nat.le_of_ble_eq_true rfl)) dX8_hasRing_15 ⟨Nat.le_of_ble_eq_true rfl, Nat.le_of_ble_eq_true rfl⟩) hP hD hS hA [] rfl (fun _ _ h9 => h9.2) (fun r10 H locs hw11 hP hD hS => ?_)
        obtain ⟨hw11, -⟩ := hw11
        refine lv_if_eq (tgt := 25) hx hb dX8_hasRing_18 (by decide) (fun c12 => ?_) (fun c12 => ?_)
        · skip
          have hc12 : ¬ ((p0 >>> ((nI i2) &&& 31)) &&& 1 = 1) := bz_0 hw11 c12
          refine lv_aload_n hx hb dX8_hasRing_25 rfl (lv_at hl 3 rfl) ?_
          refine lv_iload_n hx hb dX8_hasRing_26 rfl (lv_at hl 0 rfl) ?_
          refine va_iald hx hb hE.1 hP 4 0 rfl rfl (vp_in_nI (n := i2) (by omega) (by decide)) dX8_hasRing_27 ?_
          refine lv_topi (fun v13 ev13 => ?_)
          refine va_iast hx hb hE.1 hP hD hS 1 0 rfl rfl (vp_in_nI (n := i2) (by omega) (by decide)) dX8_hasRing_28 (fun H locs hP hD hS => ?_)
          refine k_re (w := [(oX8 g gi0 (nI mn) g2 g3 g4 g5 g6 g7 g8 g9 g10 (nI ml) g12 g13 gi14 g15 g16 g17 gi18 g19 g20 g21 g22 g23 g24 g25 g26 g27 g28 gi29 gi30 (nI mv) gi32 g33 g34 g35 g36 g37 g38 g39 gi40 g41 g42 gi43 g44 g45), (aIc cI g21 8 (upd a_g21_2 (Int32.toNatClampNeg (nI i2)) v13)), (aIc cI g22 8 G22), (aIc cI g23 8 G23), (aIc cI g44 8 G44)]) hP hD (fun hP hD => ?_)
          refine lv_iinc (v := (nI (i2 + 1))) (lv' := [(3, .int (nI (i2 + 1))), (0, .ref g), (1, .int p0), (2, .ref g44)]) hx hb dX8_hasRing_29 hl (k := 0) rfl (nI_1 _) (by decide) rfl (fun ls hl => ?_)
          refine lv_goto (tgt := 2) hx hb dX8_hasRing_32 (by decide) ?_
          exact ih2 (i2 + 1) (upd a_g21_2 (Int32.toNatClampNeg (nI i2)) v13) (by omega) (by omega) _ _ _ hP hD hS (lv_sub hl [0, 1, 2, 3] rfl)
        · skip
          have hc12 : (p0 >>> ((nI i2) &&& 31)) &&& 1 = 1 := bz_1 hw11 c12
          refine lv_iconst (v := 0) hx hb dX8_hasRing_21 (by decide) ?_
          refine lv_goto (tgt := 28) hx hb dX8_hasRing_22 (by decide) ?_
          refine va_iast hx hb hE.1 hP hD hS 1 0 rfl rfl (vp_in_nI (n := i2) (by omega) (by decide)) dX8_hasRing_28 (fun H locs hP hD hS => ?_)
          refine k_re (w := [(oX8 g gi0 (nI mn) g2 g3 g4 g5 g6 g7 g8 g9 g10 (nI ml) g12 g13 gi14 g15 g16 g17 gi18 g19 g20 g21 g22 g23 g24 g25 g26 g27 g28 gi29 gi30 (nI mv) gi32 g33 g34 g35 g36 g37 g38 g39 gi40 g41 g42 gi43 g44 g45), (aIc cI g21 8 (upd a_g21_2 (Int32.toNatClampNeg (nI i2)) 0)), (aIc cI g22 8 G22), (aIc cI g23 8 G23), (aIc cI g44 8 G44)]) hP hD (fun hP hD => ?_)
          refine lv_iinc (v := (nI (i2 + 1))) (lv' := [(3, .int (nI (i2 + 1))), (0, .ref g), (1, .int p0), (2, .ref g44)]) hx hb dX8_hasRing_29 hl (k := 0) rfl (nI_1 _) (by decide) rfl (fun ls hl => ?_)
          refine lv_goto (tgt := 2) hx hb dX8_hasRing_32 (by decide) ?_
          exact ih2 (i2 + 1) (upd a_g21_2 (Int32.toNatClampNeg (nI i2)) 0) (by omega) (by omega) _ _ _ hP hD hS (lv_sub hl [0, 1, 2, 3] rfl)
  exact J2 _ 0 G21 (by omega) (Nat.lt_succ_self _) _ _ _ hP hD hS (lv_sub hl [0, 1, 2, 3] rfl)
theorem dX8_ringless_0 : decode cX8_ringless 0 = .ok (.aload_n 0, 1) := by decide +kernel
theorem dX8_ringless_1 : decode cX8_ringless 1 = .ok (.iconst 0, 1) := by decide +kernel
theorem dX8_ringless_2 : decode cX8_ringless 2 = .ok (.putfield 116, 3) := by decide +kernel
theorem dX8_ringless_5 : decode cX8_ringless 5 = .ok (.aload_n 0, 1) := by decide +kernel
theorem dX8_ringless_6 : decode cX8_ringless 6 = .ok (.iload_n 1, 1) := by decide +kernel
theorem dX8_ringless_7 : decode cX8_ringless 7 = .ok (.invokevirtual 252, 3) := by decide +kernel
theorem dX8_ringless_10 : decode cX8_ringless 10 = .ok (.ifCond .ne 5, 3) := by decide +kernel
theorem dX8_ringless_13 : decode cX8_ringless 13 = .ok (.iconst (-1), 1) := by decide +kernel
theorem dX8_ringless_14 : decode cX8_ringless 14 = .ok (.ireturn, 1) := by decide +kernel
theorem dX8_ringless_15 : decode cX8_ringless 15 = .ok (.aload_n 0, 1) := by decide +kernel
theorem dX8_ringless_16 : decode cX8_ringless 16 = .ok (.iload_n 1, 1) := by decide +kernel
theorem dX8_ringless_17 : decode cX8_ringless 17 = .ok (.aload_n 0, 1) := by decide +kernel
theorem dX8_ringless_18 : decode cX8_ringless 18 = .ok (.invokevirtual 220, 3) := by decide +kernel
theorem dX8_ringless_21 : decode cX8_ringless 21 = .ok (.invokevirtual 224, 3) := by decide +kernel
theorem dX8_ringless_24 : decode cX8_ringless 24 = .ok (.iconst 0, 1) := by decide +kernel
theorem dX8_ringless_25 : decode cX8_ringless 25 = .ok (.istore_n 3, 1) := by decide +kernel
theorem dX8_ringless_26 : decode cX8_ringless 26 = .ok (.iload_n 3, 1) := by decide +kernel
theorem dX8_ringless_27 : decode cX8_ringless 27 = .ok (.bipush 8, 2) := by decide +kernel
theorem dX8_ringless_29 : decode cX8_ringless 29 = .ok (.if_icmp .ge 21, 3) := by decide +kernel
theorem dX8_ringless_32 : decode cX8_ringless 32 = .ok (.aload_n 0, 1) := by decide +kernel
theorem dX8_ringless_33 : decode cX8_ringless 33 = .ok (.getfield 110, 3) := by decide +kernel
theorem dX8_ringless_36 : decode cX8_ringless 36 = .ok (.iload_n 3, 1) := by decide +kernel
theorem dX8_ringless_37 : decode cX8_ringless 37 = .ok (.aload_n 0, 1) := by decide +kernel
theorem dX8_ringless_38 : decode cX8_ringless 38 = .ok (.getfield 58, 3) := by decide +kernel
theorem dX8_ringless_41 : decode cX8_ringless 41 = .ok (.iload_n 3, 1) := by decide +kernel
theorem dX8_ringless_42 : decode cX8_ringless 42 = .ok (.iaload, 1) := by decide +kernel
theorem dX8_ringless_43 : decode cX8_ringless 43 = .ok (.iastore, 1) := by decide +kernel
theorem dX8_ringless_44 : decode cX8_ringless 44 = .ok (.iinc 3 1, 3) := by decide +kernel
theorem dX8_ringless_47 : decode cX8_ringless 47 = .ok (.goto (-21), 3) := by decide +kernel
theorem dX8_ringless_50 : decode cX8_ringless 50 = .ok (.iconst (-1), 1) := by decide +kernel
theorem dX8_ringless_51 : decode cX8_ringless 51 = .ok (.istore_n 3, 1) := by decide +kernel
theorem dX8_ringless_52 : decode cX8_ringless 52 = .ok (.iconst 0, 1) := by decide +kernel
theorem dX8_ringless_53 : decode cX8_ringless 53 = .ok (.istore 4, 2) := by decide +kernel
theorem dX8_ringless_55 : decode cX8_ringless 55 = .ok (.iload 4, 2) := by decide +kernel
theorem dX8_ringless_57 : decode cX8_ringless 57 = .ok (.sipush 256, 3) := by decide +kernel
theorem dX8_ringless_60 : decode cX8_ringless 60 = .ok (.if_icmp .ge 42, 3) := by decide +kernel
theorem dX8_ringless_63 : decode cX8_ringless 63 = .ok (.iload_n 3, 1) := by decide +kernel
theorem dX8_ringless_64 : decode cX8_ringless 64 = .ok (.iconst (-1), 1) := by decide +kernel
theorem dX8_ringless_65 : decode cX8_ringless 65 = .ok (.if_icmp .eq 15, 3) := by decide +kernel
theorem dX8_ringless_68 : decode cX8_ringless 68 = .ok (.iload 4, 2) := by decide +kernel
theorem dX8_ringless_70 : decode cX8_ringless 70 = .ok (.invokestatic 249, 3) := by decide +kernel
theorem dX8_ringless_73 : decode cX8_ringless 73 = .ok (.iload_n 3, 1) := by decide +kernel
theorem dX8_ringless_74 : decode cX8_ringless 74 = .ok (.invokestatic 249, 3) := by decide +kernel
theorem dX8_ringless_77 : decode cX8_ringless 77 = .ok (.if_icmp .ge 19, 3) := by decide +kernel
theorem dX8_ringless_80 : decode cX8_ringless 80 = .ok (.aload_n 0, 1) := by decide +kernel
theorem dX8_ringless_81 : decode cX8_ringless 81 = .ok (.iload 4, 2) := by decide +kernel
theorem dX8_ringless_83 : decode cX8_ringless 83 = .ok (.aload_n 0, 1) := by decide +kernel
theorem dX8_ringless_84 : decode cX8_ringless 84 = .ok (.getfield 110, 3) := by decide +kernel
theorem dX8_ringless_87 : decode cX8_ringless 87 = .ok (.invokevirtual 311, 3) := by decide +kernel
theorem dX8_ringless_90 : decode cX8_ringless 90 = .ok (.ifCond .ne 6, 3) := by decide +kernel
theorem dX8_ringless_93 : decode cX8_ringless 93 = .ok (.iload 4, 2) := by decide +kernel
theorem dX8_ringless_95 : decode cX8_ringless 95 = .ok (.istore_n 3, 1) := by decide +kernel
theorem dX8_ringless_96 : decode cX8_ringless 96 = .ok (.iinc 4 1, 3) := by decide +kernel
theorem dX8_ringless_99 : decode cX8_ringless 99 = .ok (.goto (-44), 3) := by decide +kernel
theorem dX8_ringless_102 : decode cX8_ringless 102 = .ok (.iload_n 2, 1) := by decide +kernel
theorem dX8_ringless_103 : decode cX8_ringless 103 = .ok (.ifCond .eq 7, 3) := by decide +kernel
theorem dX8_ringless_106 : decode cX8_ringless 106 = .ok (.iload_n 3, 1) := by decide +kernel
theorem dX8_ringless_107 : decode cX8_ringless 107 = .ok (.goto 7, 3) := by decide +kernel
theorem dX8_ringless_110 : decode cX8_ringless 110 = .ok (.iload_n 3, 1) := by decide +kernel
theorem dX8_ringless_111 : decode cX8_ringless 111 = .ok (.invokestatic 249, 3) := by decide +kernel
theorem dX8_ringless_114 : decode cX8_ringless 114 = .ok (.ireturn, 1) := by decide +kernel
theorem gX8_ringless_X8_all : GoodIn wtX8_ringless (wsV RX8 220 RX8 yX8_all wtX8_all) := tb_good (tb_v0 wd_413 wd_414 wd_415 wd_5 wd_416)
theorem gX8_ringless_X8_bits : GoodIn wtX8_ringless (va_wsS RX8 249 yX8_bits wtX8_bits) := tb_good (tb_s0 wd_570 wd_571 wd_5 wd_572)
theorem gX8_ringless_X8_hasRing : GoodIn wtX8_ringless (wsV RX8 311 RX8 yX8_hasRing wtX8_hasRing) := tb_good (tb_v0 wd_901 wd_902 wd_903 wd_5 wd_904)
theorem gX8_ringless_X8_isLoss : GoodIn wtX8_ringless (wsV RX8 252 RX8 yX8_isLoss wtX8_isLoss) := tb_good (tb_v0 wd_554 wd_555 wd_556 wd_5 wd_557)
theorem gX8_ringless_X8_settlesTo : GoodIn wtX8_ringless (wsV RX8 224 RX8 yX8_settlesTo wtX8_settlesTo) := tb_good (tb_v0 wd_482 wd_483 wd_484 wd_5 wd_485)
set_option maxHeartbeats 4000000 in
set_option maxRecDepth 100000 in
theorem m_X8_ringless (l : Launch) (D : va_G) (cI cJ : ClassId) (sz : Nat) (g g2 g3 g4 g5 g6 g7 g8 g9 g10 g12 g13 g15 g16 g17 g19 g20 g21 g22 g23 g24 g25 g26 g27 g28 g33 g34 g35 g36 g37 g38 g39 g41 g42 g44 g45 mn ml mv tt : Nat) (gi0 gi14 gi18 gi29 gi30 gi40 gi43 p0 p1 : Int32) (G2 G3 G4 G5 G6 G7 G8 G10 G12 G13 G19 G20 G21 G22 G23 G24 G25 G26 G27 G28 G33 G34 G35 G36 : Nat → Int32) (G37 : Nat → Int64) (G44 : Nat → Int32) (li0 wo0 de0 ag0 : Nat → Nat) (hmn : mn ≤ 8) (hmL : ml ≤ 10) (hit : ∀ k, k < 10 → ∃ j : Nat, j < 8 ∧ G12 k = nI j) (hsu : ∀ k, k < 64 → ∃ j : Nat, j ≤ 1000001 ∧ G10 k = nI j) (hliv : nv G2 li0) (hlib : ∀ k, k < 8 → li0 k ≤ 1000000) (hwov : nv G5 wo0) (hwob : ∀ k, k < 8 → wo0 k ≤ 9000000) (hdev : nv G4 de0) (hdeb : ∀ k, k < 8 → de0 k ≤ 99999) (hagv : nv G3 ag0) (hagb : ∀ k, k < 8 → ag0 k ≤ 9000000) (hamt : ∀ k, k < 10 → ∃ j : Nat, j < 1000001 ∧ G13 k = nI j) (hLE : LE G19) (hLO : LO G20) (hLW : LW G25) (hSH : SH G27 tt) (htt : tt ≤ 1000000) (hmv : mv ≤ 8) : Met l yX8_ringless wtX8_ringless { frames := 8, cells := 0, slots := 0, locals := 189 } (cPc D cI cJ [.ref g, .int p0, .int p1] sz [(oX8 g gi0 (nI mn) g2 g3 g4 g5 g6 g7 g8 g9 g10 (nI ml) g12 g13 gi14 g15 g16 g17 gi18 g19 g20 g21 g22 g23 g24 g25 g26 g27 g28 gi29 gi30 (nI mv) (nI tt) g33 g34 g35 g36 g37 g38 g39 gi40 g41 g42 gi43 g44 g45), (aIc cI g2 8 G2), (aIc cI g3 8 G3), (aIc cI g4 8 G4), (aIc cI g5 8 G5), (aIc cI g6 8 G6), (aIc cI g7 8 G7), (aIc cI g8 8 G8), (aIc cI g10 64 G10), (aIc cI g12 10 G12), (aIc cI g13 10 G13), (aIc cI g19 8 G19), (aIc cI g20 8 G20), (aIc cI g21 8 G21), (aIc cI g22 8 G22), (aIc cI g23 8 G23), (aIc cI g24 8 G24), (aIc cI g25 8 G25), (aIc cI g26 8 G26), (aIc cI g27 8 G27), (aIc cI g28 8 G28), (aIc cI g33 8 G33), (aIc cI g34 8 G34), (aIc cI g35 8 G35), (aIc cI g36 8 G36), (aJc cJ g37 8 G37), (aIc cI g44 8 G44)]) (cQi D (fun r u => ∃ (G19p G20p G21p G22p G23p G24p G25p G26p G27p G28p G33p G34p G35p G36p : Nat → Int32) (G37p : Nat → Int64) (gi29p gi30p gi18p : Int32) (mvp ttp : Nat) (gi0p : Int32) (G44p : Nat → Int32), (LE G19p) ∧ (LO G20p) ∧ (LW G25p) ∧ (SH G27p ttp) ∧ (ttp ≤ 1000000) ∧ (mvp ≤ 8) ∧ u = [(oX8 g gi0p (nI mn) g2 g3 g4 g5 g6 g7 g8 g9 g10 (nI ml) g12 g13 gi14 g15 g16 g17 gi18p g19 g20 g21 g22 g23 g24 g25 g26 g27 g28 gi29p gi30p (nI mvp) (nI ttp) g33 g34 g35 g36 g37 g38 g39 gi40 g41 g42 gi43 g44 g45), (aIc cI g2 8 G2), (aIc cI g3 8 G3), (aIc cI g4 8 G4), (aIc cI g5 8 G5), (aIc cI g6 8 G6), (aIc cI g7 8 G7), (aIc cI g8 8 G8), (aIc cI g10 64 G10), (aIc cI g12 10 G12), (aIc cI g13 10 G13), (aIc cI g19 8 G19p), (aIc cI g20 8 G20p), (aIc cI g21 8 G21p), (aIc cI g22 8 G22p), (aIc cI g23 8 G23p), (aIc cI g24 8 G24p), (aIc cI g25 8 G25p), (aIc cI g26 8 G26p), (aIc cI g27 8 G27p), (aIc cI g28 8 G28p), (aIc cI g33 8 G33p), (aIc cI g34 8 G34p), (aIc cI g35 8 G35p), (aIc cI g36 8 G36p), (aJc cJ g37 8 G37p), (aIc cI g44 8 G44p)]) (va_A [(oX8 g gi0 (nI mn) g2 g3 g4 g5 g6 g7 g8 g9 g10 (nI ml) g12 g13 gi14 g15 g16 g17 gi18 g19 g20 g21 g22 g23 g24 g25 g26 g27 g28 gi29 gi30 (nI mv) (nI tt) g33 g34 g35 g36 g37 g38 g39 gi40 g41 g42 gi43 g44 g45), (aIc cI g2 8 G2), (aIc cI g3 8 G3), (aIc cI g4 8 G4), (aIc cI g5 8 G5), (aIc cI g6 8 G6), (aIc cI g7 8 G7), (aIc cI g8 8 G8), (aIc cI g10 64 G10), (aIc cI g12 10 G12), (aIc cI g13 10 G13), (aIc cI g19 8 G19), (aIc cI g20 8 G20), (aIc cI g21 8 G21), (aIc cI g22 8 G22), (aIc cI g23 8 G23), (aIc cI g24 8 G24), (aIc cI g25 8 G25), (aIc cI g26 8 G26), (aIc cI g27 8 G27), (aIc cI g28 8 G28), (aIc cI g33 8 G33), (aIc cI g34 8 G34), (aIc cI g35 8 G35), (aIc cI g36 8 G36), (aJc cJ g37 8 G37), (aIc cI g44 8 G44)] sz)) 0 0 (va_A [(oX8 g gi0 (nI mn) g2 g3 g4 g5 g6 g7 g8 g9 g10 (nI ml) g12 g13 gi14 g15 g16 g17 gi18 g19 g20 g21 g22 g23 g24 g25 g26 g27 g28 gi29 gi30 (nI mv) (nI tt) g33 g34 g35 g36 g37 g38 g39 gi40 g41 g42 gi43 g44 g45), (aIc cI g2 8 G2), (aIc cI g3 8 G3), (aIc cI g4 8 G4), (aIc cI g5 8 G5), (aIc cI g6 8 G6), (aIc cI g7 8 G7), (aIc cI g8 8 G8), (aIc cI g10 64 G10), (aIc cI g12 10 G12), (aIc cI g13 10 G13), (aIc cI g19 8 G19), (aIc cI g20 8 G20), (aIc cI g21 8 G21), (aIc cI g22 8 G22), (aIc cI g23 8 G23), (aIc cI g24 8 G24), (aIc cI g25 8 G25), (aIc cI g26 8 G26), (aIc cI g27 8 G27), (aIc cI g28 8 G28), (aIc cI g33 8 G33), (aIc cI g34 8 G34), (aIc cI g35 8 G35), (aIc cI g36 8 G36), (aJc cJ g37 8 G37), (aIc cI g44 8 G44)] sz) := by
  refine k_ofW (Qc := cQi D (fun r u => ∃ (G19p G20p G21p G22p G23p G24p G25p G26p G27p G28p G33p G34p G35p G36p : Nat → Int32) (G37p : Nat → Int64) (gi29p gi30p gi18p : Int32) (mvp ttp : Nat) (gi0p : Int32) (G44p : Nat → Int32), (LE G19p) ∧ (LO G20p) ∧ (LW G25p) ∧ (SH G27p ttp) ∧ (ttp ≤ 1000000) ∧ (mvp ≤ 8) ∧ u = [(oX8 g gi0p (nI mn) g2 g3 g4 g5 g6 g7 g8 g9 g10 (nI ml) g12 g13 gi14 g15 g16 g17 gi18p g19 g20 g21 g22 g23 g24 g25 g26 g27 g28 gi29p gi30p (nI mvp) (nI ttp) g33 g34 g35 g36 g37 g38 g39 gi40 g41 g42 gi43 g44 g45), (aIc cI g2 8 G2), (aIc cI g3 8 G3), (aIc cI g4 8 G4), (aIc cI g5 8 G5), (aIc cI g6 8 G6), (aIc cI g7 8 G7), (aIc cI g8 8 G8), (aIc cI g10 64 G10), (aIc cI g12 10 G12), (aIc cI g13 10 G13), (aIc cI g19 8 G19p), (aIc cI g20 8 G20p), (aIc cI g21 8 G21p), (aIc cI g22 8 G22p), (aIc cI g23 8 G23p), (aIc cI g24 8 G24p), (aIc cI g25 8 G25p), (aIc cI g26 8 G26p), (aIc cI g27 8 G27p), (aIc cI g28 8 G28p), (aIc cI g33 8 G33p), (aIc cI g34 8 G34p), (aIc cI g35 8 G35p), (aIc cI g36 8 G36p), (aJc cJ g37 8 G37p), (aIc cI g44 8 G44p)])) (by decide) rfl (Nat.le_of_ble_eq_true rfl) ?_
  intro p e s m below meth c A ls hx hb hr hml hts hown hlk hnm hsz hE hP hD hS hA hl
  have hown : s.vm.findClass RX8 = some m.cls := hown
  have hiX8 : ∀ w ∈ u_ws RX8 TX8 46, w ∈ wtX8_ringless := fun w h => List.mem_cons_of_mem _ (iuX8 w h)
  have hl : lv_has ls 5 [(0, .ref g), (1, .int p0), (2, .int p1)] := hl
  refine lv_aload_n hx hb dX8_ringless_0 rfl (lv_at hl 0 rfl) ?_
  refine lv_iconst (v := 0) hx hb dX8_ringless_1 (by decide) ?_
  refine va_put (D := D) (ci := 8) (v := .int 0) (ty := .int) (C := RX8) (T := TX8) (N := 46) hx hb hts hiX8 tyX8 tyX8_ok nmX8 hown hE.1 hP hD hS 0 rfl rfl 0 (by decide) (hts _ (List.mem_cons_of_mem _ wd_171)) (fun _ h9 => h9) rfl (by decide +kernel) rfl rfl (Nat.le_of_ble_eq_true rfl) dX8_ringless_2 (fun H locs hP hD hS => ?_)
  refine k_re (w := [(oX8 g 0 (nI mn) g2 g3 g4 g5 g6 g7 g8 g9 g10 (nI ml) g12 g13 gi14 g15 g16 g17 gi18 g19 g20 g21 g22 g23 g24 g25 g26 g27 g28 gi29 gi30 (nI mv) (nI tt) g33 g34 g35 g36 g37 g38 g39 gi40 g41 g42 gi43 g44 g45), (aIc cI g2 8 G2), (aIc cI g3 8 G3), (aIc cI g4 8 G4), (aIc cI g5 8 G5), (aIc cI g6 8 G6), (aIc cI g7 8 G7), (aIc cI g8 8 G8), (aIc cI g10 64 G10), (aIc cI g12 10 G12), (aIc cI g13 10 G13), (aIc cI g19 8 G19), (aIc cI g20 8 G20), (aIc cI g21 8 G21), (aIc cI g22 8 G22), (aIc cI g23 8 G23), (aIc cI g24 8 G24), (aIc cI g25 8 G25), (aIc cI g26 8 G26), (aIc cI g27 8 G27), (aIc cI g28 8 G28), (aIc cI g33 8 G33), (aIc cI g34 8 G34), (aIc cI g35 8 G35), (aIc cI g36 8 G36), (aJc cJ g37 8 G37), (aIc cI g44 8 G44)]) hP hD (fun hP hD => ?_)
  refine lv_aload_n hx hb dX8_ringless_5 rfl (lv_at hl 0 rfl) ?_
  refine lv_iload_n hx hb dX8_ringless_6 rfl (lv_at hl 1 rfl) ?_
  refine k_iS (va_runV (As := [.int p0]) (rest := []) ⟨hx, hb, hml, hown, hts⟩ (m_X8_isLoss l D cI cJ H.size g g2 g3 g4 g5 g6 g7 g8 g9 g10 g12 g13 g15 g16 g17 g19 g20 g21 g22 g23 g24 g25 g26 g27 g28 g33 g34 g35 g36 g37 g38 g39 g41 g42 g44 g45 mn ml mv 0 gi14 gi18 gi29 gi30 (nI tt) gi40 gi43 p0) (cwV 1 hts gX8_ringless_X8_isLoss rfl rfl rfl (by decide +kernel) ⟨Nat.le_of_ble_eq_true rfl, Nat.le_of_ble_eq_true rfl⟩) (k_preV hE hP hD [0] (by decide +kernel) rfl 0 rfl rfl) rfl rfl hl.1 rfl (lv_room (Nat.le_of_ble_eq_true rfl)) dX8_ringless_7 ⟨Nat.le_of_ble_eq_true rfl, Nat.le_of_ble_eq_true rfl⟩) hP hD hS hA [0] rfl (fun _ _ ⟨_, h9⟩ => h9) (fun r1 H locs hw2 hP hD hS => ?_)
  obtain ⟨hb3, -⟩ := hw2
  refine lv_if_ne (tgt := 15) hx hb dX8_ringless_10 (by decide) (fun c4 => ?_) (fun c4 => ?_)
  · skip
    have hc4 : 0 ≤ p0 ∧ p0 ≤ nI ml - 1 := bz_1 hb3 c4
    obtain ⟨lj, hlj, elj⟩ := wi_n (by omega) hc4
    rw [elj] at hl
    refine lv_aload_n hx hb dX8_ringless_15 rfl (lv_at hl 0 rfl) ?_
    refine lv_iload_n hx hb dX8_ringless_16 rfl (lv_at hl 1 rfl) ?_
    refine lv_aload_n hx hb dX8_ringless_17 rfl (lv_at hl 0 rfl) ?_
    refine k_iS (va_runV (As := []) (rest := [.int (nI lj), .ref g]) ⟨hx, hb, hml, hown, hts⟩ (m_X8_all l D cI cJ H.size g g2 g3 g4 g5 g6 g7 g8 g9 g10 g12 g13 g15 g16 g17 g19 g20 g21 g22 g23 g24 g25 g26 g27 g28 g33 g34 g35 g36 g37 g38 g39 g41 g42 g44 g45 mn ml mv 0 gi14 gi18 gi29 gi30 (nI tt) gi40 gi43 hmn) (cwV 0 hts gX8_ringless_X8_all rfl rfl rfl (by decide +kernel) ⟨Nat.le_of_ble_eq_true rfl, Nat.le_of_ble_eq_true rfl⟩) (k_preV hE hP hD [0] (by decide +kernel) rfl 0 rfl rfl) rfl rfl hl.1 rfl (lv_room (Nat.le_of_ble_eq_true rfl)) dX8_ringless_18 ⟨Nat.le_of_ble_eq_true rfl, Nat.le_of_ble_eq_true rfl⟩) hP hD hS hA [0] rfl (fun _ _ ⟨_, h9⟩ => h9) (fun r5 H locs hw6 hP hD hS => ?_)
    obtain ⟨rfl, -⟩ := hw6
    refine k_v (va_runV (As := [.int (nI lj), .int (nI (2 ^ mn - 1))]) (rest := []) ⟨hx, hb, hml, hown, hts⟩ (m_X8_settlesTo l D cI cJ H.size g g2 g3 g4 g5 g6 g7 g8 g9 g10 g12 g13 g15 g16 g17 g19 g20 g21 g22 g23 g24 g25 g26 g27 g28 g33 g34 g35 g36 g37 g38 g39 g41 g42 g44 g45 mn ml mv tt (lj + 1) 0 gi14 gi18 gi29 gi30 gi40 gi43 (nI lj) (nI (2 ^ mn - 1)) G2 G3 G4 G5 G6 G7 G8 G10 G12 G13 G19 G20 G21 G22 G23 G24 G25 G26 G27 G28 G33 G34 G35 G36 G37 li0 wo0 de0 ag0 (nI_pred lj).symm (by omega) hit hsu hliv hlib hwov hwob hdev hdeb hagv hagb hamt hLE hLO hLW hSH htt hmv) (cwV 2 hts gX8_ringless_X8_settlesTo rfl rfl rfl (by decide +kernel) ⟨Nat.le_of_ble_eq_true rfl, Nat.le_of_ble_eq_true rfl⟩) (k_preV hE hP hD [0, 1, 2, 3, 4, 5, 6, 7, 8, 9, 10, 11, 12, 13, 14, 15, 16, 17, 18, 19, 20, 21, 22, 23, 24, 25] (by decide +kernel) rfl 0 rfl rfl) rfl rfl hl.1 rfl (lv_room (Nat.le_of_ble_eq_true rfl)) dX8_ringless_21 ⟨Nat.le_of_ble_eq_true rfl, Nat.le_of_ble_eq_true rfl⟩) hP hD hS hA [0, 1, 2, 3, 4, 5, 6, 7, 8, 9, 10, 11, 12, 13, 14, 15, 16, 17, 18, 19, 20, 21, 22, 23, 24, 25] [26] rfl (wr := [(aIc cI g44 8 G44)]) rfl (by decide +kernel) (by decide +kernel) (fun u H locs hw7 hP hD hS => ?_)
    obtain ⟨z8, z9, z10, z11, z12, z13, z14, z15, z16, z17, z18, z19, z20, z21, z22, z23, z24, z25, z26, z27, hz28, hz29, hz30, hz31, hz32, hz33, hz34, rfl⟩ := hw7
    refine k_re (w := [(aIc cI g44 8 G44), (oX8 g 0 (nI mn) g2 g3 g4 g5 g6 g7 g8 g9 g10 (nI ml) g12 g13 gi14 g15 g16 g17 z25 g19 g20 g21 g22 g23 g24 g25 g26 g27 g28 z23 z24 (nI z26) (nI z27) g33 g34 g35 g36 g37 g38 g39 gi40 g41 g42 gi43 g44 g45), (aIc cI g2 8 G2), (aIc cI g3 8 G3), (aIc cI g4 8 G4), (aIc cI g5 8 G5), (aIc cI g6 8 G6), (aIc cI g7 8 G7), (aIc cI g8 8 G8), (aIc cI g10 64 G10), (aIc cI g12 10 G12), (aIc cI g13 10 G13), (aIc cI g19 8 z8), (aIc cI g20 8 z9), (aIc cI g21 8 z10), (aIc cI g22 8 z11), (aIc cI g23 8 z12), (aIc cI g24 8 z13), (aIc cI g25 8 z14), (aIc cI g26 8 z15), (aIc cI g27 8 z16), (aIc cI g28 8 z17), (aIc cI g33 8 z18), (aIc cI g34 8 z19), (aIc cI g35 8 z20), (aIc cI g36 8 z21), (aJc cJ g37 8 z22)]) hP hD (fun hP hD => ?_)
    refine lv_iconst (v := 0) hx hb dX8_ringless_24 (by decide) ?_
    refine lv_istore_n (lv' := [(3, .int 0), (0, .ref g), (1, .int (nI lj)), (2, .int p1)]) hx hb dX8_ringless_25 rfl hl (by decide) rfl (fun ls hl => ?_)
    have J26 : ∀ (zz : Nat) (i26 : Nat) (a_g44_26 : Nat → Int32), (i26 ≤ 8) → (8 - i26) < zz → ∀ (H : Heap) (locs : List Loc) (ls : Array Slot), va_P D vwCl [(aIc cI g44 8 a_g44_26), (oX8 g 0 (nI mn) g2 g3 g4 g5 g6 g7 g8 g9 g10 (nI ml) g12 g13 gi14 g15 g16 g17 z25 g19 g20 g21 g22 g23 g24 g25 g26 g27 g28 z23 z24 (nI z26) (nI z27) g33 g34 g35 g36 g37 g38 g39 gi40 g41 g42 gi43 g44 g45), (aIc cI g2 8 G2), (aIc cI g3 8 G3), (aIc cI g4 8 G4), (aIc cI g5 8 G5), (aIc cI g6 8 G6), (aIc cI g7 8 G7), (aIc cI g8 8 G8), (aIc cI g10 64 G10), (aIc cI g12 10 G12), (aIc cI g13 10 G13), (aIc cI g19 8 z8), (aIc cI g20 8 z9), (aIc cI g21 8 z10), (aIc cI g22 8 z11), (aIc cI g23 8 z12), (aIc cI g24 8 z13), (aIc cI g25 8 z14), (aIc cI g26 8 z15), (aIc cI g27 8 z16), (aIc cI g28 8 z17), (aIc cI g33 8 z18), (aIc cI g34 8 z19), (aIc cI g35 8 z20), (aIc cI g36 8 z21), (aJc cJ g37 8 z22)] H → va_D A [(aIc cI g44 8 a_g44_26), (oX8 g 0 (nI mn) g2 g3 g4 g5 g6 g7 g8 g9 g10 (nI ml) g12 g13 gi14 g15 g16 g17 z25 g19 g20 g21 g22 g23 g24 g25 g26 g27 g28 z23 z24 (nI z26) (nI z27) g33 g34 g35 g36 g37 g38 g39 gi40 g41 g42 gi43 g44 g45), (aIc cI g2 8 G2), (aIc cI g3 8 G3), (aIc cI g4 8 G4), (aIc cI g5 8 G5), (aIc cI g6 8 G6), (aIc cI g7 8 G7), (aIc cI g8 8 G8), (aIc cI g10 64 G10), (aIc cI g12 10 G12), (aIc cI g13 10 G13), (aIc cI g19 8 z8), (aIc cI g20 8 z9), (aIc cI g21 8 z10), (aIc cI g22 8 z11), (aIc cI g23 8 z12), (aIc cI g24 8 z13), (aIc cI g25 8 z14), (aIc cI g26 8 z15), (aIc cI g27 8 z16), (aIc cI g28 8 z17), (aIc cI g33 8 z18), (aIc cI g34 8 z19), (aIc cI g35 8 z20), (aIc cI g36 8 z21), (aJc cJ g37 8 z22)] → va_S A s.heap H locs → lv_has ls 5 [(3, .int (nI i26)), (0, .ref g), (1, .int (nI lj)), (2, .int p1)] → W p l e { frames := 8, cells := 0, slots := 0, locals := 189 } s m [.ref g, .int p0, .int p1].toArray below meth c H locs 0 0 (MQ below (cQi D (fun r u => ∃ (G19p G20p G21p G22p G23p G24p G25p G26p G27p G28p G33p G34p G35p G36p : Nat → Int32) (G37p : Nat → Int64) (gi29p gi30p gi18p : Int32) (mvp ttp : Nat) (gi0p : Int32) (G44p : Nat → Int32), (LE G19p) ∧ (LO G20p) ∧ (LW G25p) ∧ (SH G27p ttp) ∧ (ttp ≤ 1000000) ∧ (mvp ≤ 8) ∧ u = [(oX8 g gi0p (nI mn) g2 g3 g4 g5 g6 g7 g8 g9 g10 (nI ml) g12 g13 gi14 g15 g16 g17 gi18p g19 g20 g21 g22 g23 g24 g25 g26 g27 g28 gi29p gi30p (nI mvp) (nI ttp) g33 g34 g35 g36 g37 g38 g39 gi40 g41 g42 gi43 g44 g45), (aIc cI g2 8 G2), (aIc cI g3 8 G3), (aIc cI g4 8 G4), (aIc cI g5 8 G5), (aIc cI g6 8 G6), (aIc cI g7 8 G7), (aIc cI g8 8 G8), (aIc cI g10 64 G10), (aIc cI g12 10 G12), (aIc cI g13 10 G13), (aIc cI g19 8 G19p), (aIc cI g20 8 G20p), (aIc cI g21 8 G21p), (aIc cI g22 8 G22p), (aIc cI g23 8 G23p), (aIc cI g24 8 G24p), (aIc cI g25 8 G25p), (aIc cI g26 8 G26p), (aIc cI g27 8 G27p), (aIc cI g28 8 G28p), (aIc cI g33 8 G33p), (aIc cI g34 8 G34p), (aIc cI g35 8 G35p), (aIc cI g36 8 G36p), (aJc cJ g37 8 G37p), (aIc cI g44 8 G44p)]) A) [.ref g, .int p0, .int p1].toArray s 0 0 A) (F0 m 26 ls []) := by
      intro zz
      induction zz with
      | zero => intro i26 a_g44_26 _; exact fun h => absurd h (Nat.not_lt_zero _)
      | succ zz ih26 =>
        intro i26 a_g44_26 hc3_26 hmu26 H locs ls hP hD hS hl
        refine lv_iload_n hx hb dX8_ringless_26 rfl (lv_at hl 0 rfl) ?_
        refine lv_bipush (v := 8) hx hb dX8_ringless_27 (by decide) ?_
        refine lv_icmp_ge (tgt := 50) hx hb dX8_ringless_29 (by decide) (fun c35 => ?_) (fun c35 => ?_)
        · skip
          have nc35 : 8 ≤ i26 := (nI_leI (a := 8) (b := i26) (by omega) (by omega)).mp c35
          refine lv_iconst (v := (-1)) hx hb dX8_ringless_50 (by decide) ?_
          refine lv_istore_n (lv' := [(3, .int (-1)), (0, .ref g), (1, .int (nI lj)), (2, .int p1)]) hx hb dX8_ringless_51 rfl hl (by decide) rfl (fun ls hl => ?_)
          refine lv_iconst (v := 0) hx hb dX8_ringless_52 (by decide) ?_
          refine lv_istore (lv' := [(4, .int 0), (3, .int (-1)), (0, .ref g), (1, .int (nI lj)), (2, .int p1)]) hx hb dX8_ringless_53 hl (by decide) rfl (fun ls hl => ?_)
          have J55 : ∀ (zz : Nat) (i55 : Nat) (h3_55 : Int32) (a_g21_55 a_g22_55 a_g23_55 : Nat → Int32), (i55 ≤ 256) → (256 - i55) < zz → ∀ (H : Heap) (locs : List Loc) (ls : Array Slot), va_P D vwCl [(aIc cI g44 8 a_g44_26), (oX8 g 0 (nI mn) g2 g3 g4 g5 g6 g7 g8 g9 g10 (nI ml) g12 g13 gi14 g15 g16 g17 z25 g19 g20 g21 g22 g23 g24 g25 g26 g27 g28 z23 z24 (nI z26) (nI z27) g33 g34 g35 g36 g37 g38 g39 gi40 g41 g42 gi43 g44 g45), (aIc cI g2 8 G2), (aIc cI g3 8 G3), (aIc cI g4 8 G4), (aIc cI g5 8 G5), (aIc cI g6 8 G6), (aIc cI g7 8 G7), (aIc cI g8 8 G8), (aIc cI g10 64 G10), (aIc cI g12 10 G12), (aIc cI g13 10 G13), (aIc cI g19 8 z8), (aIc cI g20 8 z9), (aIc cI g21 8 a_g21_55), (aIc cI g22 8 a_g22_55), (aIc cI g23 8 a_g23_55), (aIc cI g24 8 z13), (aIc cI g25 8 z14), (aIc cI g26 8 z15), (aIc cI g27 8 z16), (aIc cI g28 8 z17), (aIc cI g33 8 z18), (aIc cI g34 8 z19), (aIc cI g35 8 z20), (aIc cI g36 8 z21), (aJc cJ g37 8 z22)] H → va_D A [(aIc cI g44 8 a_g44_26), (oX8 g 0 (nI mn) g2 g3 g4 g5 g6 g7 g8 g9 g10 (nI ml) g12 g13 gi14 g15 g16 g17 z25 g19 g20 g21 g22 g23 g24 g25 g26 g27 g28 z23 z24 (nI z26) (nI z27) g33 g34 g35 g36 g37 g38 g39 gi40 g41 g42 gi43 g44 g45), (aIc cI g2 8 G2), (aIc cI g3 8 G3), (aIc cI g4 8 G4), (aIc cI g5 8 G5), (aIc cI g6 8 G6), (aIc cI g7 8 G7), (aIc cI g8 8 G8), (aIc cI g10 64 G10), (aIc cI g12 10 G12), (aIc cI g13 10 G13), (aIc cI g19 8 z8), (aIc cI g20 8 z9), (aIc cI g21 8 a_g21_55), (aIc cI g22 8 a_g22_55), (aIc cI g23 8 a_g23_55), (aIc cI g24 8 z13), (aIc cI g25 8 z14), (aIc cI g26 8 z15), (aIc cI g27 8 z16), (aIc cI g28 8 z17), (aIc cI g33 8 z18), (aIc cI g34 8 z19), (aIc cI g35 8 z20), (aIc cI g36 8 z21), (aJc cJ g37 8 z22)] → va_S A s.heap H locs → lv_has ls 5 [(4, .int (nI i55)), (3, .int h3_55), (0, .ref g), (1, .int (nI lj)), (2, .int p1)] → W p l e { frames := 8, cells := 0, slots := 0, locals := 189 } s m [.ref g, .int p0, .int p1].toArray below meth c H locs 0 0 (MQ below (cQi D (fun r u => ∃ (G19p G20p G21p G22p G23p G24p G25p G26p G27p G28p G33p G34p G35p G36p : Nat → Int32) (G37p : Nat → Int64) (gi29p gi30p gi18p : Int32) (mvp ttp : Nat) (gi0p : Int32) (G44p : Nat → Int32), (LE G19p) ∧ (LO G20p) ∧ (LW G25p) ∧ (SH G27p ttp) ∧ (ttp ≤ 1000000) ∧ (mvp ≤ 8) ∧ u = [(oX8 g gi0p (nI mn) g2 g3 g4 g5 g6 g7 g8 g9 g10 (nI ml) g12 g13 gi14 g15 g16 g17 gi18p g19 g20 g21 g22 g23 g24 g25 g26 g27 g28 gi29p gi30p (nI mvp) (nI ttp) g33 g34 g35 g36 g37 g38 g39 gi40 g41 g42 gi43 g44 g45), (aIc cI g2 8 G2), (aIc cI g3 8 G3), (aIc cI g4 8 G4), (aIc cI g5 8 G5), (aIc cI g6 8 G6), (aIc cI g7 8 G7), (aIc cI g8 8 G8), (aIc cI g10 64 G10), (aIc cI g12 10 G12), (aIc cI g13 10 G13), (aIc cI g19 8 G19p), (aIc cI g20 8 G20p), (aIc cI g21 8 G21p), (aIc cI g22 8 G22p), (aIc cI g23 8 G23p), (aIc cI g24 8 G24p), (aIc cI g25 8 G25p), (aIc cI g26 8 G26p), (aIc cI g27 8 G27p), (aIc cI g28 8 G28p), (aIc cI g33 8 G33p), (aIc cI g34 8 G34p), (aIc cI g35 8 G35p), (aIc cI g36 8 G36p), (aJc cJ g37 8 G37p), (aIc cI g44 8 G44p)]) A) [.ref g, .int p0, .int p1].toArray s 0 0 A) (F0 m 55 ls []) := by
            intro zz
            induction zz with
            | zero => intro i55 h3_55 a_g21_55 a_g22_55 a_g23_55 _; exact fun h => absurd h (Nat.not_lt_zero _)
            | succ zz ih55 =>
              intro i55 h3_55 a_g21_55 a_g22_55 a_g23_55 hc4_55 hmu55 H locs ls hP hD hS hl
              refine lv_iload hx hb dX8_ringless_55 (lv_at hl 0 rfl) ?_
              refine lv_sipush (v := 256) hx hb dX8_ringless_57 (by decide) ?_
              refine lv_icmp_ge (tgt := 102) hx hb dX8_ringless_60 (by decide) (fun c36 => ?_) (fun c36 => ?_)
              · skip
                have nc36 : 256 ≤ i55 := (nI_leI (a := 256) (b := i55) (by omega) (by omega)).mp c36
                refine lv_iload_n hx hb dX8_ringless_102 rfl (lv_at hl 4 rfl) ?_
                refine lv_if_eq (tgt := 110) hx hb dX8_ringless_103 (by decide) (fun c37 => ?_) (fun c37 => ?_)
                · skip
                  refine lv_iload_n hx hb dX8_ringless_110 rfl (lv_at hl 1 rfl) ?_
                  refine k_iS (va_runS (As := [.int h3_55]) (rest := []) ⟨hx, hb, hml, hown, hts⟩ (m_X8_bits l D cI cJ H.size h3_55) (va_cwS 1 hts gX8_ringless_X8_bits rfl rfl rfl (by decide +kernel) ⟨Nat.le_of_ble_eq_true rfl, Nat.le_of_ble_eq_true rfl⟩) (k_pre hE hP hD [] (by decide +kernel) rfl) rfl rfl hl.1 rfl (lv_room (Nat.le_of_ble_eq_true rfl)) dX8_ringless_111 ⟨Nat.le_of_ble_eq_true rfl, Nat.le_of_ble_eq_true rfl⟩) hP hD hS hA [] rfl (fun _ _ ⟨_, _, _, h9⟩ => h9) (fun r38 H locs hw39 hP hD hS => ?_)
                  obtain ⟨z40, hz41, rfl, -⟩ := hw39
                  refine k_iret (u := [(oX8 g 0 (nI mn) g2 g3 g4 g5 g6 g7 g8 g9 g10 (nI ml) g12 g13 gi14 g15 g16 g17 z25 g19 g20 g21 g22 g23 g24 g25 g26 g27 g28 z23 z24 (nI z26) (nI z27) g33 g34 g35 g36 g37 g38 g39 gi40 g41 g42 gi43 g44 g45), (aIc cI g2 8 G2), (aIc cI g3 8 G3), (aIc cI g4 8 G4), (aIc cI g5 8 G5), (aIc cI g6 8 G6), (aIc cI g7 8 G7), (aIc cI g8 8 G8), (aIc cI g10 64 G10), (aIc cI g12 10 G12), (aIc cI g13 10 G13), (aIc cI g19 8 z8), (aIc cI g20 8 z9), (aIc cI g21 8 a_g21_55), (aIc cI g22 8 a_g22_55), (aIc cI g23 8 a_g23_55), (aIc cI g24 8 z13), (aIc cI g25 8 z14), (aIc cI g26 8 z15), (aIc cI g27 8 z16), (aIc cI g28 8 z17), (aIc cI g33 8 z18), (aIc cI g34 8 z19), (aIc cI g35 8 z20), (aIc cI g36 8 z21), (aJc cJ g37 8 z22), (aIc cI g44 8 a_g44_26)]) hx hb hr hlk (k_sub hP [1, 2, 3, 4, 5, 6, 7, 8, 9, 10, 11, 12, 13, 14, 15, 16, 17, 18, 19, 20, 21, 22, 23, 24, 25, 26, 0] rfl) (hD.sub [1, 2, 3, 4, 5, 6, 7, 8, 9, 10, 11, 12, 13, 14, 15, 16, 17, 18, 19, 20, 21, 22, 23, 24, 25, 26, 0] (by decide +kernel) rfl) hS dX8_ringless_114 ?_
                  exact ⟨z8, z9, a_g21_55, a_g22_55, a_g23_55, z13, z14, z15, z16, z17, z18, z19, z20, z21, z22, z23, z24, z25, z26, z27, 0, a_g44_26, hz28, hz29, hz30, hz31, hz32, hz33, rfl⟩
                · skip
                  refine lv_iload_n hx hb dX8_ringless_106 rfl (lv_at hl 1 rfl) ?_
                  refine lv_goto (tgt := 114) hx hb dX8_ringless_107 (by decide) ?_
                  refine k_iret (u := [(oX8 g 0 (nI mn) g2 g3 g4 g5 g6 g7 g8 g9 g10 (nI ml) g12 g13 gi14 g15 g16 g17 z25 g19 g20 g21 g22 g23 g24 g25 g26 g27 g28 z23 z24 (nI z26) (nI z27) g33 g34 g35 g36 g37 g38 g39 gi40 g41 g42 gi43 g44 g45), (aIc cI g2 8 G2), (aIc cI g3 8 G3), (aIc cI g4 8 G4), (aIc cI g5 8 G5), (aIc cI g6 8 G6), (aIc cI g7 8 G7), (aIc cI g8 8 G8), (aIc cI g10 64 G10), (aIc cI g12 10 G12), (aIc cI g13 10 G13), (aIc cI g19 8 z8), (aIc cI g20 8 z9), (aIc cI g21 8 a_g21_55), (aIc cI g22 8 a_g22_55), (aIc cI g23 8 a_g23_55), (aIc cI g24 8 z13), (aIc cI g25 8 z14), (aIc cI g26 8 z15), (aIc cI g27 8 z16), (aIc cI g28 8 z17), (aIc cI g33 8 z18), (aIc cI g34 8 z19), (aIc cI g35 8 z20), (aIc cI g36 8 z21), (aJc cJ g37 8 z22), (aIc cI g44 8 a_g44_26)]) hx hb hr hlk (k_sub hP [1, 2, 3, 4, 5, 6, 7, 8, 9, 10, 11, 12, 13, 14, 15, 16, 17, 18, 19, 20, 21, 22, 23, 24, 25, 26, 0] rfl) (hD.sub [1, 2, 3, 4, 5, 6, 7, 8, 9, 10, 11, 12, 13, 14, 15, 16, 17, 18, 19, 20, 21, 22, 23, 24, 25, 26, 0] (by decide +kernel) rfl) hS dX8_ringless_114 ?_
                  exact ⟨z8, z9, a_g21_55, a_g22_55, a_g23_55, z13, z14, z15, z16, z17, z18, z19, z20, z21, z22, z23, z24, z25, z26, z27, 0, a_g44_26, hz28, hz29, hz30, hz31, hz32, hz33, rfl⟩
              · skip
                have nc36 : ¬ 256 ≤ i55 := fun q9 => c36 ((nI_leI (a := 256) (b := i55) (by omega) (by omega)).mpr q9)
                refine lv_iload_n hx hb dX8_ringless_63 rfl (lv_at hl 1 rfl) ?_
                refine lv_iconst (v := (-1)) hx hb dX8_ringless_64 (by decide) ?_
                refine lv_icmp_eq (tgt := 80) hx hb dX8_ringless_65 (by decide) (fun c42 => ?_) (fun c42 => ?_)
                · skip
                  refine lv_aload_n hx hb dX8_ringless_80 rfl (lv_at hl 2 rfl) ?_
                  refine lv_iload hx hb dX8_ringless_81 (lv_at hl 0 rfl) ?_
                  refine lv_aload_n hx hb dX8_ringless_83 rfl (lv_at hl 2 rfl) ?_
                  refine va_get (D := D) (ci := 8) (v := .ref g44) (C := RX8) (T := TX8) (N := 46) hx hb hts hiX8 hown hE.1 hP 1 rfl rfl 44 (by decide) (hts _ (List.mem_cons_of_mem _ wd_149)) (fun _ h9 => h9) rfl dX8_ringless_84 ?_
                  refine k_i (va_runV (As := [.int (nI i55), .ref g44]) (rest := []) ⟨hx, hb, hml, hown, hts⟩ (m_X8_hasRing l D cI cJ H.size g g2 g3 g4 g5 g6 g7 g8 g9 g10 g12 g13 g15 g16 g17 g19 g20 g21 g22 g23 g24 g25 g26 g27 g28 g33 g34 g35 g36 g37 g38 g39 g41 g42 g44 g45 mn ml z26 0 gi14 z25 z23 z24 (nI z27) gi40 gi43 (nI i55) a_g21_55 a_g22_55 a_g23_55 a_g44_26) (cwV 2 hts gX8_ringless_X8_hasRing rfl rfl rfl (by decide +kernel) ⟨Nat.le_of_ble_eq_true rfl, Nat.le_of_ble_eq_true rfl⟩) (k_preV hE hP hD [1, 14, 15, 16, 0] (by decide +kernel) rfl 1 rfl rfl) rfl rfl hl.1 rfl (lv_room (Nat.le_of_ble_eq_true rfl)) dX8_ringless_87 ⟨Nat.le_of_ble_eq_true rfl, Nat.le_of_ble_eq_true rfl⟩) hP hD hS hA [1, 14, 15, 16, 0] [2, 3, 4, 5, 6, 7, 8, 9, 10, 11, 12, 13, 17, 18, 19, 20, 21, 22, 23, 24, 25, 26] rfl (wr := [(aIc cI g2 8 G2), (aIc cI g3 8 G3), (aIc cI g4 8 G4), (aIc cI g5 8 G5), (aIc cI g6 8 G6), (aIc cI g7 8 G7), (aIc cI g8 8 G8), (aIc cI g10 64 G10), (aIc cI g12 10 G12), (aIc cI g13 10 G13), (aIc cI g19 8 z8), (aIc cI g20 8 z9), (aIc cI g24 8 z13), (aIc cI g25 8 z14), (aIc cI g26 8 z15), (aIc cI g27 8 z16), (aIc cI g28 8 z17), (aIc cI g33 8 z18), (aIc cI g34 8 z19), (aIc cI g35 8 z20), (aIc cI g36 8 z21), (aJc cJ g37 8 z22)]) rfl (by decide +kernel) (by decide +kernel) (fun r43 u H locs hw44 hP hD hS => ?_)
                  obtain ⟨z45, z46, z47, hz48, rfl⟩ := hw44
                  refine k_re (w := [(aIc cI g2 8 G2), (aIc cI g3 8 G3), (aIc cI g4 8 G4), (aIc cI g5 8 G5), (aIc cI g6 8 G6), (aIc cI g7 8 G7), (aIc cI g8 8 G8), (aIc cI g10 64 G10), (aIc cI g12 10 G12), (aIc cI g13 10 G13), (aIc cI g19 8 z8), (aIc cI g20 8 z9), (aIc cI g24 8 z13), (aIc cI g25 8 z14), (aIc cI g26 8 z15), (aIc cI g27 8 z16), (aIc cI g28 8 z17), (aIc cI g33 8 z18), (aIc cI g34 8 z19), (aIc cI g35 8 z20), (aIc cI g36 8 z21), (aJc cJ g37 8 z22), (oX8 g 0 (nI mn) g2 g3 g4 g5 g6 g7 g8 g9 g10 (nI ml) g12 g13 gi14 g15 g16 g17 z25 g19 g20 g21 g22 g23 g24 g25 g26 g27 g28 z23 z24 (nI z26) (nI z27) g33 g34 g35 g36 g37 g38 g39 gi40 g41 g42 gi43 g44 g45), (aIc cI g21 8 z45), (aIc cI g22 8 z46), (aIc cI g23 8 z47), (aIc cI g44 8 a_g44_26)]) hP hD (fun hP hD => ?_)
                  refine lv_if_ne (tgt := 96) hx hb dX8_ringless_90 (by decide) (fun c49 => ?_) (fun c49 => ?_)
                  · skip
                    refine lv_iinc (v := (nI (i55 + 1))) (lv' := [(4, .int (nI (i55 + 1))), (3, .int h3_55), (0, .ref g), (1, .int (nI lj)), (2, .int p1)]) hx hb dX8_ringless_96 hl (k := 0) rfl (nI_1 _) (by decide) rfl (fun ls hl => ?_)
                    refine lv_goto (tgt := 55) hx hb dX8_ringless_99 (by decide) ?_
                    exact ih55 (i55 + 1) h3_55 z45 z46 z47 (by omega) (by omega) _ _ _ (k_sub hP [26, 22, 0, 1, 2, 3, 4, 5, 6, 7, 8, 9, 10, 11, 23, 24, 25, 12, 13, 14, 15, 16, 17, 18, 19, 20, 21] rfl) (hD.sub [26, 22, 0, 1, 2, 3, 4, 5, 6, 7, 8, 9, 10, 11, 23, 24, 25, 12, 13, 14, 15, 16, 17, 18, 19, 20, 21] (by decide +kernel) rfl) hS (lv_sub hl [0, 1, 2, 3, 4] rfl)
                  · skip
                    refine lv_iload hx hb dX8_ringless_93 (lv_at hl 0 rfl) ?_
                    refine lv_istore_n (lv' := [(3, .int (nI i55)), (4, .int (nI i55)), (0, .ref g), (1, .int (nI lj)), (2, .int p1)]) hx hb dX8_ringless_95 rfl hl (by decide) rfl (fun ls hl => ?_)
                    refine lv_iinc (v := (nI (i55 + 1))) (lv' := [(4, .int (nI (i55 + 1))), (3, .int (nI i55)), (0, .ref g), (1, .int (nI lj)), (2, .int p1)]) hx hb dX8_ringless_96 hl (k := 1) rfl (nI_1 _) (by decide) rfl (fun ls hl => ?_)
                    refine lv_goto (tgt := 55) hx hb dX8_ringless_99 (by decide) ?_
                    exact ih55 (i55 + 1) (nI i55) z45 z46 z47 (by omega) (by omega) _ _ _ (k_sub hP [26, 22, 0, 1, 2, 3, 4, 5, 6, 7, 8, 9, 10, 11, 23, 24, 25, 12, 13, 14, 15, 16, 17, 18, 19, 20, 21] rfl) (hD.sub [26, 22, 0, 1, 2, 3, 4, 5, 6, 7, 8, 9, 10, 11, 23, 24, 25, 12, 13, 14, 15, 16, 17, 18, 19, 20, 21] (by decide +kernel) rfl) hS (lv_sub hl [0, 1, 2, 3, 4] rfl)
                · skip
                  refine lv_iload hx hb dX8_ringless_68 (lv_at hl 0 rfl) ?_
                  refine k_iS (va_runS (As := [.int (nI i55)]) (rest := []) ⟨hx, hb, hml, hown, hts⟩ (m_X8_bits l D cI cJ H.size (nI i55)) (va_cwS 1 hts gX8_ringless_X8_bits rfl rfl rfl (by decide +kernel) ⟨Nat.le_of_ble_eq_true rfl, Nat.le_of_ble_eq_true rfl⟩) (k_pre hE hP hD [] (by decide +kernel) rfl) rfl rfl hl.1 rfl (lv_room (Nat.le_of_ble_eq_true rfl)) dX8_ringless_70 ⟨Nat.le_of_ble_eq_true rfl, Nat.le_of_ble_eq_true rfl⟩) hP hD hS hA [] rfl (fun _ _ ⟨_, _, _, h9⟩ => h9) (fun r50 H locs hw51 hP hD hS => ?_)
                  obtain ⟨z52, hz53, rfl, -⟩ := hw51
                  refine lv_iload_n hx hb dX8_ringless_73 rfl (lv_at hl 1 rfl) ?_
                  refine k_iS (va_runS (As := [.int h3_55]) (rest := [.int (nI z52)]) ⟨hx, hb, hml, hown, hts⟩ (m_X8_bits l D cI cJ H.size h3_55) (va_cwS 1 hts gX8_ringless_X8_bits rfl rfl rfl (by decide +kernel) ⟨Nat.le_of_ble_eq_true rfl, Nat.le_of_ble_eq_true rfl⟩) (k_pre hE hP hD [] (by decide +kernel) rfl) rfl rfl hl.1 rfl (lv_room (Nat.le_of_ble_eq_true rfl)) dX8_ringless_74 ⟨Nat.le_of_ble_eq_true rfl, Nat.le_of_ble_eq_true rfl⟩) hP hD hS hA [] rfl (fun _ _ ⟨_, _, _, h9⟩ => h9) (fun r54 H locs hw55 hP hD hS => ?_)
                  obtain ⟨z56, hz57, rfl, -⟩ := hw55
                  refine lv_icmp_ge (tgt := 96) hx hb dX8_ringless_77 (by decide) (fun c58 => ?_) (fun c58 => ?_)
                  · skip
                    have nc58 : z56 ≤ z52 := (nI_leI (a := z56) (b := z52) (by omega) (by omega)).mp c58
                    refine lv_iinc (v := (nI (i55 + 1))) (lv' := [(4, .int (nI (i55 + 1))), (3, .int h3_55), (0, .ref g), (1, .int (nI lj)), (2, .int p1)]) hx hb dX8_ringless_96 hl (k := 0) rfl (nI_1 _) (by decide) rfl (fun ls hl => ?_)
                    refine lv_goto (tgt := 55) hx hb dX8_ringless_99 (by decide) ?_
                    exact ih55 (i55 + 1) h3_55 a_g21_55 a_g22_55 a_g23_55 (by omega) (by omega) _ _ _ hP hD hS (lv_sub hl [0, 1, 2, 3, 4] rfl)
                  · skip
                    have nc58 : ¬ z56 ≤ z52 := fun q9 => c58 ((nI_leI (a := z56) (b := z52) (by omega) (by omega)).mpr q9)
                    refine lv_aload_n hx hb dX8_ringless_80 rfl (lv_at hl 2 rfl) ?_
                    refine lv_iload hx hb dX8_ringless_81 (lv_at hl 0 rfl) ?_
                    refine lv_aload_n hx hb dX8_ringless_83 rfl (lv_at hl 2 rfl) ?_
                    refine va_get (D := D) (ci := 8) (v := .ref g44) (C := RX8) (T := TX8) (N := 46) hx hb hts hiX8 hown hE.1 hP 1 rfl rfl 44 (by decide) (hts _ (List.mem_cons_of_mem _ wd_149)) (fun _ h9 => h9) rfl dX8_ringless_84 ?_
                    refine k_i (va_runV (As := [.int (nI i55), .ref g44]) (rest := []) ⟨hx, hb, hml, hown, hts⟩ (m_X8_hasRing l D cI cJ H.size g g2 g3 g4 g5 g6 g7 g8 g9 g10 g12 g13 g15 g16 g17 g19 g20 g21 g22 g23 g24 g25 g26 g27 g28 g33 g34 g35 g36 g37 g38 g39 g41 g42 g44 g45 mn ml z26 0 gi14 z25 z23 z24 (nI z27) gi40 gi43 (nI i55) a_g21_55 a_g22_55 a_g23_55 a_g44_26) (cwV 2 hts gX8_ringless_X8_hasRing rfl rfl rfl (by decide +kernel) ⟨Nat.le_of_ble_eq_true rfl, Nat.le_of_ble_eq_true rfl⟩) (k_preV hE hP hD [1, 14, 15, 16, 0] (by decide +kernel) rfl 1 rfl rfl) rfl rfl hl.1 rfl (lv_room (Nat.le_of_ble_eq_true rfl)) dX8_ringless_87 ⟨Nat.le_of_ble_eq_true rfl, Nat.le_of_ble_eq_true rfl⟩) hP hD hS hA [1, 14, 15, 16, 0] [2, 3, 4, 5, 6, 7, 8, 9, 10, 11, 12, 13, 17, 18, 19, 20, 21, 22, 23, 24, 25, 26] rfl (wr := [(aIc cI g2 8 G2), (aIc cI g3 8 G3), (aIc cI g4 8 G4), (aIc cI g5 8 G5), (aIc cI g6 8 G6), (aIc cI g7 8 G7), (aIc cI g8 8 G8), (aIc cI g10 64 G10), (aIc cI g12 10 G12), (aIc cI g13 10 G13), (aIc cI g19 8 z8), (aIc cI g20 8 z9), (aIc cI g24 8 z13), (aIc cI g25 8 z14), (aIc cI g26 8 z15), (aIc cI g27 8 z16), (aIc cI g28 8 z17), (aIc cI g33 8 z18), (aIc cI g34 8 z19), (aIc cI g35 8 z20), (aIc cI g36 8 z21), (aJc cJ g37 8 z22)]) rfl (by decide +kernel) (by decide +kernel) (fun r59 u H locs hw60 hP hD hS => ?_)
                    obtain ⟨z61, z62, z63, hz64, rfl⟩ := hw60
                    refine k_re (w := [(aIc cI g2 8 G2), (aIc cI g3 8 G3), (aIc cI g4 8 G4), (aIc cI g5 8 G5), (aIc cI g6 8 G6), (aIc cI g7 8 G7), (aIc cI g8 8 G8), (aIc cI g10 64 G10), (aIc cI g12 10 G12), (aIc cI g13 10 G13), (aIc cI g19 8 z8), (aIc cI g20 8 z9), (aIc cI g24 8 z13), (aIc cI g25 8 z14), (aIc cI g26 8 z15), (aIc cI g27 8 z16), (aIc cI g28 8 z17), (aIc cI g33 8 z18), (aIc cI g34 8 z19), (aIc cI g35 8 z20), (aIc cI g36 8 z21), (aJc cJ g37 8 z22), (oX8 g 0 (nI mn) g2 g3 g4 g5 g6 g7 g8 g9 g10 (nI ml) g12 g13 gi14 g15 g16 g17 z25 g19 g20 g21 g22 g23 g24 g25 g26 g27 g28 z23 z24 (nI z26) (nI z27) g33 g34 g35 g36 g37 g38 g39 gi40 g41 g42 gi43 g44 g45), (aIc cI g21 8 z61), (aIc cI g22 8 z62), (aIc cI g23 8 z63), (aIc cI g44 8 a_g44_26)]) hP hD (fun hP hD => ?_)
                    refine lv_if_ne (tgt := 96) hx hb dX8_ringless_90 (by decide) (fun c65 => ?_) (fun c65 => ?_)
                    · skip
                      refine lv_iinc (v := (nI (i55 + 1))) (lv' := [(4, .int (nI (i55 + 1))), (3, .int h3_55), (0, .ref g), (1, .int (nI lj)), (2, .int p1)]) hx hb dX8_ringless_96 hl (k := 0) rfl (nI_1 _) (by decide) rfl (fun ls hl => ?_)
                      refine lv_goto (tgt := 55) hx hb dX8_ringless_99 (by decide) ?_
                      exact ih55 (i55 + 1) h3_55 z61 z62 z63 (by omega) (by omega) _ _ _ (k_sub hP [26, 22, 0, 1, 2, 3, 4, 5, 6, 7, 8, 9, 10, 11, 23, 24, 25, 12, 13, 14, 15, 16, 17, 18, 19, 20, 21] rfl) (hD.sub [26, 22, 0, 1, 2, 3, 4, 5, 6, 7, 8, 9, 10, 11, 23, 24, 25, 12, 13, 14, 15, 16, 17, 18, 19, 20, 21] (by decide +kernel) rfl) hS (lv_sub hl [0, 1, 2, 3, 4] rfl)
                    · skip
                      refine lv_iload hx hb dX8_ringless_93 (lv_at hl 0 rfl) ?_
                      refine lv_istore_n (lv' := [(3, .int (nI i55)), (4, .int (nI i55)), (0, .ref g), (1, .int (nI lj)), (2, .int p1)]) hx hb dX8_ringless_95 rfl hl (by decide) rfl (fun ls hl => ?_)
                      refine lv_iinc (v := (nI (i55 + 1))) (lv' := [(4, .int (nI (i55 + 1))), (3, .int (nI i55)), (0, .ref g), (1, .int (nI lj)), (2, .int p1)]) hx hb dX8_ringless_96 hl (k := 1) rfl (nI_1 _) (by decide) rfl (fun ls hl => ?_)
                      refine lv_goto (tgt := 55) hx hb dX8_ringless_99 (by decide) ?_
                      exact ih55 (i55 + 1) (nI i55) z61 z62 z63 (by omega) (by omega) _ _ _ (k_sub hP [26, 22, 0, 1, 2, 3, 4, 5, 6, 7, 8, 9, 10, 11, 23, 24, 25, 12, 13, 14, 15, 16, 17, 18, 19, 20, 21] rfl) (hD.sub [26, 22, 0, 1, 2, 3, 4, 5, 6, 7, 8, 9, 10, 11, 23, 24, 25, 12, 13, 14, 15, 16, 17, 18, 19, 20, 21] (by decide +kernel) rfl) hS (lv_sub hl [0, 1, 2, 3, 4] rfl)
          exact J55 _ 0 (-1) z10 z11 z12 (by omega) (Nat.lt_succ_self _) _ _ _ hP hD hS (lv_sub hl [0, 1, 2, 3, 4] rfl)
        · skip
          have nc35 : ¬ 8 ≤ i26 := fun q9 => c35 ((nI_leI (a := 8) (b := i26) (by omega) (by omega)).mpr q9)
          refine lv_aload_n hx hb dX8_ringless_32 rfl (lv_at hl 1 rfl) ?_
          refine va_get (D := D) (ci := 8) (v := .ref g44) (C := RX8) (T := TX8) (N := 46) hx hb hts hiX8 hown hE.1 hP 1 rfl rfl 44 (by decide) (hts _ (List.mem_cons_of_mem _ wd_149)) (fun _ h9 => h9) rfl dX8_ringless_33 ?_
          refine lv_iload_n hx hb dX8_ringless_36 rfl (lv_at hl 0 rfl) ?_
          refine lv_aload_n hx hb dX8_ringless_37 rfl (lv_at hl 1 rfl) ?_
          refine va_get (D := D) (ci := 8) (v := .ref g21) (C := RX8) (T := TX8) (N := 46) hx hb hts hiX8 hown hE.1 hP 1 rfl rfl 21 (by decide) (hts _ (List.mem_cons_of_mem _ wd_132)) (fun _ h9 => h9) rfl dX8_ringless_38 ?_
          refine lv_iload_n hx hb dX8_ringless_41 rfl (lv_at hl 0 rfl) ?_
          refine va_iald hx hb hE.1 hP 14 0 rfl rfl (vp_in_nI (n := i26) (by omega) (by decide)) dX8_ringless_42 ?_
          refine lv_topi (fun v66 ev66 => ?_)
          refine va_iast hx hb hE.1 hP hD hS 0 0 rfl rfl (vp_in_nI (n := i26) (by omega) (by decide)) dX8_ringless_43 (fun H locs hP hD hS => ?_)
          refine k_re (w := [(aIc cI g44 8 (upd a_g44_26 (Int32.toNatClampNeg (nI i26)) v66)), (oX8 g 0 (nI mn) g2 g3 g4 g5 g6 g7 g8 g9 g10 (nI ml) g12 g13 gi14 g15 g16 g17 z25 g19 g20 g21 g22 g23 g24 g25 g26 g27 g28 z23 z24 (nI z26) (nI z27) g33 g34 g35 g36 g37 g38 g39 gi40 g41 g42 gi43 g44 g45), (aIc cI g2 8 G2), (aIc cI g3 8 G3), (aIc cI g4 8 G4), (aIc cI g5 8 G5), (aIc cI g6 8 G6), (aIc cI g7 8 G7), (aIc cI g8 8 G8), (aIc cI g10 64 G10), (aIc cI g12 10 G12), (aIc cI g13 10 G13), (aIc cI g19 8 z8), (aIc cI g20 8 z9), (aIc cI g21 8 z10), (aIc cI g22 8 z11), (aIc cI g23 8 z12), (aIc cI g24 8 z13), (aIc cI g25 8 z14), (aIc cI g26 8 z15), (aIc cI g27 8 z16), (aIc cI g28 8 z17), (aIc cI g33 8 z18), (aIc cI g34 8 z19), (aIc cI g35 8 z20), (aIc cI g36 8 z21), (aJc cJ g37 8 z22)]) hP hD (fun hP hD => ?_)
          refine lv_iinc (v := (nI (i26 + 1))) (lv' := [(3, .int (nI (i26 + 1))), (0, .ref g), (1, .int (nI lj)), (2, .int p1)]) hx hb dX8_ringless_44 hl (k := 0) rfl (nI_1 _) (by decide) rfl (fun ls hl => ?_)
          refine lv_goto (tgt := 26) hx hb dX8_ringless_47 (by decide) ?_
          exact ih26 (i26 + 1) (upd a_g44_26 (Int32.toNatClampNeg (nI i26)) v66) (by omega) (by omega) _ _ _ hP hD hS (lv_sub hl [0, 1, 2, 3] rfl)
    exact J26 _ 0 G44 (by omega) (Nat.lt_succ_self _) _ _ _ hP hD hS (lv_sub hl [0, 1, 2, 3] rfl)
  · skip
    have hc4 : ¬ (0 ≤ p0 ∧ p0 ≤ nI ml - 1) := bz_0 hb3 c4
    refine lv_iconst (v := (-1)) hx hb dX8_ringless_13 (by decide) ?_
    refine k_iret (u := [(oX8 g 0 (nI mn) g2 g3 g4 g5 g6 g7 g8 g9 g10 (nI ml) g12 g13 gi14 g15 g16 g17 gi18 g19 g20 g21 g22 g23 g24 g25 g26 g27 g28 gi29 gi30 (nI mv) (nI tt) g33 g34 g35 g36 g37 g38 g39 gi40 g41 g42 gi43 g44 g45), (aIc cI g2 8 G2), (aIc cI g3 8 G3), (aIc cI g4 8 G4), (aIc cI g5 8 G5), (aIc cI g6 8 G6), (aIc cI g7 8 G7), (aIc cI g8 8 G8), (aIc cI g10 64 G10), (aIc cI g12 10 G12), (aIc cI g13 10 G13), (aIc cI g19 8 G19), (aIc cI g20 8 G20), (aIc cI g21 8 G21), (aIc cI g22 8 G22), (aIc cI g23 8 G23), (aIc cI g24 8 G24), (aIc cI g25 8 G25), (aIc cI g26 8 G26), (aIc cI g27 8 G27), (aIc cI g28 8 G28), (aIc cI g33 8 G33), (aIc cI g34 8 G34), (aIc cI g35 8 G35), (aIc cI g36 8 G36), (aJc cJ g37 8 G37), (aIc cI g44 8 G44)]) hx hb hr hlk hP hD hS dX8_ringless_14 ?_
    exact ⟨G19, G20, G21, G22, G23, G24, G25, G26, G27, G28, G33, G34, G35, G36, G37, gi29, gi30, gi18, mv, tt, 0, G44, hLE, hLO, hLW, hSH, htt, hmv, rfl⟩
theorem dX8_fewest_0 : decode cX8_fewest 0 = .ok (.aload_n 0, 1) := by decide +kernel
theorem dX8_fewest_1 : decode cX8_fewest 1 = .ok (.iconst 0, 1) := by decide +kernel
theorem dX8_fewest_2 : decode cX8_fewest 2 = .ok (.putfield 116, 3) := by decide +kernel
theorem dX8_fewest_5 : decode cX8_fewest 5 = .ok (.aload_n 0, 1) := by decide +kernel
theorem dX8_fewest_6 : decode cX8_fewest 6 = .ok (.iload_n 1, 1) := by decide +kernel
theorem dX8_fewest_7 : decode cX8_fewest 7 = .ok (.invokevirtual 252, 3) := by decide +kernel
theorem dX8_fewest_10 : decode cX8_fewest 10 = .ok (.ifCond .ne 5, 3) := by decide +kernel
theorem dX8_fewest_13 : decode cX8_fewest 13 = .ok (.iconst (-1), 1) := by decide +kernel
theorem dX8_fewest_14 : decode cX8_fewest 14 = .ok (.ireturn, 1) := by decide +kernel
theorem dX8_fewest_15 : decode cX8_fewest 15 = .ok (.aload_n 0, 1) := by decide +kernel
theorem dX8_fewest_16 : decode cX8_fewest 16 = .ok (.iload_n 1, 1) := by decide +kernel
theorem dX8_fewest_17 : decode cX8_fewest 17 = .ok (.aload_n 0, 1) := by decide +kernel
theorem dX8_fewest_18 : decode cX8_fewest 18 = .ok (.invokevirtual 220, 3) := by decide +kernel
theorem dX8_fewest_21 : decode cX8_fewest 21 = .ok (.invokevirtual 224, 3) := by decide +kernel
theorem dX8_fewest_24 : decode cX8_fewest 24 = .ok (.iconst (-1), 1) := by decide +kernel
theorem dX8_fewest_25 : decode cX8_fewest 25 = .ok (.istore_n 3, 1) := by decide +kernel
theorem dX8_fewest_26 : decode cX8_fewest 26 = .ok (.iconst 0, 1) := by decide +kernel
theorem dX8_fewest_27 : decode cX8_fewest 27 = .ok (.istore 4, 2) := by decide +kernel
theorem dX8_fewest_29 : decode cX8_fewest 29 = .ok (.iload 4, 2) := by decide +kernel
theorem dX8_fewest_31 : decode cX8_fewest 31 = .ok (.aload_n 0, 1) := by decide +kernel
theorem dX8_fewest_32 : decode cX8_fewest 32 = .ok (.invokevirtual 220, 3) := by decide +kernel
theorem dX8_fewest_35 : decode cX8_fewest 35 = .ok (.if_icmp .gt 109, 3) := by decide +kernel
theorem dX8_fewest_38 : decode cX8_fewest 38 = .ok (.lconst 0, 1) := by decide +kernel
theorem dX8_fewest_39 : decode cX8_fewest 39 = .ok (.lstore 5, 2) := by decide +kernel
theorem dX8_fewest_41 : decode cX8_fewest 41 = .ok (.iconst 0, 1) := by decide +kernel
theorem dX8_fewest_42 : decode cX8_fewest 42 = .ok (.istore 7, 2) := by decide +kernel
theorem dX8_fewest_44 : decode cX8_fewest 44 = .ok (.iload 7, 2) := by decide +kernel
theorem dX8_fewest_46 : decode cX8_fewest 46 = .ok (.aload_n 0, 1) := by decide +kernel
theorem dX8_fewest_47 : decode cX8_fewest 47 = .ok (.getfield 120, 3) := by decide +kernel
theorem dX8_fewest_50 : decode cX8_fewest 50 = .ok (.if_icmp .ge 57, 3) := by decide +kernel
theorem dX8_fewest_53 : decode cX8_fewest 53 = .ok (.lload 5, 2) := by decide +kernel
theorem dX8_fewest_55 : decode cX8_fewest 55 = .ok (.iload 4, 2) := by decide +kernel
theorem dX8_fewest_57 : decode cX8_fewest 57 = .ok (.iload 7, 2) := by decide +kernel
theorem dX8_fewest_59 : decode cX8_fewest 59 = .ok (.invokestatic 154, 3) := by decide +kernel
theorem dX8_fewest_62 : decode cX8_fewest 62 = .ok (.ifCond .ne 7, 3) := by decide +kernel
theorem dX8_fewest_65 : decode cX8_fewest 65 = .ok (.lconst 0, 1) := by decide +kernel
theorem dX8_fewest_66 : decode cX8_fewest 66 = .ok (.goto 32, 3) := by decide +kernel
theorem dX8_fewest_69 : decode cX8_fewest 69 = .ok (.aload_n 0, 1) := by decide +kernel
theorem dX8_fewest_70 : decode cX8_fewest 70 = .ok (.getfield 25, 3) := by decide +kernel
theorem dX8_fewest_73 : decode cX8_fewest 73 = .ok (.iload 7, 2) := by decide +kernel
theorem dX8_fewest_75 : decode cX8_fewest 75 = .ok (.iaload, 1) := by decide +kernel
theorem dX8_fewest_76 : decode cX8_fewest 76 = .ok (.ifCond .ne 14, 3) := by decide +kernel
theorem dX8_fewest_79 : decode cX8_fewest 79 = .ok (.aload_n 0, 1) := by decide +kernel
theorem dX8_fewest_80 : decode cX8_fewest 80 = .ok (.getfield 55, 3) := by decide +kernel
theorem dX8_fewest_83 : decode cX8_fewest 83 = .ok (.iload 7, 2) := by decide +kernel
theorem dX8_fewest_85 : decode cX8_fewest 85 = .ok (.iaload, 1) := by decide +kernel
theorem dX8_fewest_86 : decode cX8_fewest 86 = .ok (.i2l, 1) := by decide +kernel
theorem dX8_fewest_87 : decode cX8_fewest 87 = .ok (.goto 11, 3) := by decide +kernel
theorem dX8_fewest_90 : decode cX8_fewest 90 = .ok (.aload_n 0, 1) := by decide +kernel
theorem dX8_fewest_91 : decode cX8_fewest 91 = .ok (.getfield 76, 3) := by decide +kernel
theorem dX8_fewest_94 : decode cX8_fewest 94 = .ok (.iload 7, 2) := by decide +kernel
theorem dX8_fewest_96 : decode cX8_fewest 96 = .ok (.iaload, 1) := by decide +kernel
theorem dX8_fewest_97 : decode cX8_fewest 97 = .ok (.i2l, 1) := by decide +kernel
theorem dX8_fewest_98 : decode cX8_fewest 98 = .ok (.ladd, 1) := by decide +kernel
theorem dX8_fewest_99 : decode cX8_fewest 99 = .ok (.lstore 5, 2) := by decide +kernel
theorem dX8_fewest_101 : decode cX8_fewest 101 = .ok (.iinc 7 1, 3) := by decide +kernel
theorem dX8_fewest_104 : decode cX8_fewest 104 = .ok (.goto (-60), 3) := by decide +kernel
theorem dX8_fewest_107 : decode cX8_fewest 107 = .ok (.lload 5, 2) := by decide +kernel
theorem dX8_fewest_109 : decode cX8_fewest 109 = .ok (.aload_n 0, 1) := by decide +kernel
theorem dX8_fewest_110 : decode cX8_fewest 110 = .ok (.getfield 198, 3) := by decide +kernel
theorem dX8_fewest_113 : decode cX8_fewest 113 = .ok (.i2l, 1) := by decide +kernel
theorem dX8_fewest_114 : decode cX8_fewest 114 = .ok (.lcmp, 1) := by decide +kernel
theorem dX8_fewest_115 : decode cX8_fewest 115 = .ok (.ifCond .lt 23, 3) := by decide +kernel
theorem dX8_fewest_118 : decode cX8_fewest 118 = .ok (.iload_n 3, 1) := by decide +kernel
theorem dX8_fewest_119 : decode cX8_fewest 119 = .ok (.iconst (-1), 1) := by decide +kernel
theorem dX8_fewest_120 : decode cX8_fewest 120 = .ok (.if_icmp .eq 15, 3) := by decide +kernel
theorem dX8_fewest_123 : decode cX8_fewest 123 = .ok (.iload 4, 2) := by decide +kernel
theorem dX8_fewest_125 : decode cX8_fewest 125 = .ok (.invokestatic 249, 3) := by decide +kernel
theorem dX8_fewest_128 : decode cX8_fewest 128 = .ok (.iload_n 3, 1) := by decide +kernel
theorem dX8_fewest_129 : decode cX8_fewest 129 = .ok (.invokestatic 249, 3) := by decide +kernel
theorem dX8_fewest_132 : decode cX8_fewest 132 = .ok (.if_icmp .ge 6, 3) := by decide +kernel
theorem dX8_fewest_135 : decode cX8_fewest 135 = .ok (.iload 4, 2) := by decide +kernel
theorem dX8_fewest_137 : decode cX8_fewest 137 = .ok (.istore_n 3, 1) := by decide +kernel
theorem dX8_fewest_138 : decode cX8_fewest 138 = .ok (.iinc 4 1, 3) := by decide +kernel
theorem dX8_fewest_141 : decode cX8_fewest 141 = .ok (.goto (-112), 3) := by decide +kernel
theorem dX8_fewest_144 : decode cX8_fewest 144 = .ok (.iload_n 2, 1) := by decide +kernel
theorem dX8_fewest_145 : decode cX8_fewest 145 = .ok (.ifCond .eq 7, 3) := by decide +kernel
theorem dX8_fewest_148 : decode cX8_fewest 148 = .ok (.iload_n 3, 1) := by decide +kernel
theorem dX8_fewest_149 : decode cX8_fewest 149 = .ok (.goto 7, 3) := by decide +kernel
theorem dX8_fewest_152 : decode cX8_fewest 152 = .ok (.iload_n 3, 1) := by decide +kernel
theorem dX8_fewest_153 : decode cX8_fewest 153 = .ok (.invokestatic 249, 3) := by decide +kernel
theorem dX8_fewest_156 : decode cX8_fewest 156 = .ok (.ireturn, 1) := by decide +kernel
theorem gX8_fewest_X8_all : GoodIn wtX8_fewest (wsV RX8 220 RX8 yX8_all wtX8_all) := tb_good (tb_v0 wd_413 wd_414 wd_415 wd_5 wd_416)
theorem gX8_fewest_X8_bits : GoodIn wtX8_fewest (va_wsS RX8 249 yX8_bits wtX8_bits) := tb_good (tb_s0 wd_570 wd_571 wd_5 wd_572)
theorem gX8_fewest_X8_isLoss : GoodIn wtX8_fewest (wsV RX8 252 RX8 yX8_isLoss wtX8_isLoss) := tb_good (tb_v0 wd_554 wd_555 wd_556 wd_5 wd_557)
theorem gX8_fewest_X8_isOn : GoodIn wtX8_fewest (va_wsS RX8 154 yX8_isOn wtX8_isOn) := tb_good (tb_s0 wd_423 wd_424 wd_5 wd_425)
theorem gX8_fewest_X8_settlesTo : GoodIn wtX8_fewest (wsV RX8 224 RX8 yX8_settlesTo wtX8_settlesTo) := tb_good (tb_v0 wd_482 wd_483 wd_484 wd_5 wd_485)
set_option maxHeartbeats 4000000 in
set_option maxRecDepth 100000 in
theorem m_X8_fewest (l : Launch) (D : va_G) (cI cJ : ClassId) (sz : Nat) (g g2 g3 g4 g5 g6 g7 g8 g9 g10 g12 g13 g15 g16 g17 g19 g20 g21 g22 g23 g24 g25 g26 g27 g28 g33 g34 g35 g36 g37 g38 g39 g41 g42 g44 g45 mn ml mv tt : Nat) (gi0 gi14 gi18 gi29 gi30 gi40 gi43 p0 p1 : Int32) (G2 G3 G4 G5 G6 G7 G8 G10 G12 G13 G19 G20 G21 G22 G23 G24 G25 G26 G27 G28 G33 G34 G35 G36 : Nat → Int32) (G37 : Nat → Int64) (li0 wo0 de0 ag0 : Nat → Nat) (hmn : mn ≤ 8) (hmL : ml ≤ 10) (hit : ∀ k, k < 10 → ∃ j : Nat, j < 8 ∧ G12 k = nI j) (hsu : ∀ k, k < 64 → ∃ j : Nat, j ≤ 1000001 ∧ G10 k = nI j) (hliv : nv G2 li0) (hlib : ∀ k, k < 8 → li0 k ≤ 1000000) (hwov : nv G5 wo0) (hwob : ∀ k, k < 8 → wo0 k ≤ 9000000) (hdev : nv G4 de0) (hdeb : ∀ k, k < 8 → de0 k ≤ 99999) (hagv : nv G3 ag0) (hagb : ∀ k, k < 8 → ag0 k ≤ 9000000) (hamt : ∀ k, k < 10 → ∃ j : Nat, j < 1000001 ∧ G13 k = nI j) (hLE : LE G19) (hLO : LO G20) (hLW : LW G25) (hSH : SH G27 tt) (htt : tt ≤ 1000000) (hmv : mv ≤ 8) : Met l yX8_fewest wtX8_fewest { frames := 8, cells := 0, slots := 0, locals := 189 } (cPc D cI cJ [.ref g, .int p0, .int p1] sz [(oX8 g gi0 (nI mn) g2 g3 g4 g5 g6 g7 g8 g9 g10 (nI ml) g12 g13 gi14 g15 g16 g17 gi18 g19 g20 g21 g22 g23 g24 g25 g26 g27 g28 gi29 gi30 (nI mv) (nI tt) g33 g34 g35 g36 g37 g38 g39 gi40 g41 g42 gi43 g44 g45), (aIc cI g2 8 G2), (aIc cI g3 8 G3), (aIc cI g4 8 G4), (aIc cI g5 8 G5), (aIc cI g6 8 G6), (aIc cI g7 8 G7), (aIc cI g8 8 G8), (aIc cI g10 64 G10), (aIc cI g12 10 G12), (aIc cI g13 10 G13), (aIc cI g19 8 G19), (aIc cI g20 8 G20), (aIc cI g21 8 G21), (aIc cI g22 8 G22), (aIc cI g23 8 G23), (aIc cI g24 8 G24), (aIc cI g25 8 G25), (aIc cI g26 8 G26), (aIc cI g27 8 G27), (aIc cI g28 8 G28), (aIc cI g33 8 G33), (aIc cI g34 8 G34), (aIc cI g35 8 G35), (aIc cI g36 8 G36), (aJc cJ g37 8 G37)]) (cQi D (fun r u => ∃ (G19p G20p G21p G22p G23p G24p G25p G26p G27p G28p G33p G34p G35p G36p : Nat → Int32) (G37p : Nat → Int64) (gi29p gi30p gi18p : Int32) (mvp ttp : Nat) (gi0p : Int32), (LE G19p) ∧ (LO G20p) ∧ (LW G25p) ∧ (SH G27p ttp) ∧ (ttp ≤ 1000000) ∧ (mvp ≤ 8) ∧ u = [(oX8 g gi0p (nI mn) g2 g3 g4 g5 g6 g7 g8 g9 g10 (nI ml) g12 g13 gi14 g15 g16 g17 gi18p g19 g20 g21 g22 g23 g24 g25 g26 g27 g28 gi29p gi30p (nI mvp) (nI ttp) g33 g34 g35 g36 g37 g38 g39 gi40 g41 g42 gi43 g44 g45), (aIc cI g2 8 G2), (aIc cI g3 8 G3), (aIc cI g4 8 G4), (aIc cI g5 8 G5), (aIc cI g6 8 G6), (aIc cI g7 8 G7), (aIc cI g8 8 G8), (aIc cI g10 64 G10), (aIc cI g12 10 G12), (aIc cI g13 10 G13), (aIc cI g19 8 G19p), (aIc cI g20 8 G20p), (aIc cI g21 8 G21p), (aIc cI g22 8 G22p), (aIc cI g23 8 G23p), (aIc cI g24 8 G24p), (aIc cI g25 8 G25p), (aIc cI g26 8 G26p), (aIc cI g27 8 G27p), (aIc cI g28 8 G28p), (aIc cI g33 8 G33p), (aIc cI g34 8 G34p), (aIc cI g35 8 G35p), (aIc cI g36 8 G36p), (aJc cJ g37 8 G37p)]) (va_A [(oX8 g gi0 (nI mn) g2 g3 g4 g5 g6 g7 g8 g9 g10 (nI ml) g12 g13 gi14 g15 g16 g17 gi18 g19 g20 g21 g22 g23 g24 g25 g26 g27 g28 gi29 gi30 (nI mv) (nI tt) g33 g34 g35 g36 g37 g38 g39 gi40 g41 g42 gi43 g44 g45), (aIc cI g2 8 G2), (aIc cI g3 8 G3), (aIc cI g4 8 G4), (aIc cI g5 8 G5), (aIc cI g6 8 G6), (aIc cI g7 8 G7), (aIc cI g8 8 G8), (aIc cI g10 64 G10), (aIc cI g12 10 G12), (aIc cI g13 10 G13), (aIc cI g19 8 G19), (aIc cI g20 8 G20), (aIc cI g21 8 G21), (aIc cI g22 8 G22), (aIc cI g23 8 G23), (aIc cI g24 8 G24), (aIc cI g25 8 G25), (aIc cI g26 8 G26), (aIc cI g27 8 G27), (aIc cI g28 8 G28), (aIc cI g33 8 G33), (aIc cI g34 8 G34), (aIc cI g35 8 G35), (aIc cI g36 8 G36), (aJc cJ g37 8 G37)] sz)) 0 0 (va_A [(oX8 g gi0 (nI mn) g2 g3 g4 g5 g6 g7 g8 g9 g10 (nI ml) g12 g13 gi14 g15 g16 g17 gi18 g19 g20 g21 g22 g23 g24 g25 g26 g27 g28 gi29 gi30 (nI mv) (nI tt) g33 g34 g35 g36 g37 g38 g39 gi40 g41 g42 gi43 g44 g45), (aIc cI g2 8 G2), (aIc cI g3 8 G3), (aIc cI g4 8 G4), (aIc cI g5 8 G5), (aIc cI g6 8 G6), (aIc cI g7 8 G7), (aIc cI g8 8 G8), (aIc cI g10 64 G10), (aIc cI g12 10 G12), (aIc cI g13 10 G13), (aIc cI g19 8 G19), (aIc cI g20 8 G20), (aIc cI g21 8 G21), (aIc cI g22 8 G22), (aIc cI g23 8 G23), (aIc cI g24 8 G24), (aIc cI g25 8 G25), (aIc cI g26 8 G26), (aIc cI g27 8 G27), (aIc cI g28 8 G28), (aIc cI g33 8 G33), (aIc cI g34 8 G34), (aIc cI g35 8 G35), (aIc cI g36 8 G36), (aJc cJ g37 8 G37)] sz) := by
  refine k_ofW (Qc := cQi D (fun r u => ∃ (G19p G20p G21p G22p G23p G24p G25p G26p G27p G28p G33p G34p G35p G36p : Nat → Int32) (G37p : Nat → Int64) (gi29p gi30p gi18p : Int32) (mvp ttp : Nat) (gi0p : Int32), (LE G19p) ∧ (LO G20p) ∧ (LW G25p) ∧ (SH G27p ttp) ∧ (ttp ≤ 1000000) ∧ (mvp ≤ 8) ∧ u = [(oX8 g gi0p (nI mn) g2 g3 g4 g5 g6 g7 g8 g9 g10 (nI ml) g12 g13 gi14 g15 g16 g17 gi18p g19 g20 g21 g22 g23 g24 g25 g26 g27 g28 gi29p gi30p (nI mvp) (nI ttp) g33 g34 g35 g36 g37 g38 g39 gi40 g41 g42 gi43 g44 g45), (aIc cI g2 8 G2), (aIc cI g3 8 G3), (aIc cI g4 8 G4), (aIc cI g5 8 G5), (aIc cI g6 8 G6), (aIc cI g7 8 G7), (aIc cI g8 8 G8), (aIc cI g10 64 G10), (aIc cI g12 10 G12), (aIc cI g13 10 G13), (aIc cI g19 8 G19p), (aIc cI g20 8 G20p), (aIc cI g21 8 G21p), (aIc cI g22 8 G22p), (aIc cI g23 8 G23p), (aIc cI g24 8 G24p), (aIc cI g25 8 G25p), (aIc cI g26 8 G26p), (aIc cI g27 8 G27p), (aIc cI g28 8 G28p), (aIc cI g33 8 G33p), (aIc cI g34 8 G34p), (aIc cI g35 8 G35p), (aIc cI g36 8 G36p), (aJc cJ g37 8 G37p)])) (by decide) rfl (Nat.le_of_ble_eq_true rfl) ?_
  intro p e s m below meth c A ls hx hb hr hml hts hown hlk hnm hsz hE hP hD hS hA hl
  have hown : s.vm.findClass RX8 = some m.cls := hown
  have hiX8 : ∀ w ∈ u_ws RX8 TX8 46, w ∈ wtX8_fewest := fun w h => List.mem_cons_of_mem _ (iuX8 w h)
  have hl : lv_has ls 8 [(0, .ref g), (1, .int p0), (2, .int p1)] := hl
  have h256 := ev_lt hmn
  have h2p := Nat.two_pow_pos mn
  refine lv_aload_n hx hb dX8_fewest_0 rfl (lv_at hl 0 rfl) ?_
  refine lv_iconst (v := 0) hx hb dX8_fewest_1 (by decide) ?_
  refine va_put (D := D) (ci := 8) (v := .int 0) (ty := .int) (C := RX8) (T := TX8) (N := 46) hx hb hts hiX8 tyX8 tyX8_ok nmX8 hown hE.1 hP hD hS 0 rfl rfl 0 (by decide) (hts _ (List.mem_cons_of_mem _ wd_171)) (fun _ h9 => h9) rfl (by decide +kernel) rfl rfl (Nat.le_of_ble_eq_true rfl) dX8_fewest_2 (fun H locs hP hD hS => ?_)
  refine k_re (w := [(oX8 g 0 (nI mn) g2 g3 g4 g5 g6 g7 g8 g9 g10 (nI ml) g12 g13 gi14 g15 g16 g17 gi18 g19 g20 g21 g22 g23 g24 g25 g26 g27 g28 gi29 gi30 (nI mv) (nI tt) g33 g34 g35 g36 g37 g38 g39 gi40 g41 g42 gi43 g44 g45), (aIc cI g2 8 G2), (aIc cI g3 8 G3), (aIc cI g4 8 G4), (aIc cI g5 8 G5), (aIc cI g6 8 G6), (aIc cI g7 8 G7), (aIc cI g8 8 G8), (aIc cI g10 64 G10), (aIc cI g12 10 G12), (aIc cI g13 10 G13), (aIc cI g19 8 G19), (aIc cI g20 8 G20), (aIc cI g21 8 G21), (aIc cI g22 8 G22), (aIc cI g23 8 G23), (aIc cI g24 8 G24), (aIc cI g25 8 G25), (aIc cI g26 8 G26), (aIc cI g27 8 G27), (aIc cI g28 8 G28), (aIc cI g33 8 G33), (aIc cI g34 8 G34), (aIc cI g35 8 G35), (aIc cI g36 8 G36), (aJc cJ g37 8 G37)]) hP hD (fun hP hD => ?_)
  refine lv_aload_n hx hb dX8_fewest_5 rfl (lv_at hl 0 rfl) ?_
  refine lv_iload_n hx hb dX8_fewest_6 rfl (lv_at hl 1 rfl) ?_
  refine k_iS (va_runV (As := [.int p0]) (rest := []) ⟨hx, hb, hml, hown, hts⟩ (m_X8_isLoss l D cI cJ H.size g g2 g3 g4 g5 g6 g7 g8 g9 g10 g12 g13 g15 g16 g17 g19 g20 g21 g22 g23 g24 g25 g26 g27 g28 g33 g34 g35 g36 g37 g38 g39 g41 g42 g44 g45 mn ml mv 0 gi14 gi18 gi29 gi30 (nI tt) gi40 gi43 p0) (cwV 1 hts gX8_fewest_X8_isLoss rfl rfl rfl (by decide +kernel) ⟨Nat.le_of_ble_eq_true rfl, Nat.le_of_ble_eq_true rfl⟩) (k_preV hE hP hD [0] (by decide +kernel) rfl 0 rfl rfl) rfl rfl hl.1 rfl (lv_room (Nat.le_of_ble_eq_true rfl)) dX8_fewest_7 ⟨Nat.le_of_ble_eq_true rfl, Nat.le_of_ble_eq_true rfl⟩) hP hD hS hA [0] rfl (fun _ _ ⟨_, h9⟩ => h9) (fun r1 H locs hw2 hP hD hS => ?_)
  obtain ⟨hb3, -⟩ := hw2
  refine lv_if_ne (tgt := 15) hx hb dX8_fewest_10 (by decide) (fun c4 => ?_) (fun c4 => ?_)
  · skip
    have hc4 : 0 ≤ p0 ∧ p0 ≤ nI ml - 1 := bz_1 hb3 c4
    obtain ⟨lj, hlj, elj⟩ := wi_n (by omega) hc4
    rw [elj] at hl
    refine lv_aload_n hx hb dX8_fewest_15 rfl (lv_at hl 0 rfl) ?_
    refine lv_iload_n hx hb dX8_fewest_16 rfl (lv_at hl 1 rfl) ?_
    refine lv_aload_n hx hb dX8_fewest_17 rfl (lv_at hl 0 rfl) ?_
    refine k_iS (va_runV (As := []) (rest := [.int (nI lj), .ref g]) ⟨hx, hb, hml, hown, hts⟩ (m_X8_all l D cI cJ H.size g g2 g3 g4 g5 g6 g7 g8 g9 g10 g12 g13 g15 g16 g17 g19 g20 g21 g22 g23 g24 g25 g26 g27 g28 g33 g34 g35 g36 g37 g38 g39 g41 g42 g44 g45 mn ml mv 0 gi14 gi18 gi29 gi30 (nI tt) gi40 gi43 hmn) (cwV 0 hts gX8_fewest_X8_all rfl rfl rfl (by decide +kernel) ⟨Nat.le_of_ble_eq_true rfl, Nat.le_of_ble_eq_true rfl⟩) (k_preV hE hP hD [0] (by decide +kernel) rfl 0 rfl rfl) rfl rfl hl.1 rfl (lv_room (Nat.le_of_ble_eq_true rfl)) dX8_fewest_18 ⟨Nat.le_of_ble_eq_true rfl, Nat.le_of_ble_eq_true rfl⟩) hP hD hS hA [0] rfl (fun _ _ ⟨_, h9⟩ => h9) (fun r5 H locs hw6 hP hD hS => ?_)
    obtain ⟨rfl, -⟩ := hw6
    refine k_v (va_runV (As := [.int (nI lj), .int (nI (2 ^ mn - 1))]) (rest := []) ⟨hx, hb, hml, hown, hts⟩ (m_X8_settlesTo l D cI cJ H.size g g2 g3 g4 g5 g6 g7 g8 g9 g10 g12 g13 g15 g16 g17 g19 g20 g21 g22 g23 g24 g25 g26 g27 g28 g33 g34 g35 g36 g37 g38 g39 g41 g42 g44 g45 mn ml mv tt (lj + 1) 0 gi14 gi18 gi29 gi30 gi40 gi43 (nI lj) (nI (2 ^ mn - 1)) G2 G3 G4 G5 G6 G7 G8 G10 G12 G13 G19 G20 G21 G22 G23 G24 G25 G26 G27 G28 G33 G34 G35 G36 G37 li0 wo0 de0 ag0 (nI_pred lj).symm (by omega) hit hsu hliv hlib hwov hwob hdev hdeb hagv hagb hamt hLE hLO hLW hSH htt hmv) (cwV 2 hts gX8_fewest_X8_settlesTo rfl rfl rfl (by decide +kernel) ⟨Nat.le_of_ble_eq_true rfl, Nat.le_of_ble_eq_true rfl⟩) (k_preV hE hP hD [0, 1, 2, 3, 4, 5, 6, 7, 8, 9, 10, 11, 12, 13, 14, 15, 16, 17, 18, 19, 20, 21, 22, 23, 24, 25] (by decide +kernel) rfl 0 rfl rfl) rfl rfl hl.1 rfl (lv_room (Nat.le_of_ble_eq_true rfl)) dX8_fewest_21 ⟨Nat.le_of_ble_eq_true rfl, Nat.le_of_ble_eq_true rfl⟩) hP hD hS hA [0, 1, 2, 3, 4, 5, 6, 7, 8, 9, 10, 11, 12, 13, 14, 15, 16, 17, 18, 19, 20, 21, 22, 23, 24, 25] [] rfl (wr := []) rfl (by decide +kernel) (by decide +kernel) (fun u H locs hw7 hP hD hS => ?_)
    obtain ⟨z8, z9, z10, z11, z12, z13, z14, z15, z16, z17, z18, z19, z20, z21, z22, z23, z24, z25, z26, z27, hz28, hz29, hz30, hz31, hz32, hz33, hz34, rfl⟩ := hw7
    refine k_re (w := [(oX8 g 0 (nI mn) g2 g3 g4 g5 g6 g7 g8 g9 g10 (nI ml) g12 g13 gi14 g15 g16 g17 z25 g19 g20 g21 g22 g23 g24 g25 g26 g27 g28 z23 z24 (nI z26) (nI z27) g33 g34 g35 g36 g37 g38 g39 gi40 g41 g42 gi43 g44 g45), (aIc cI g2 8 G2), (aIc cI g3 8 G3), (aIc cI g4 8 G4), (aIc cI g5 8 G5), (aIc cI g6 8 G6), (aIc cI g7 8 G7), (aIc cI g8 8 G8), (aIc cI g10 64 G10), (aIc cI g12 10 G12), (aIc cI g13 10 G13), (aIc cI g19 8 z8), (aIc cI g20 8 z9), (aIc cI g21 8 z10), (aIc cI g22 8 z11), (aIc cI g23 8 z12), (aIc cI g24 8 z13), (aIc cI g25 8 z14), (aIc cI g26 8 z15), (aIc cI g27 8 z16), (aIc cI g28 8 z17), (aIc cI g33 8 z18), (aIc cI g34 8 z19), (aIc cI g35 8 z20), (aIc cI g36 8 z21), (aJc cJ g37 8 z22)]) hP hD (fun hP hD => ?_)
    refine lv_iconst (v := (-1)) hx hb dX8_fewest_24 (by decide) ?_
    refine lv_istore_n (lv' := [(3, .int (-1)), (0, .ref g), (1, .int (nI lj)), (2, .int p1)]) hx hb dX8_fewest_25 rfl hl (by decide) rfl (fun ls hl => ?_)
    refine lv_iconst (v := 0) hx hb dX8_fewest_26 (by decide) ?_
    refine lv_istore (lv' := [(4, .int 0), (3, .int (-1)), (0, .ref g), (1, .int (nI lj)), (2, .int p1)]) hx hb dX8_fewest_27 hl (by decide) rfl (fun ls hl => ?_)
    have J29 : ∀ (zz : Nat) (i29 : Nat) (h3_29 : Int32), (i29 ≤ 2 ^ mn) → (2 ^ mn - i29) < zz → ∀ (H : Heap) (locs : List Loc) (ls : Array Slot), va_P D vwCl [(oX8 g 0 (nI mn) g2 g3 g4 g5 g6 g7 g8 g9 g10 (nI ml) g12 g13 gi14 g15 g16 g17 z25 g19 g20 g21 g22 g23 g24 g25 g26 g27 g28 z23 z24 (nI z26) (nI z27) g33 g34 g35 g36 g37 g38 g39 gi40 g41 g42 gi43 g44 g45), (aIc cI g2 8 G2), (aIc cI g3 8 G3), (aIc cI g4 8 G4), (aIc cI g5 8 G5), (aIc cI g6 8 G6), (aIc cI g7 8 G7), (aIc cI g8 8 G8), (aIc cI g10 64 G10), (aIc cI g12 10 G12), (aIc cI g13 10 G13), (aIc cI g19 8 z8), (aIc cI g20 8 z9), (aIc cI g21 8 z10), (aIc cI g22 8 z11), (aIc cI g23 8 z12), (aIc cI g24 8 z13), (aIc cI g25 8 z14), (aIc cI g26 8 z15), (aIc cI g27 8 z16), (aIc cI g28 8 z17), (aIc cI g33 8 z18), (aIc cI g34 8 z19), (aIc cI g35 8 z20), (aIc cI g36 8 z21), (aJc cJ g37 8 z22)] H → va_D A [(oX8 g 0 (nI mn) g2 g3 g4 g5 g6 g7 g8 g9 g10 (nI ml) g12 g13 gi14 g15 g16 g17 z25 g19 g20 g21 g22 g23 g24 g25 g26 g27 g28 z23 z24 (nI z26) (nI z27) g33 g34 g35 g36 g37 g38 g39 gi40 g41 g42 gi43 g44 g45), (aIc cI g2 8 G2), (aIc cI g3 8 G3), (aIc cI g4 8 G4), (aIc cI g5 8 G5), (aIc cI g6 8 G6), (aIc cI g7 8 G7), (aIc cI g8 8 G8), (aIc cI g10 64 G10), (aIc cI g12 10 G12), (aIc cI g13 10 G13), (aIc cI g19 8 z8), (aIc cI g20 8 z9), (aIc cI g21 8 z10), (aIc cI g22 8 z11), (aIc cI g23 8 z12), (aIc cI g24 8 z13), (aIc cI g25 8 z14), (aIc cI g26 8 z15), (aIc cI g27 8 z16), (aIc cI g28 8 z17), (aIc cI g33 8 z18), (aIc cI g34 8 z19), (aIc cI g35 8 z20), (aIc cI g36 8 z21), (aJc cJ g37 8 z22)] → va_S A s.heap H locs → lv_has ls 8 [(4, .int (nI i29)), (3, .int h3_29), (0, .ref g), (1, .int (nI lj)), (2, .int p1)] → W p l e { frames := 8, cells := 0, slots := 0, locals := 189 } s m [.ref g, .int p0, .int p1].toArray below meth c H locs 0 0 (MQ below (cQi D (fun r u => ∃ (G19p G20p G21p G22p G23p G24p G25p G26p G27p G28p G33p G34p G35p G36p : Nat → Int32) (G37p : Nat → Int64) (gi29p gi30p gi18p : Int32) (mvp ttp : Nat) (gi0p : Int32), (LE G19p) ∧ (LO G20p) ∧ (LW G25p) ∧ (SH G27p ttp) ∧ (ttp ≤ 1000000) ∧ (mvp ≤ 8) ∧ u = [(oX8 g gi0p (nI mn) g2 g3 g4 g5 g6 g7 g8 g9 g10 (nI ml) g12 g13 gi14 g15 g16 g17 gi18p g19 g20 g21 g22 g23 g24 g25 g26 g27 g28 gi29p gi30p (nI mvp) (nI ttp) g33 g34 g35 g36 g37 g38 g39 gi40 g41 g42 gi43 g44 g45), (aIc cI g2 8 G2), (aIc cI g3 8 G3), (aIc cI g4 8 G4), (aIc cI g5 8 G5), (aIc cI g6 8 G6), (aIc cI g7 8 G7), (aIc cI g8 8 G8), (aIc cI g10 64 G10), (aIc cI g12 10 G12), (aIc cI g13 10 G13), (aIc cI g19 8 G19p), (aIc cI g20 8 G20p), (aIc cI g21 8 G21p), (aIc cI g22 8 G22p), (aIc cI g23 8 G23p), (aIc cI g24 8 G24p), (aIc cI g25 8 G25p), (aIc cI g26 8 G26p), (aIc cI g27 8 G27p), (aIc cI g28 8 G28p), (aIc cI g33 8 G33p), (aIc cI g34 8 G34p), (aIc cI g35 8 G35p), (aIc cI g36 8 G36p), (aJc cJ g37 8 G37p)]) A) [.ref g, .int p0, .int p1].toArray s 0 0 A) (F0 m 29 ls []) := by
      intro zz
      induction zz with
      | zero => intro i29 h3_29 _; exact fun h => absurd h (Nat.not_lt_zero _)
      | succ zz ih29 =>
        intro i29 h3_29 hc4_29 hmu29 H locs ls hP hD hS hl
        refine lv_iload hx hb dX8_fewest_29 (lv_at hl 0 rfl) ?_
        refine lv_aload_n hx hb dX8_fewest_31 rfl (lv_at hl 2 rfl) ?_
        refine k_iS (va_runV (As := []) (rest := [.int (nI i29)]) ⟨hx, hb, hml, hown, hts⟩ (m_X8_all l D cI cJ H.size g g2 g3 g4 g5 g6 g7 g8 g9 g10 g12 g13 g15 g16 g17 g19 g20 g21 g22 g23 g24 g25 g26 g27 g28 g33 g34 g35 g36 g37 g38 g39 g41 g42 g44 g45 mn ml z26 0 gi14 z25 z23 z24 (nI z27) gi40 gi43 hmn) (cwV 0 hts gX8_fewest_X8_all rfl rfl rfl (by decide +kernel) ⟨Nat.le_of_ble_eq_true rfl, Nat.le_of_ble_eq_true rfl⟩) (k_preV hE hP hD [0] (by decide +kernel) rfl 0 rfl rfl) rfl rfl hl.1 rfl (lv_room (Nat.le_of_ble_eq_true rfl)) dX8_fewest_32 ⟨Nat.le_of_ble_eq_true rfl, Nat.le_of_ble_eq_true rfl⟩) hP hD hS hA [0] rfl (fun _ _ ⟨_, h9⟩ => h9) (fun r35 H locs hw36 hP hD hS => ?_)
        obtain ⟨rfl, -⟩ := hw36
        refine lv_icmp_gt (tgt := 144) hx hb dX8_fewest_35 (by decide) (fun c37 => ?_) (fun c37 => ?_)
        · skip
          have nc37 : 2 ^ mn - 1 < i29 := (nI_ltI (a := (2 ^ mn - 1)) (b := i29) (by omega) (by omega)).mp c37
          refine lv_iload_n hx hb dX8_fewest_144 rfl (lv_at hl 4 rfl) ?_
          refine lv_if_eq (tgt := 152) hx hb dX8_fewest_145 (by decide) (fun c38 => ?_) (fun c38 => ?_)
          · skip
            refine lv_iload_n hx hb dX8_fewest_152 rfl (lv_at hl 1 rfl) ?_
            refine k_iS (va_runS (As := [.int h3_29]) (rest := []) ⟨hx, hb, hml, hown, hts⟩ (m_X8_bits l D cI cJ H.size h3_29) (va_cwS 1 hts gX8_fewest_X8_bits rfl rfl rfl (by decide +kernel) ⟨Nat.le_of_ble_eq_true rfl, Nat.le_of_ble_eq_true rfl⟩) (k_pre hE hP hD [] (by decide +kernel) rfl) rfl rfl hl.1 rfl (lv_room (Nat.le_of_ble_eq_true rfl)) dX8_fewest_153 ⟨Nat.le_of_ble_eq_true rfl, Nat.le_of_ble_eq_true rfl⟩) hP hD hS hA [] rfl (fun _ _ ⟨_, _, _, h9⟩ => h9) (fun r39 H locs hw40 hP hD hS => ?_)
            obtain ⟨z41, hz42, rfl, -⟩ := hw40
            refine k_iret (u := [(oX8 g 0 (nI mn) g2 g3 g4 g5 g6 g7 g8 g9 g10 (nI ml) g12 g13 gi14 g15 g16 g17 z25 g19 g20 g21 g22 g23 g24 g25 g26 g27 g28 z23 z24 (nI z26) (nI z27) g33 g34 g35 g36 g37 g38 g39 gi40 g41 g42 gi43 g44 g45), (aIc cI g2 8 G2), (aIc cI g3 8 G3), (aIc cI g4 8 G4), (aIc cI g5 8 G5), (aIc cI g6 8 G6), (aIc cI g7 8 G7), (aIc cI g8 8 G8), (aIc cI g10 64 G10), (aIc cI g12 10 G12), (aIc cI g13 10 G13), (aIc cI g19 8 z8), (aIc cI g20 8 z9), (aIc cI g21 8 z10), (aIc cI g22 8 z11), (aIc cI g23 8 z12), (aIc cI g24 8 z13), (aIc cI g25 8 z14), (aIc cI g26 8 z15), (aIc cI g27 8 z16), (aIc cI g28 8 z17), (aIc cI g33 8 z18), (aIc cI g34 8 z19), (aIc cI g35 8 z20), (aIc cI g36 8 z21), (aJc cJ g37 8 z22)]) hx hb hr hlk hP hD hS dX8_fewest_156 ?_
            exact ⟨z8, z9, z10, z11, z12, z13, z14, z15, z16, z17, z18, z19, z20, z21, z22, z23, z24, z25, z26, z27, 0, hz28, hz29, hz30, hz31, hz32, hz33, rfl⟩
          · skip
            refine lv_iload_n hx hb dX8_fewest_148 rfl (lv_at hl 1 rfl) ?_
            refine lv_goto (tgt := 156) hx hb dX8_fewest_149 (by decide) ?_
            refine k_iret (u := [(oX8 g 0 (nI mn) g2 g3 g4 g5 g6 g7 g8 g9 g10 (nI ml) g12 g13 gi14 g15 g16 g17 z25 g19 g20 g21 g22 g23 g24 g25 g26 g27 g28 z23 z24 (nI z26) (nI z27) g33 g34 g35 g36 g37 g38 g39 gi40 g41 g42 gi43 g44 g45), (aIc cI g2 8 G2), (aIc cI g3 8 G3), (aIc cI g4 8 G4), (aIc cI g5 8 G5), (aIc cI g6 8 G6), (aIc cI g7 8 G7), (aIc cI g8 8 G8), (aIc cI g10 64 G10), (aIc cI g12 10 G12), (aIc cI g13 10 G13), (aIc cI g19 8 z8), (aIc cI g20 8 z9), (aIc cI g21 8 z10), (aIc cI g22 8 z11), (aIc cI g23 8 z12), (aIc cI g24 8 z13), (aIc cI g25 8 z14), (aIc cI g26 8 z15), (aIc cI g27 8 z16), (aIc cI g28 8 z17), (aIc cI g33 8 z18), (aIc cI g34 8 z19), (aIc cI g35 8 z20), (aIc cI g36 8 z21), (aJc cJ g37 8 z22)]) hx hb hr hlk hP hD hS dX8_fewest_156 ?_
            exact ⟨z8, z9, z10, z11, z12, z13, z14, z15, z16, z17, z18, z19, z20, z21, z22, z23, z24, z25, z26, z27, 0, hz28, hz29, hz30, hz31, hz32, hz33, rfl⟩
        · skip
          have nc37 : ¬ 2 ^ mn - 1 < i29 := fun q9 => c37 ((nI_ltI (a := (2 ^ mn - 1)) (b := i29) (by omega) (by omega)).mpr q9)
          refine lv_lconst (v := 0) hx hb dX8_fewest_38 (by decide) ?_
          refine lv_lstore (lv' := [(5, .long 0), (4, .int (nI i29)), (3, .int h3_29), (0, .ref g), (1, .int (nI lj)), (2, .int p1)]) hx hb dX8_fewest_39 hl (by decide) rfl (fun ls hl => ?_)
          refine lv_iconst (v := 0) hx hb dX8_fewest_41 (by decide) ?_
          refine lv_istore (lv' := [(7, .int 0), (5, .long 0), (4, .int (nI i29)), (3, .int h3_29), (0, .ref g), (1, .int (nI lj)), (2, .int p1)]) hx hb dX8_fewest_42 hl (by decide) rfl (fun ls hl => ?_)
          have J44 : ∀ (zz : Nat) (j44 : Nat) (h5_44 : Int64), (j44 ≤ mn) → (mn - j44) < zz → ∀ (H : Heap) (locs : List Loc) (ls : Array Slot), va_P D vwCl [(oX8 g 0 (nI mn) g2 g3 g4 g5 g6 g7 g8 g9 g10 (nI ml) g12 g13 gi14 g15 g16 g17 z25 g19 g20 g21 g22 g23 g24 g25 g26 g27 g28 z23 z24 (nI z26) (nI z27) g33 g34 g35 g36 g37 g38 g39 gi40 g41 g42 gi43 g44 g45), (aIc cI g2 8 G2), (aIc cI g3 8 G3), (aIc cI g4 8 G4), (aIc cI g5 8 G5), (aIc cI g6 8 G6), (aIc cI g7 8 G7), (aIc cI g8 8 G8), (aIc cI g10 64 G10), (aIc cI g12 10 G12), (aIc cI g13 10 G13), (aIc cI g19 8 z8), (aIc cI g20 8 z9), (aIc cI g21 8 z10), (aIc cI g22 8 z11), (aIc cI g23 8 z12), (aIc cI g24 8 z13), (aIc cI g25 8 z14), (aIc cI g26 8 z15), (aIc cI g27 8 z16), (aIc cI g28 8 z17), (aIc cI g33 8 z18), (aIc cI g34 8 z19), (aIc cI g35 8 z20), (aIc cI g36 8 z21), (aJc cJ g37 8 z22)] H → va_D A [(oX8 g 0 (nI mn) g2 g3 g4 g5 g6 g7 g8 g9 g10 (nI ml) g12 g13 gi14 g15 g16 g17 z25 g19 g20 g21 g22 g23 g24 g25 g26 g27 g28 z23 z24 (nI z26) (nI z27) g33 g34 g35 g36 g37 g38 g39 gi40 g41 g42 gi43 g44 g45), (aIc cI g2 8 G2), (aIc cI g3 8 G3), (aIc cI g4 8 G4), (aIc cI g5 8 G5), (aIc cI g6 8 G6), (aIc cI g7 8 G7), (aIc cI g8 8 G8), (aIc cI g10 64 G10), (aIc cI g12 10 G12), (aIc cI g13 10 G13), (aIc cI g19 8 z8), (aIc cI g20 8 z9), (aIc cI g21 8 z10), (aIc cI g22 8 z11), (aIc cI g23 8 z12), (aIc cI g24 8 z13), (aIc cI g25 8 z14), (aIc cI g26 8 z15), (aIc cI g27 8 z16), (aIc cI g28 8 z17), (aIc cI g33 8 z18), (aIc cI g34 8 z19), (aIc cI g35 8 z20), (aIc cI g36 8 z21), (aJc cJ g37 8 z22)] → va_S A s.heap H locs → lv_has ls 8 [(7, .int (nI j44)), (5, .long h5_44), (4, .int (nI i29)), (3, .int h3_29), (0, .ref g), (1, .int (nI lj)), (2, .int p1)] → W p l e { frames := 8, cells := 0, slots := 0, locals := 189 } s m [.ref g, .int p0, .int p1].toArray below meth c H locs 0 0 (MQ below (cQi D (fun r u => ∃ (G19p G20p G21p G22p G23p G24p G25p G26p G27p G28p G33p G34p G35p G36p : Nat → Int32) (G37p : Nat → Int64) (gi29p gi30p gi18p : Int32) (mvp ttp : Nat) (gi0p : Int32), (LE G19p) ∧ (LO G20p) ∧ (LW G25p) ∧ (SH G27p ttp) ∧ (ttp ≤ 1000000) ∧ (mvp ≤ 8) ∧ u = [(oX8 g gi0p (nI mn) g2 g3 g4 g5 g6 g7 g8 g9 g10 (nI ml) g12 g13 gi14 g15 g16 g17 gi18p g19 g20 g21 g22 g23 g24 g25 g26 g27 g28 gi29p gi30p (nI mvp) (nI ttp) g33 g34 g35 g36 g37 g38 g39 gi40 g41 g42 gi43 g44 g45), (aIc cI g2 8 G2), (aIc cI g3 8 G3), (aIc cI g4 8 G4), (aIc cI g5 8 G5), (aIc cI g6 8 G6), (aIc cI g7 8 G7), (aIc cI g8 8 G8), (aIc cI g10 64 G10), (aIc cI g12 10 G12), (aIc cI g13 10 G13), (aIc cI g19 8 G19p), (aIc cI g20 8 G20p), (aIc cI g21 8 G21p), (aIc cI g22 8 G22p), (aIc cI g23 8 G23p), (aIc cI g24 8 G24p), (aIc cI g25 8 G25p), (aIc cI g26 8 G26p), (aIc cI g27 8 G27p), (aIc cI g28 8 G28p), (aIc cI g33 8 G33p), (aIc cI g34 8 G34p), (aIc cI g35 8 G35p), (aIc cI g36 8 G36p), (aJc cJ g37 8 G37p)]) A) [.ref g, .int p0, .int p1].toArray s 0 0 A) (F0 m 44 ls []) := by
            intro zz
            induction zz with
            | zero => intro j44 h5_44 _; exact fun h => absurd h (Nat.not_lt_zero _)
            | succ zz ih44 =>
              intro j44 h5_44 hc7_44 hmu44 H locs ls hP hD hS hl
              refine lv_iload hx hb dX8_fewest_44 (lv_at hl 0 rfl) ?_
              refine lv_aload_n hx hb dX8_fewest_46 rfl (lv_at hl 4 rfl) ?_
              refine va_get (D := D) (ci := 8) (v := .int (nI mn)) (C := RX8) (T := TX8) (N := 46) hx hb hts hiX8 hown hE.1 hP 0 rfl rfl 1 (by decide) (hts _ (List.mem_cons_of_mem _ wd_176)) (fun _ h9 => h9) rfl dX8_fewest_47 ?_
              refine lv_icmp_ge (tgt := 107) hx hb dX8_fewest_50 (by decide) (fun c43 => ?_) (fun c43 => ?_)
              · skip
                have nc43 : mn ≤ j44 := (nI_leI (a := mn) (b := j44) (by omega) (by omega)).mp c43
                refine lv_lload hx hb dX8_fewest_107 (lv_at hl 1 rfl) ?_
                refine lv_aload_n hx hb dX8_fewest_109 rfl (lv_at hl 4 rfl) ?_
                refine va_get (D := D) (ci := 8) (v := .int (nI z27)) (C := RX8) (T := TX8) (N := 46) hx hb hts hiX8 hown hE.1 hP 0 rfl rfl 32 (by decide) (hts _ (List.mem_cons_of_mem _ wd_412)) (fun _ h9 => h9) rfl dX8_fewest_110 ?_
                refine lv_i2l hx hb dX8_fewest_113 rfl ?_
                refine k_lcmp_lt (tgt := 138) hx hb dX8_fewest_114 dX8_fewest_115 (by decide) (fun c44 => ?_) (fun c44 => ?_)
                · skip
                  refine lv_iinc (v := (nI (i29 + 1))) (lv' := [(4, .int (nI (i29 + 1))), (7, .int (nI j44)), (5, .long h5_44), (3, .int h3_29), (0, .ref g), (1, .int (nI lj)), (2, .int p1)]) hx hb dX8_fewest_138 hl (k := 2) rfl (nI_1 _) (by decide) rfl (fun ls hl => ?_)
                  refine lv_goto (tgt := 29) hx hb dX8_fewest_141 (by decide) ?_
                  exact ih29 (i29 + 1) h3_29 (by omega) (by omega) _ _ _ hP hD hS (lv_sub hl [0, 3, 4, 5, 6] rfl)
                · skip
                  refine lv_iload_n hx hb dX8_fewest_118 rfl (lv_at hl 3 rfl) ?_
                  refine lv_iconst (v := (-1)) hx hb dX8_fewest_119 (by decide) ?_
                  refine lv_icmp_eq (tgt := 135) hx hb dX8_fewest_120 (by decide) (fun c45 => ?_) (fun c45 => ?_)
                  · skip
                    refine lv_iload hx hb dX8_fewest_135 (lv_at hl 2 rfl) ?_
                    refine lv_istore_n (lv' := [(3, .int (nI i29)), (7, .int (nI j44)), (5, .long h5_44), (4, .int (nI i29)), (0, .ref g), (1, .int (nI lj)), (2, .int p1)]) hx hb dX8_fewest_137 rfl hl (by decide) rfl (fun ls hl => ?_)
                    refine lv_iinc (v := (nI (i29 + 1))) (lv' := [(4, .int (nI (i29 + 1))), (3, .int (nI i29)), (7, .int (nI j44)), (5, .long h5_44), (0, .ref g), (1, .int (nI lj)), (2, .int p1)]) hx hb dX8_fewest_138 hl (k := 3) rfl (nI_1 _) (by decide) rfl (fun ls hl => ?_)
                    refine lv_goto (tgt := 29) hx hb dX8_fewest_141 (by decide) ?_
                    exact ih29 (i29 + 1) (nI i29) (by omega) (by omega) _ _ _ hP hD hS (lv_sub hl [0, 1, 4, 5, 6] rfl)
                  · skip
                    refine lv_iload hx hb dX8_fewest_123 (lv_at hl 2 rfl) ?_
                    refine k_iS (va_runS (As := [.int (nI i29)]) (rest := []) ⟨hx, hb, hml, hown, hts⟩ (m_X8_bits l D cI cJ H.size (nI i29)) (va_cwS 1 hts gX8_fewest_X8_bits rfl rfl rfl (by decide +kernel) ⟨Nat.le_of_ble_eq_true rfl, Nat.le_of_ble_eq_true rfl⟩) (k_pre hE hP hD [] (by decide +kernel) rfl) rfl rfl hl.1 rfl (lv_room (Nat.le_of_ble_eq_true rfl)) dX8_fewest_125 ⟨Nat.le_of_ble_eq_true rfl, Nat.le_of_ble_eq_true rfl⟩) hP hD hS hA [] rfl (fun _ _ ⟨_, _, _, h9⟩ => h9) (fun r46 H locs hw47 hP hD hS => ?_)
                    obtain ⟨z48, hz49, rfl, -⟩ := hw47
                    refine lv_iload_n hx hb dX8_fewest_128 rfl (lv_at hl 3 rfl) ?_
                    refine k_iS (va_runS (As := [.int h3_29]) (rest := [.int (nI z48)]) ⟨hx, hb, hml, hown, hts⟩ (m_X8_bits l D cI cJ H.size h3_29) (va_cwS 1 hts gX8_fewest_X8_bits rfl rfl rfl (by decide +kernel) ⟨Nat.le_of_ble_eq_true rfl, Nat.le_of_ble_eq_true rfl⟩) (k_pre hE hP hD [] (by decide +kernel) rfl) rfl rfl hl.1 rfl (lv_room (Nat.le_of_ble_eq_true rfl)) dX8_fewest_129 ⟨Nat.le_of_ble_eq_true rfl, Nat.le_of_ble_eq_true rfl⟩) hP hD hS hA [] rfl (fun _ _ ⟨_, _, _, h9⟩ => h9) (fun r50 H locs hw51 hP hD hS => ?_)
                    obtain ⟨z52, hz53, rfl, -⟩ := hw51
                    refine lv_icmp_ge (tgt := 138) hx hb dX8_fewest_132 (by decide) (fun c54 => ?_) (fun c54 => ?_)
                    · skip
                      have nc54 : z52 ≤ z48 := (nI_leI (a := z52) (b := z48) (by omega) (by omega)).mp c54
                      refine lv_iinc (v := (nI (i29 + 1))) (lv' := [(4, .int (nI (i29 + 1))), (7, .int (nI j44)), (5, .long h5_44), (3, .int h3_29), (0, .ref g), (1, .int (nI lj)), (2, .int p1)]) hx hb dX8_fewest_138 hl (k := 2) rfl (nI_1 _) (by decide) rfl (fun ls hl => ?_)
                      refine lv_goto (tgt := 29) hx hb dX8_fewest_141 (by decide) ?_
                      exact ih29 (i29 + 1) h3_29 (by omega) (by omega) _ _ _ hP hD hS (lv_sub hl [0, 3, 4, 5, 6] rfl)
                    · skip
                      have nc54 : ¬ z52 ≤ z48 := fun q9 => c54 ((nI_leI (a := z52) (b := z48) (by omega) (by omega)).mpr q9)
                      refine lv_iload hx hb dX8_fewest_135 (lv_at hl 2 rfl) ?_
                      refine lv_istore_n (lv' := [(3, .int (nI i29)), (7, .int (nI j44)), (5, .long h5_44), (4, .int (nI i29)), (0, .ref g), (1, .int (nI lj)), (2, .int p1)]) hx hb dX8_fewest_137 rfl hl (by decide) rfl (fun ls hl => ?_)
                      refine lv_iinc (v := (nI (i29 + 1))) (lv' := [(4, .int (nI (i29 + 1))), (3, .int (nI i29)), (7, .int (nI j44)), (5, .long h5_44), (0, .ref g), (1, .int (nI lj)), (2, .int p1)]) hx hb dX8_fewest_138 hl (k := 3) rfl (nI_1 _) (by decide) rfl (fun ls hl => ?_)
                      refine lv_goto (tgt := 29) hx hb dX8_fewest_141 (by decide) ?_
                      exact ih29 (i29 + 1) (nI i29) (by omega) (by omega) _ _ _ hP hD hS (lv_sub hl [0, 1, 4, 5, 6] rfl)
              · skip
                have nc43 : ¬ mn ≤ j44 := fun q9 => c43 ((nI_leI (a := mn) (b := j44) (by omega) (by omega)).mpr q9)
                refine lv_lload hx hb dX8_fewest_53 (lv_at hl 1 rfl) ?_
                refine lv_iload hx hb dX8_fewest_55 (lv_at hl 2 rfl) ?_
                refine lv_iload hx hb dX8_fewest_57 (lv_at hl 0 rfl) ?_
                refine k_iS (va_runS (As := [.int (nI i29), .int (nI j44)]) (rest := [.long h5_44]) ⟨hx, hb, hml, hown, hts⟩ (m_X8_isOn l D cI cJ H.size (nI i29) (nI j44)) (va_cwS 2 hts gX8_fewest_X8_isOn rfl rfl rfl (by decide +kernel) ⟨Nat.le_of_ble_eq_true rfl, Nat.le_of_ble_eq_true rfl⟩) (k_pre hE hP hD [] (by decide +kernel) rfl) rfl rfl hl.1 rfl (lv_room (Nat.le_of_ble_eq_true rfl)) dX8_fewest_59 ⟨Nat.le_of_ble_eq_true rfl, Nat.le_of_ble_eq_true rfl⟩) hP hD hS hA [] rfl (fun _ _ h9 => h9.2) (fun r55 H locs hw56 hP hD hS => ?_)
                obtain ⟨hw56, -⟩ := hw56
                refine lv_if_ne (tgt := 69) hx hb dX8_fewest_62 (by decide) (fun c57 => ?_) (fun c57 => ?_)
                · skip
                  have hc57 : ((nI i29) >>> ((nI j44) &&& 31)) &&& 1 = 1 := bz_1 hw56 c57
                  refine lv_aload_n hx hb dX8_fewest_69 rfl (lv_at hl 4 rfl) ?_
                  refine va_get (D := D) (ci := 8) (v := .ref g7) (C := RX8) (T := TX8) (N := 46) hx hb hts hiX8 hown hE.1 hP 0 rfl rfl 7 (by decide) (hts _ (List.mem_cons_of_mem _ wd_121)) (fun _ h9 => h9) rfl dX8_fewest_70 ?_
                  refine lv_iload hx hb dX8_fewest_73 (lv_at hl 0 rfl) ?_
                  refine va_iald hx hb hE.1 hP 6 0 rfl rfl (vp_in_nI (n := j44) (by omega) (by decide)) dX8_fewest_75 ?_
                  refine lv_topi (fun v58 ev58 => ?_)
                  refine lv_if_ne (tgt := 90) hx hb dX8_fewest_76 (by decide) (fun c59 => ?_) (fun c59 => ?_)
                  · skip
                    refine lv_aload_n hx hb dX8_fewest_90 rfl (lv_at hl 4 rfl) ?_
                    refine va_get (D := D) (ci := 8) (v := .ref g27) (C := RX8) (T := TX8) (N := 46) hx hb hts hiX8 hown hE.1 hP 0 rfl rfl 27 (by decide) (hts _ (List.mem_cons_of_mem _ wd_138)) (fun _ h9 => h9) rfl dX8_fewest_91 ?_
                    refine lv_iload hx hb dX8_fewest_94 (lv_at hl 0 rfl) ?_
                    refine va_iald hx hb hE.1 hP 19 0 rfl rfl (vp_in_nI (n := j44) (by omega) (by decide)) dX8_fewest_96 ?_
                    refine lv_topi (fun v60 ev60 => ?_)
                    refine lv_i2l hx hb dX8_fewest_97 rfl ?_
                    refine lv_ladd hx hb dX8_fewest_98 ?_
                    refine lv_topl (fun v61 ev61 => ?_)
                    refine lv_lstore (lv' := [(5, .long v61), (7, .int (nI j44)), (4, .int (nI i29)), (3, .int h3_29), (0, .ref g), (1, .int (nI lj)), (2, .int p1)]) hx hb dX8_fewest_99 hl (by decide) rfl (fun ls hl => ?_)
                    refine lv_iinc (v := (nI (j44 + 1))) (lv' := [(7, .int (nI (j44 + 1))), (5, .long v61), (4, .int (nI i29)), (3, .int h3_29), (0, .ref g), (1, .int (nI lj)), (2, .int p1)]) hx hb dX8_fewest_101 hl (k := 1) rfl (nI_1 _) (by decide) rfl (fun ls hl => ?_)
                    refine lv_goto (tgt := 44) hx hb dX8_fewest_104 (by decide) ?_
                    exact ih44 (j44 + 1) v61 (by omega) (by omega) _ _ _ hP hD hS (lv_sub hl [0, 1, 2, 3, 4, 5, 6] rfl)
                  · skip
                    refine lv_aload_n hx hb dX8_fewest_79 rfl (lv_at hl 4 rfl) ?_
                    refine va_get (D := D) (ci := 8) (v := .ref g20) (C := RX8) (T := TX8) (N := 46) hx hb hts hiX8 hown hE.1 hP 0 rfl rfl 20 (by decide) (hts _ (List.mem_cons_of_mem _ wd_131)) (fun _ h9 => h9) rfl dX8_fewest_80 ?_
                    refine lv_iload hx hb dX8_fewest_83 (lv_at hl 0 rfl) ?_
                    refine va_iald hx hb hE.1 hP 12 0 rfl rfl (vp_in_nI (n := j44) (by omega) (by decide)) dX8_fewest_85 ?_
                    refine lv_topi (fun v62 ev62 => ?_)
                    refine lv_i2l hx hb dX8_fewest_86 rfl ?_
                    refine lv_goto (tgt := 98) hx hb dX8_fewest_87 (by decide) ?_
                    refine lv_ladd hx hb dX8_fewest_98 ?_
                    refine lv_topl (fun v63 ev63 => ?_)
                    refine lv_lstore (lv' := [(5, .long v63), (7, .int (nI j44)), (4, .int (nI i29)), (3, .int h3_29), (0, .ref g), (1, .int (nI lj)), (2, .int p1)]) hx hb dX8_fewest_99 hl (by decide) rfl (fun ls hl => ?_)
                    refine lv_iinc (v := (nI (j44 + 1))) (lv' := [(7, .int (nI (j44 + 1))), (5, .long v63), (4, .int (nI i29)), (3, .int h3_29), (0, .ref g), (1, .int (nI lj)), (2, .int p1)]) hx hb dX8_fewest_101 hl (k := 1) rfl (nI_1 _) (by decide) rfl (fun ls hl => ?_)
                    refine lv_goto (tgt := 44) hx hb dX8_fewest_104 (by decide) ?_
                    exact ih44 (j44 + 1) v63 (by omega) (by omega) _ _ _ hP hD hS (lv_sub hl [0, 1, 2, 3, 4, 5, 6] rfl)
                · skip
                  have hc57 : ¬ (((nI i29) >>> ((nI j44) &&& 31)) &&& 1 = 1) := bz_0 hw56 c57
                  refine lv_lconst (v := 0) hx hb dX8_fewest_65 (by decide) ?_
                  refine lv_goto (tgt := 98) hx hb dX8_fewest_66 (by decide) ?_
                  refine lv_ladd hx hb dX8_fewest_98 ?_
                  refine lv_topl (fun v64 ev64 => ?_)
                  refine lv_lstore (lv' := [(5, .long v64), (7, .int (nI j44)), (4, .int (nI i29)), (3, .int h3_29), (0, .ref g), (1, .int (nI lj)), (2, .int p1)]) hx hb dX8_fewest_99 hl (by decide) rfl (fun ls hl => ?_)
                  refine lv_iinc (v := (nI (j44 + 1))) (lv' := [(7, .int (nI (j44 + 1))), (5, .long v64), (4, .int (nI i29)), (3, .int h3_29), (0, .ref g), (1, .int (nI lj)), (2, .int p1)]) hx hb dX8_fewest_101 hl (k := 1) rfl (nI_1 _) (by decide) rfl (fun ls hl => ?_)
                  refine lv_goto (tgt := 44) hx hb dX8_fewest_104 (by decide) ?_
                  exact ih44 (j44 + 1) v64 (by omega) (by omega) _ _ _ hP hD hS (lv_sub hl [0, 1, 2, 3, 4, 5, 6] rfl)
          exact J44 _ 0 0 (by omega) (Nat.lt_succ_self _) _ _ _ hP hD hS (lv_sub hl [0, 1, 2, 3, 4, 5, 6] rfl)
    exact J29 _ 0 (-1) (by omega) (Nat.lt_succ_self _) _ _ _ hP hD hS (lv_sub hl [0, 1, 2, 3, 4] rfl)
  · skip
    have hc4 : ¬ (0 ≤ p0 ∧ p0 ≤ nI ml - 1) := bz_0 hb3 c4
    refine lv_iconst (v := (-1)) hx hb dX8_fewest_13 (by decide) ?_
    refine k_iret (u := [(oX8 g 0 (nI mn) g2 g3 g4 g5 g6 g7 g8 g9 g10 (nI ml) g12 g13 gi14 g15 g16 g17 gi18 g19 g20 g21 g22 g23 g24 g25 g26 g27 g28 gi29 gi30 (nI mv) (nI tt) g33 g34 g35 g36 g37 g38 g39 gi40 g41 g42 gi43 g44 g45), (aIc cI g2 8 G2), (aIc cI g3 8 G3), (aIc cI g4 8 G4), (aIc cI g5 8 G5), (aIc cI g6 8 G6), (aIc cI g7 8 G7), (aIc cI g8 8 G8), (aIc cI g10 64 G10), (aIc cI g12 10 G12), (aIc cI g13 10 G13), (aIc cI g19 8 G19), (aIc cI g20 8 G20), (aIc cI g21 8 G21), (aIc cI g22 8 G22), (aIc cI g23 8 G23), (aIc cI g24 8 G24), (aIc cI g25 8 G25), (aIc cI g26 8 G26), (aIc cI g27 8 G27), (aIc cI g28 8 G28), (aIc cI g33 8 G33), (aIc cI g34 8 G34), (aIc cI g35 8 G35), (aIc cI g36 8 G36), (aJc cJ g37 8 G37)]) hx hb hr hlk hP hD hS dX8_fewest_14 ?_
    exact ⟨G19, G20, G21, G22, G23, G24, G25, G26, G27, G28, G33, G34, G35, G36, G37, gi29, gi30, gi18, mv, tt, 0, hLE, hLO, hLW, hSH, htt, hmv, rfl⟩
theorem up_back {f : Nat → Int32} {i : Nat} {x v : Int32} (e : v = f i) : upd (upd f i x) i v = f := by
  funext k
  by_cases h : k = i
  · subst h; rw [pk_us, e]
  · rw [pk_un h, pk_un h]
theorem dX8_moved_0 : decode cX8_moved 0 = .ok (.aload_n 0, 1) := by decide +kernel
theorem dX8_moved_1 : decode cX8_moved 1 = .ok (.iload_n 1, 1) := by decide +kernel
theorem dX8_moved_2 : decode cX8_moved 2 = .ok (.iload_n 2, 1) := by decide +kernel
theorem dX8_moved_3 : decode cX8_moved 3 = .ok (.invokevirtual 264, 3) := by decide +kernel
theorem dX8_moved_6 : decode cX8_moved 6 = .ok (.ifCond .eq 15, 3) := by decide +kernel
theorem dX8_moved_9 : decode cX8_moved 9 = .ok (.iload_n 3, 1) := by decide +kernel
theorem dX8_moved_10 : decode cX8_moved 10 = .ok (.i2l, 1) := by decide +kernel
theorem dX8_moved_11 : decode cX8_moved 11 = .ok (.lconst 0, 1) := by decide +kernel
theorem dX8_moved_12 : decode cX8_moved 12 = .ok (.ldc2_w 144, 3) := by decide +kernel
theorem dX8_moved_15 : decode cX8_moved 15 = .ok (.invokestatic 123, 3) := by decide +kernel
theorem dX8_moved_18 : decode cX8_moved 18 = .ok (.ifCond .ne 5, 3) := by decide +kernel
theorem dX8_moved_21 : decode cX8_moved 21 = .ok (.iconst (-1), 1) := by decide +kernel
theorem dX8_moved_22 : decode cX8_moved 22 = .ok (.ireturn, 1) := by decide +kernel
theorem dX8_moved_23 : decode cX8_moved 23 = .ok (.iconst 0, 1) := by decide +kernel
theorem dX8_moved_24 : decode cX8_moved 24 = .ok (.istore 4, 2) := by decide +kernel
theorem dX8_moved_26 : decode cX8_moved 26 = .ok (.iload 4, 2) := by decide +kernel
theorem dX8_moved_28 : decode cX8_moved 28 = .ok (.bipush 8, 2) := by decide +kernel
theorem dX8_moved_30 : decode cX8_moved 30 = .ok (.if_icmp .ge 23, 3) := by decide +kernel
theorem dX8_moved_33 : decode cX8_moved 33 = .ok (.aload_n 0, 1) := by decide +kernel
theorem dX8_moved_34 : decode cX8_moved 34 = .ok (.getfield 113, 3) := by decide +kernel
theorem dX8_moved_37 : decode cX8_moved 37 = .ok (.iload 4, 2) := by decide +kernel
theorem dX8_moved_39 : decode cX8_moved 39 = .ok (.aload_n 0, 1) := by decide +kernel
theorem dX8_moved_40 : decode cX8_moved 40 = .ok (.getfield 76, 3) := by decide +kernel
theorem dX8_moved_43 : decode cX8_moved 43 = .ok (.iload 4, 2) := by decide +kernel
theorem dX8_moved_45 : decode cX8_moved 45 = .ok (.iaload, 1) := by decide +kernel
theorem dX8_moved_46 : decode cX8_moved 46 = .ok (.iastore, 1) := by decide +kernel
theorem dX8_moved_47 : decode cX8_moved 47 = .ok (.iinc 4 1, 3) := by decide +kernel
theorem dX8_moved_50 : decode cX8_moved 50 = .ok (.goto (-24), 3) := by decide +kernel
theorem dX8_moved_53 : decode cX8_moved 53 = .ok (.aload_n 0, 1) := by decide +kernel
theorem dX8_moved_54 : decode cX8_moved 54 = .ok (.getfield 25, 3) := by decide +kernel
theorem dX8_moved_57 : decode cX8_moved 57 = .ok (.iload_n 2, 1) := by decide +kernel
theorem dX8_moved_58 : decode cX8_moved 58 = .ok (.iaload, 1) := by decide +kernel
theorem dX8_moved_59 : decode cX8_moved 59 = .ok (.istore 4, 2) := by decide +kernel
theorem dX8_moved_61 : decode cX8_moved 61 = .ok (.aload_n 0, 1) := by decide +kernel
theorem dX8_moved_62 : decode cX8_moved 62 = .ok (.getfield 25, 3) := by decide +kernel
theorem dX8_moved_65 : decode cX8_moved 65 = .ok (.iload_n 2, 1) := by decide +kernel
theorem dX8_moved_66 : decode cX8_moved 66 = .ok (.iload_n 3, 1) := by decide +kernel
theorem dX8_moved_67 : decode cX8_moved 67 = .ok (.iastore, 1) := by decide +kernel
theorem dX8_moved_68 : decode cX8_moved 68 = .ok (.aload_n 0, 1) := by decide +kernel
theorem dX8_moved_69 : decode cX8_moved 69 = .ok (.iload_n 1, 1) := by decide +kernel
theorem dX8_moved_70 : decode cX8_moved 70 = .ok (.aload_n 0, 1) := by decide +kernel
theorem dX8_moved_71 : decode cX8_moved 71 = .ok (.invokevirtual 220, 3) := by decide +kernel
theorem dX8_moved_74 : decode cX8_moved 74 = .ok (.invokevirtual 224, 3) := by decide +kernel
theorem dX8_moved_77 : decode cX8_moved 77 = .ok (.aload_n 0, 1) := by decide +kernel
theorem dX8_moved_78 : decode cX8_moved 78 = .ok (.getfield 25, 3) := by decide +kernel
theorem dX8_moved_81 : decode cX8_moved 81 = .ok (.iload_n 2, 1) := by decide +kernel
theorem dX8_moved_82 : decode cX8_moved 82 = .ok (.iload 4, 2) := by decide +kernel
theorem dX8_moved_84 : decode cX8_moved 84 = .ok (.iastore, 1) := by decide +kernel
theorem dX8_moved_85 : decode cX8_moved 85 = .ok (.iconst 0, 1) := by decide +kernel
theorem dX8_moved_86 : decode cX8_moved 86 = .ok (.istore 5, 2) := by decide +kernel
theorem dX8_moved_88 : decode cX8_moved 88 = .ok (.iconst 0, 1) := by decide +kernel
theorem dX8_moved_89 : decode cX8_moved 89 = .ok (.istore 6, 2) := by decide +kernel
theorem dX8_moved_91 : decode cX8_moved 91 = .ok (.iload 6, 2) := by decide +kernel
theorem dX8_moved_93 : decode cX8_moved 93 = .ok (.bipush 8, 2) := by decide +kernel
theorem dX8_moved_95 : decode cX8_moved 95 = .ok (.if_icmp .ge 36, 3) := by decide +kernel
theorem dX8_moved_98 : decode cX8_moved 98 = .ok (.iload 5, 2) := by decide +kernel
theorem dX8_moved_100 : decode cX8_moved 100 = .ok (.aload_n 0, 1) := by decide +kernel
theorem dX8_moved_101 : decode cX8_moved 101 = .ok (.getfield 76, 3) := by decide +kernel
theorem dX8_moved_104 : decode cX8_moved 104 = .ok (.iload 6, 2) := by decide +kernel
theorem dX8_moved_106 : decode cX8_moved 106 = .ok (.iaload, 1) := by decide +kernel
theorem dX8_moved_107 : decode cX8_moved 107 = .ok (.aload_n 0, 1) := by decide +kernel
theorem dX8_moved_108 : decode cX8_moved 108 = .ok (.getfield 113, 3) := by decide +kernel
theorem dX8_moved_111 : decode cX8_moved 111 = .ok (.iload 6, 2) := by decide +kernel
theorem dX8_moved_113 : decode cX8_moved 113 = .ok (.iaload, 1) := by decide +kernel
theorem dX8_moved_114 : decode cX8_moved 114 = .ok (.if_icmp .eq 7, 3) := by decide +kernel
theorem dX8_moved_117 : decode cX8_moved 117 = .ok (.iconst 1, 1) := by decide +kernel
theorem dX8_moved_118 : decode cX8_moved 118 = .ok (.goto 4, 3) := by decide +kernel
theorem dX8_moved_121 : decode cX8_moved 121 = .ok (.iconst 0, 1) := by decide +kernel
theorem dX8_moved_122 : decode cX8_moved 122 = .ok (.iadd, 1) := by decide +kernel
theorem dX8_moved_123 : decode cX8_moved 123 = .ok (.istore 5, 2) := by decide +kernel
theorem dX8_moved_125 : decode cX8_moved 125 = .ok (.iinc 6 1, 3) := by decide +kernel
theorem dX8_moved_128 : decode cX8_moved 128 = .ok (.goto (-37), 3) := by decide +kernel
theorem dX8_moved_131 : decode cX8_moved 131 = .ok (.iload 5, 2) := by decide +kernel
theorem dX8_moved_133 : decode cX8_moved 133 = .ok (.ireturn, 1) := by decide +kernel
theorem gX8_moved_X8_all : GoodIn wtX8_moved (wsV RX8 220 RX8 yX8_all wtX8_all) := tb_good (tb_v0 wd_413 wd_414 wd_415 wd_5 wd_416)
theorem gX8_moved_X8_in : GoodIn wtX8_moved (va_wsS RX8 123 yX8_in wtX8_in) := tb_good (tb_s0 wd_177 wd_178 wd_5 wd_179)
theorem gX8_moved_X8_isBoth : GoodIn wtX8_moved (wsV RX8 264 RX8 yX8_isBoth wtX8_isBoth) := tb_good (tb_v0 wd_611 wd_612 wd_613 wd_5 wd_614)
theorem gX8_moved_X8_settlesTo : GoodIn wtX8_moved (wsV RX8 224 RX8 yX8_settlesTo wtX8_settlesTo) := tb_good (tb_v0 wd_482 wd_483 wd_484 wd_5 wd_485)
set_option maxHeartbeats 4000000 in
set_option maxRecDepth 100000 in
theorem m_X8_moved (l : Launch) (D : va_G) (cI cJ : ClassId) (sz : Nat) (g g2 g3 g4 g5 g6 g7 g8 g9 g10 g12 g13 g15 g16 g17 g19 g20 g21 g22 g23 g24 g25 g26 g27 g28 g33 g34 g35 g36 g37 g38 g39 g41 g42 g44 g45 mn ml mv tt : Nat) (gi0 gi14 gi18 gi29 gi30 gi40 gi43 p0 p1 p2 : Int32) (G2 G3 G4 G5 G6 G7 G8 G10 G12 G13 G19 G20 G21 G22 G23 G24 G25 G26 G27 G28 G33 G34 G35 G36 : Nat → Int32) (G37 : Nat → Int64) (G45 : Nat → Int32) (li0 wo0 de0 ag0 : Nat → Nat) (hmn : mn ≤ 8) (hmL : ml ≤ 10) (hit : ∀ k, k < 10 → ∃ j : Nat, j < 8 ∧ G12 k = nI j) (hsu : ∀ k, k < 64 → ∃ j : Nat, j ≤ 1000001 ∧ G10 k = nI j) (hliv : nv G2 li0) (hlib : ∀ k, k < 8 → li0 k ≤ 1000000) (hwov : nv G5 wo0) (hwob : ∀ k, k < 8 → wo0 k ≤ 9000000) (hdev : nv G4 de0) (hdeb : ∀ k, k < 8 → de0 k ≤ 99999) (hagv : nv G3 ag0) (hagb : ∀ k, k < 8 → ag0 k ≤ 9000000) (hamt : ∀ k, k < 10 → ∃ j : Nat, j < 1000001 ∧ G13 k = nI j) (hLE : LE G19) (hLO : LO G20) (hLW : LW G25) (hSH : SH G27 tt) (htt : tt ≤ 1000000) (hmv : mv ≤ 8) : Met l yX8_moved wtX8_moved { frames := 9, cells := 0, slots := 0, locals := 211 } (cPc D cI cJ [.ref g, .int p0, .int p1, .int p2] sz [(oX8 g gi0 (nI mn) g2 g3 g4 g5 g6 g7 g8 g9 g10 (nI ml) g12 g13 gi14 g15 g16 g17 gi18 g19 g20 g21 g22 g23 g24 g25 g26 g27 g28 gi29 gi30 (nI mv) (nI tt) g33 g34 g35 g36 g37 g38 g39 gi40 g41 g42 gi43 g44 g45), (aIc cI g2 8 G2), (aIc cI g3 8 G3), (aIc cI g4 8 G4), (aIc cI g5 8 G5), (aIc cI g6 8 G6), (aIc cI g7 8 G7), (aIc cI g8 8 G8), (aIc cI g10 64 G10), (aIc cI g12 10 G12), (aIc cI g13 10 G13), (aIc cI g19 8 G19), (aIc cI g20 8 G20), (aIc cI g21 8 G21), (aIc cI g22 8 G22), (aIc cI g23 8 G23), (aIc cI g24 8 G24), (aIc cI g25 8 G25), (aIc cI g26 8 G26), (aIc cI g27 8 G27), (aIc cI g28 8 G28), (aIc cI g33 8 G33), (aIc cI g34 8 G34), (aIc cI g35 8 G35), (aIc cI g36 8 G36), (aJc cJ g37 8 G37), (aIc cI g45 8 G45)]) (cQi D (fun r u => ∃ (G19p G20p G21p G22p G23p G24p G25p G26p G27p G28p G33p G34p G35p G36p : Nat → Int32) (G37p : Nat → Int64) (gi29p gi30p gi18p : Int32) (mvp ttp : Nat) (gi0p : Int32) (G45p : Nat → Int32), (LE G19p) ∧ (LO G20p) ∧ (LW G25p) ∧ (SH G27p ttp) ∧ (ttp ≤ 1000000) ∧ (mvp ≤ 8) ∧ u = [(oX8 g gi0p (nI mn) g2 g3 g4 g5 g6 g7 g8 g9 g10 (nI ml) g12 g13 gi14 g15 g16 g17 gi18p g19 g20 g21 g22 g23 g24 g25 g26 g27 g28 gi29p gi30p (nI mvp) (nI ttp) g33 g34 g35 g36 g37 g38 g39 gi40 g41 g42 gi43 g44 g45), (aIc cI g2 8 G2), (aIc cI g3 8 G3), (aIc cI g4 8 G4), (aIc cI g5 8 G5), (aIc cI g6 8 G6), (aIc cI g7 8 G7), (aIc cI g8 8 G8), (aIc cI g10 64 G10), (aIc cI g12 10 G12), (aIc cI g13 10 G13), (aIc cI g19 8 G19p), (aIc cI g20 8 G20p), (aIc cI g21 8 G21p), (aIc cI g22 8 G22p), (aIc cI g23 8 G23p), (aIc cI g24 8 G24p), (aIc cI g25 8 G25p), (aIc cI g26 8 G26p), (aIc cI g27 8 G27p), (aIc cI g28 8 G28p), (aIc cI g33 8 G33p), (aIc cI g34 8 G34p), (aIc cI g35 8 G35p), (aIc cI g36 8 G36p), (aJc cJ g37 8 G37p), (aIc cI g45 8 G45p)]) (va_A [(oX8 g gi0 (nI mn) g2 g3 g4 g5 g6 g7 g8 g9 g10 (nI ml) g12 g13 gi14 g15 g16 g17 gi18 g19 g20 g21 g22 g23 g24 g25 g26 g27 g28 gi29 gi30 (nI mv) (nI tt) g33 g34 g35 g36 g37 g38 g39 gi40 g41 g42 gi43 g44 g45), (aIc cI g2 8 G2), (aIc cI g3 8 G3), (aIc cI g4 8 G4), (aIc cI g5 8 G5), (aIc cI g6 8 G6), (aIc cI g7 8 G7), (aIc cI g8 8 G8), (aIc cI g10 64 G10), (aIc cI g12 10 G12), (aIc cI g13 10 G13), (aIc cI g19 8 G19), (aIc cI g20 8 G20), (aIc cI g21 8 G21), (aIc cI g22 8 G22), (aIc cI g23 8 G23), (aIc cI g24 8 G24), (aIc cI g25 8 G25), (aIc cI g26 8 G26), (aIc cI g27 8 G27), (aIc cI g28 8 G28), (aIc cI g33 8 G33), (aIc cI g34 8 G34), (aIc cI g35 8 G35), (aIc cI g36 8 G36), (aJc cJ g37 8 G37), (aIc cI g45 8 G45)] sz)) 0 0 (va_A [(oX8 g gi0 (nI mn) g2 g3 g4 g5 g6 g7 g8 g9 g10 (nI ml) g12 g13 gi14 g15 g16 g17 gi18 g19 g20 g21 g22 g23 g24 g25 g26 g27 g28 gi29 gi30 (nI mv) (nI tt) g33 g34 g35 g36 g37 g38 g39 gi40 g41 g42 gi43 g44 g45), (aIc cI g2 8 G2), (aIc cI g3 8 G3), (aIc cI g4 8 G4), (aIc cI g5 8 G5), (aIc cI g6 8 G6), (aIc cI g7 8 G7), (aIc cI g8 8 G8), (aIc cI g10 64 G10), (aIc cI g12 10 G12), (aIc cI g13 10 G13), (aIc cI g19 8 G19), (aIc cI g20 8 G20), (aIc cI g21 8 G21), (aIc cI g22 8 G22), (aIc cI g23 8 G23), (aIc cI g24 8 G24), (aIc cI g25 8 G25), (aIc cI g26 8 G26), (aIc cI g27 8 G27), (aIc cI g28 8 G28), (aIc cI g33 8 G33), (aIc cI g34 8 G34), (aIc cI g35 8 G35), (aIc cI g36 8 G36), (aJc cJ g37 8 G37), (aIc cI g45 8 G45)] sz) := by
  refine k_ofW (Qc := cQi D (fun r u => ∃ (G19p G20p G21p G22p G23p G24p G25p G26p G27p G28p G33p G34p G35p G36p : Nat → Int32) (G37p : Nat → Int64) (gi29p gi30p gi18p : Int32) (mvp ttp : Nat) (gi0p : Int32) (G45p : Nat → Int32), (LE G19p) ∧ (LO G20p) ∧ (LW G25p) ∧ (SH G27p ttp) ∧ (ttp ≤ 1000000) ∧ (mvp ≤ 8) ∧ u = [(oX8 g gi0p (nI mn) g2 g3 g4 g5 g6 g7 g8 g9 g10 (nI ml) g12 g13 gi14 g15 g16 g17 gi18p g19 g20 g21 g22 g23 g24 g25 g26 g27 g28 gi29p gi30p (nI mvp) (nI ttp) g33 g34 g35 g36 g37 g38 g39 gi40 g41 g42 gi43 g44 g45), (aIc cI g2 8 G2), (aIc cI g3 8 G3), (aIc cI g4 8 G4), (aIc cI g5 8 G5), (aIc cI g6 8 G6), (aIc cI g7 8 G7), (aIc cI g8 8 G8), (aIc cI g10 64 G10), (aIc cI g12 10 G12), (aIc cI g13 10 G13), (aIc cI g19 8 G19p), (aIc cI g20 8 G20p), (aIc cI g21 8 G21p), (aIc cI g22 8 G22p), (aIc cI g23 8 G23p), (aIc cI g24 8 G24p), (aIc cI g25 8 G25p), (aIc cI g26 8 G26p), (aIc cI g27 8 G27p), (aIc cI g28 8 G28p), (aIc cI g33 8 G33p), (aIc cI g34 8 G34p), (aIc cI g35 8 G35p), (aIc cI g36 8 G36p), (aJc cJ g37 8 G37p), (aIc cI g45 8 G45p)])) (by decide) rfl (Nat.le_of_ble_eq_true rfl) ?_
  intro p e s m below meth c A ls hx hb hr hml hts hown hlk hnm hsz hE hP hD hS hA hl
  have hown : s.vm.findClass RX8 = some m.cls := hown
  have hiX8 : ∀ w ∈ u_ws RX8 TX8 46, w ∈ wtX8_moved := fun w h => List.mem_cons_of_mem _ (iuX8 w h)
  have hl : lv_has ls 7 [(0, .ref g), (1, .int p0), (2, .int p1), (3, .int p2)] := hl
  refine lv_aload_n hx hb dX8_moved_0 rfl (lv_at hl 0 rfl) ?_
  refine lv_iload_n hx hb dX8_moved_1 rfl (lv_at hl 1 rfl) ?_
  refine lv_iload_n hx hb dX8_moved_2 rfl (lv_at hl 2 rfl) ?_
  refine k_i (va_runV (As := [.int p0, .int p1]) (rest := []) ⟨hx, hb, hml, hown, hts⟩ (m_X8_isBoth l D cI cJ (s.heap).size g g2 g3 g4 g5 g6 g7 g8 g9 g10 g12 g13 g15 g16 g17 g19 g20 g21 g22 g23 g24 g25 g26 g27 g28 g33 g34 g35 g36 g37 g38 g39 g41 g42 g44 g45 mn ml mv tt gi0 gi14 gi18 gi29 gi30 gi40 gi43 p0 p1 G2 G3 G4 G5 G6 G7 G8 G10 G12 G13 G19 G20 G21 G22 G23 G24 G25 G26 G27 G28 G33 G34 G35 G36 G37 li0 wo0 de0 ag0 hmn hmL hit hsu hliv hlib hwov hwob hdev hdeb hagv hagb hamt hLE hLO hLW hSH htt hmv) (cwV 2 hts gX8_moved_X8_isBoth rfl rfl rfl (by decide +kernel) ⟨Nat.le_of_ble_eq_true rfl, Nat.le_of_ble_eq_true rfl⟩) (k_preV hE hP hD [0, 1, 2, 3, 4, 5, 6, 7, 8, 9, 10, 11, 12, 13, 14, 15, 16, 17, 18, 19, 20, 21, 22, 23, 24, 25] (by decide +kernel) rfl 0 rfl rfl) rfl rfl hl.1 rfl (lv_room (Nat.le_of_ble_eq_true rfl)) dX8_moved_3 ⟨Nat.le_of_ble_eq_true rfl, Nat.le_of_ble_eq_true rfl⟩) hP hD hS hA [0, 1, 2, 3, 4, 5, 6, 7, 8, 9, 10, 11, 12, 13, 14, 15, 16, 17, 18, 19, 20, 21, 22, 23, 24, 25] [26] rfl (wr := [(aIc cI g45 8 G45)]) rfl (by decide +kernel) (by decide +kernel) (fun r1 u H locs hw2 hP hD hS => ?_)
  obtain ⟨z3, z4, z5, z6, z7, z8, z9, z10, z11, z12, z13, z14, z15, z16, z17, z18, z19, z20, z21, z22, z23, hz24, hz25, hz26, hz27, hz28, hz29, hz30, rfl⟩ := hw2
  refine k_re (w := [(aIc cI g45 8 G45), (oX8 g z23 (nI mn) g2 g3 g4 g5 g6 g7 g8 g9 g10 (nI ml) g12 g13 gi14 g15 g16 g17 z20 g19 g20 g21 g22 g23 g24 g25 g26 g27 g28 z18 z19 (nI z21) (nI z22) g33 g34 g35 g36 g37 g38 g39 gi40 g41 g42 gi43 g44 g45), (aIc cI g2 8 G2), (aIc cI g3 8 G3), (aIc cI g4 8 G4), (aIc cI g5 8 G5), (aIc cI g6 8 G6), (aIc cI g7 8 G7), (aIc cI g8 8 G8), (aIc cI g10 64 G10), (aIc cI g12 10 G12), (aIc cI g13 10 G13), (aIc cI g19 8 z3), (aIc cI g20 8 z4), (aIc cI g21 8 z5), (aIc cI g22 8 z6), (aIc cI g23 8 z7), (aIc cI g24 8 z8), (aIc cI g25 8 z9), (aIc cI g26 8 z10), (aIc cI g27 8 z11), (aIc cI g28 8 z12), (aIc cI g33 8 z13), (aIc cI g34 8 z14), (aIc cI g35 8 z15), (aIc cI g36 8 z16), (aJc cJ g37 8 z17)]) hP hD (fun hP hD => ?_)
  refine lv_if_eq (tgt := 21) hx hb dX8_moved_6 (by decide) (fun c31 => ?_) (fun c31 => ?_)
  · skip
    refine lv_iconst (v := (-1)) hx hb dX8_moved_21 (by decide) ?_
    refine k_iret (u := [(oX8 g z23 (nI mn) g2 g3 g4 g5 g6 g7 g8 g9 g10 (nI ml) g12 g13 gi14 g15 g16 g17 z20 g19 g20 g21 g22 g23 g24 g25 g26 g27 g28 z18 z19 (nI z21) (nI z22) g33 g34 g35 g36 g37 g38 g39 gi40 g41 g42 gi43 g44 g45), (aIc cI g2 8 G2), (aIc cI g3 8 G3), (aIc cI g4 8 G4), (aIc cI g5 8 G5), (aIc cI g6 8 G6), (aIc cI g7 8 G7), (aIc cI g8 8 G8), (aIc cI g10 64 G10), (aIc cI g12 10 G12), (aIc cI g13 10 G13), (aIc cI g19 8 z3), (aIc cI g20 8 z4), (aIc cI g21 8 z5), (aIc cI g22 8 z6), (aIc cI g23 8 z7), (aIc cI g24 8 z8), (aIc cI g25 8 z9), (aIc cI g26 8 z10), (aIc cI g27 8 z11), (aIc cI g28 8 z12), (aIc cI g33 8 z13), (aIc cI g34 8 z14), (aIc cI g35 8 z15), (aIc cI g36 8 z16), (aJc cJ g37 8 z17), (aIc cI g45 8 G45)]) hx hb hr hlk (k_sub hP [1, 2, 3, 4, 5, 6, 7, 8, 9, 10, 11, 12, 13, 14, 15, 16, 17, 18, 19, 20, 21, 22, 23, 24, 25, 26, 0] rfl) (hD.sub [1, 2, 3, 4, 5, 6, 7, 8, 9, 10, 11, 12, 13, 14, 15, 16, 17, 18, 19, 20, 21, 22, 23, 24, 25, 26, 0] (by decide +kernel) rfl) hS dX8_moved_22 ?_
    exact ⟨z3, z4, z5, z6, z7, z8, z9, z10, z11, z12, z13, z14, z15, z16, z17, z18, z19, z20, z21, z22, z23, G45, hz24, hz25, hz26, hz27, hz28, hz29, rfl⟩
  · skip
    refine lv_iload_n hx hb dX8_moved_9 rfl (lv_at hl 3 rfl) ?_
    refine lv_i2l hx hb dX8_moved_10 rfl ?_
    refine lv_lconst (v := 0) hx hb dX8_moved_11 (by decide) ?_
    refine lv_ldc2 (v := 3) hx hb hown (hts _ (List.mem_cons_of_mem _ wd_197)) dX8_moved_12 ?_
    refine k_iS (va_runS (As := [.long (Int32.toInt64 p2), .long 0, .long 3]) (rest := []) ⟨hx, hb, hml, hown, hts⟩ (m_X8_in l D cI cJ H.size (Int32.toInt64 p2) 0 3) (va_cwS 3 hts gX8_moved_X8_in rfl rfl rfl (by decide +kernel) ⟨Nat.le_of_ble_eq_true rfl, Nat.le_of_ble_eq_true rfl⟩) (k_pre hE hP hD [] (by decide +kernel) rfl) rfl rfl hl.1 rfl (lv_room (Nat.le_of_ble_eq_true rfl)) dX8_moved_15 ⟨Nat.le_of_ble_eq_true rfl, Nat.le_of_ble_eq_true rfl⟩) hP hD hS hA [] rfl (fun _ _ h9 => h9.2) (fun r32 H locs hw33 hP hD hS => ?_)
    obtain ⟨hw33, -⟩ := hw33
    have hw34 : r32 = bz (0 ≤ p2 ∧ p2 ≤ 3) := by rw [hw33]; exact bz_c (w3 (a := p2) (lo := 0) (hi := 3) (by decide) (by decide))
    refine lv_if_ne (tgt := 23) hx hb dX8_moved_18 (by decide) (fun c35 => ?_) (fun c35 => ?_)
    · skip
      have hc35 : 0 ≤ p2 ∧ p2 ≤ 3 := bz_1 hw34 c35
      obtain ⟨_, hbl, hbp⟩ := hz30.resolve_left c31
      obtain ⟨lj, hlj, elj⟩ := wi_n (by omega) hbl
      rw [elj] at hl
      obtain ⟨pj, hpj, epj⟩ := wi_n (by omega) hbp
      rw [epj] at hl
      refine lv_iconst (v := 0) hx hb dX8_moved_23 (by decide) ?_
      refine lv_istore (lv' := [(4, .int 0), (0, .ref g), (1, .int (nI lj)), (2, .int (nI pj)), (3, .int p2)]) hx hb dX8_moved_24 hl (by decide) rfl (fun ls hl => ?_)
      have J26 : ∀ (zz : Nat) (i26 : Nat) (a_g45_26 : Nat → Int32), (i26 ≤ 8) → (8 - i26) < zz → ∀ (H : Heap) (locs : List Loc) (ls : Array Slot), va_P D vwCl [(aIc cI g45 8 a_g45_26), (oX8 g z23 (nI mn) g2 g3 g4 g5 g6 g7 g8 g9 g10 (nI ml) g12 g13 gi14 g15 g16 g17 z20 g19 g20 g21 g22 g23 g24 g25 g26 g27 g28 z18 z19 (nI z21) (nI z22) g33 g34 g35 g36 g37 g38 g39 gi40 g41 g42 gi43 g44 g45), (aIc cI g2 8 G2), (aIc cI g3 8 G3), (aIc cI g4 8 G4), (aIc cI g5 8 G5), (aIc cI g6 8 G6), (aIc cI g7 8 G7), (aIc cI g8 8 G8), (aIc cI g10 64 G10), (aIc cI g12 10 G12), (aIc cI g13 10 G13), (aIc cI g19 8 z3), (aIc cI g20 8 z4), (aIc cI g21 8 z5), (aIc cI g22 8 z6), (aIc cI g23 8 z7), (aIc cI g24 8 z8), (aIc cI g25 8 z9), (aIc cI g26 8 z10), (aIc cI g27 8 z11), (aIc cI g28 8 z12), (aIc cI g33 8 z13), (aIc cI g34 8 z14), (aIc cI g35 8 z15), (aIc cI g36 8 z16), (aJc cJ g37 8 z17)] H → va_D A [(aIc cI g45 8 a_g45_26), (oX8 g z23 (nI mn) g2 g3 g4 g5 g6 g7 g8 g9 g10 (nI ml) g12 g13 gi14 g15 g16 g17 z20 g19 g20 g21 g22 g23 g24 g25 g26 g27 g28 z18 z19 (nI z21) (nI z22) g33 g34 g35 g36 g37 g38 g39 gi40 g41 g42 gi43 g44 g45), (aIc cI g2 8 G2), (aIc cI g3 8 G3), (aIc cI g4 8 G4), (aIc cI g5 8 G5), (aIc cI g6 8 G6), (aIc cI g7 8 G7), (aIc cI g8 8 G8), (aIc cI g10 64 G10), (aIc cI g12 10 G12), (aIc cI g13 10 G13), (aIc cI g19 8 z3), (aIc cI g20 8 z4), (aIc cI g21 8 z5), (aIc cI g22 8 z6), (aIc cI g23 8 z7), (aIc cI g24 8 z8), (aIc cI g25 8 z9), (aIc cI g26 8 z10), (aIc cI g27 8 z11), (aIc cI g28 8 z12), (aIc cI g33 8 z13), (aIc cI g34 8 z14), (aIc cI g35 8 z15), (aIc cI g36 8 z16), (aJc cJ g37 8 z17)] → va_S A s.heap H locs → lv_has ls 7 [(4, .int (nI i26)), (0, .ref g), (1, .int (nI lj)), (2, .int (nI pj)), (3, .int p2)] → W p l e { frames := 9, cells := 0, slots := 0, locals := 211 } s m [.ref g, .int p0, .int p1, .int p2].toArray below meth c H locs 0 0 (MQ below (cQi D (fun r u => ∃ (G19p G20p G21p G22p G23p G24p G25p G26p G27p G28p G33p G34p G35p G36p : Nat → Int32) (G37p : Nat → Int64) (gi29p gi30p gi18p : Int32) (mvp ttp : Nat) (gi0p : Int32) (G45p : Nat → Int32), (LE G19p) ∧ (LO G20p) ∧ (LW G25p) ∧ (SH G27p ttp) ∧ (ttp ≤ 1000000) ∧ (mvp ≤ 8) ∧ u = [(oX8 g gi0p (nI mn) g2 g3 g4 g5 g6 g7 g8 g9 g10 (nI ml) g12 g13 gi14 g15 g16 g17 gi18p g19 g20 g21 g22 g23 g24 g25 g26 g27 g28 gi29p gi30p (nI mvp) (nI ttp) g33 g34 g35 g36 g37 g38 g39 gi40 g41 g42 gi43 g44 g45), (aIc cI g2 8 G2), (aIc cI g3 8 G3), (aIc cI g4 8 G4), (aIc cI g5 8 G5), (aIc cI g6 8 G6), (aIc cI g7 8 G7), (aIc cI g8 8 G8), (aIc cI g10 64 G10), (aIc cI g12 10 G12), (aIc cI g13 10 G13), (aIc cI g19 8 G19p), (aIc cI g20 8 G20p), (aIc cI g21 8 G21p), (aIc cI g22 8 G22p), (aIc cI g23 8 G23p), (aIc cI g24 8 G24p), (aIc cI g25 8 G25p), (aIc cI g26 8 G26p), (aIc cI g27 8 G27p), (aIc cI g28 8 G28p), (aIc cI g33 8 G33p), (aIc cI g34 8 G34p), (aIc cI g35 8 G35p), (aIc cI g36 8 G36p), (aJc cJ g37 8 G37p), (aIc cI g45 8 G45p)]) A) [.ref g, .int p0, .int p1, .int p2].toArray s 0 0 A) (F0 m 26 ls []) := by
        intro zz
        induction zz with
        | zero => intro i26 a_g45_26 _; exact fun h => absurd h (Nat.not_lt_zero _)
        | succ zz ih26 =>
          intro i26 a_g45_26 hc4_26 hmu26 H locs ls hP hD hS hl
          refine lv_iload hx hb dX8_moved_26 (lv_at hl 0 rfl) ?_
          refine lv_bipush (v := 8) hx hb dX8_moved_28 (by decide) ?_
          refine lv_icmp_ge (tgt := 53) hx hb dX8_moved_30 (by decide) (fun c36 => ?_) (fun c36 => ?_)
          · skip
            have nc36 : 8 ≤ i26 := (nI_leI (a := 8) (b := i26) (by omega) (by omega)).mp c36
            refine lv_aload_n hx hb dX8_moved_53 rfl (lv_at hl 1 rfl) ?_
            refine va_get (D := D) (ci := 8) (v := .ref g7) (C := RX8) (T := TX8) (N := 46) hx hb hts hiX8 hown hE.1 hP 1 rfl rfl 7 (by decide) (hts _ (List.mem_cons_of_mem _ wd_121)) (fun _ h9 => h9) rfl dX8_moved_54 ?_
            refine lv_iload_n hx hb dX8_moved_57 rfl (lv_at hl 3 rfl) ?_
            refine va_iald hx hb hE.1 hP 7 0 rfl rfl (vp_in_nI (n := pj) (by omega) (by decide)) dX8_moved_58 ?_
            refine lv_topi (fun v37 ev37 => ?_)
            refine lv_istore (lv' := [(4, .int v37), (0, .ref g), (1, .int (nI lj)), (2, .int (nI pj)), (3, .int p2)]) hx hb dX8_moved_59 hl (by decide) rfl (fun ls hl => ?_)
            refine lv_aload_n hx hb dX8_moved_61 rfl (lv_at hl 1 rfl) ?_
            refine va_get (D := D) (ci := 8) (v := .ref g7) (C := RX8) (T := TX8) (N := 46) hx hb hts hiX8 hown hE.1 hP 1 rfl rfl 7 (by decide) (hts _ (List.mem_cons_of_mem _ wd_121)) (fun _ h9 => h9) rfl dX8_moved_62 ?_
            refine lv_iload_n hx hb dX8_moved_65 rfl (lv_at hl 3 rfl) ?_
            refine lv_iload_n hx hb dX8_moved_66 rfl (lv_at hl 4 rfl) ?_
            refine va_iast hx hb hE.1 hP hD hS 7 0 rfl rfl (vp_in_nI (n := pj) (by omega) (by decide)) dX8_moved_67 (fun H locs hP hD hS => ?_)
            refine k_re (w := [(aIc cI g45 8 a_g45_26), (oX8 g z23 (nI mn) g2 g3 g4 g5 g6 g7 g8 g9 g10 (nI ml) g12 g13 gi14 g15 g16 g17 z20 g19 g20 g21 g22 g23 g24 g25 g26 g27 g28 z18 z19 (nI z21) (nI z22) g33 g34 g35 g36 g37 g38 g39 gi40 g41 g42 gi43 g44 g45), (aIc cI g2 8 G2), (aIc cI g3 8 G3), (aIc cI g4 8 G4), (aIc cI g5 8 G5), (aIc cI g6 8 G6), (aIc cI g7 8 (upd G7 (Int32.toNatClampNeg (nI pj)) p2)), (aIc cI g8 8 G8), (aIc cI g10 64 G10), (aIc cI g12 10 G12), (aIc cI g13 10 G13), (aIc cI g19 8 z3), (aIc cI g20 8 z4), (aIc cI g21 8 z5), (aIc cI g22 8 z6), (aIc cI g23 8 z7), (aIc cI g24 8 z8), (aIc cI g25 8 z9), (aIc cI g26 8 z10), (aIc cI g27 8 z11), (aIc cI g28 8 z12), (aIc cI g33 8 z13), (aIc cI g34 8 z14), (aIc cI g35 8 z15), (aIc cI g36 8 z16), (aJc cJ g37 8 z17)]) hP hD (fun hP hD => ?_)
            refine lv_aload_n hx hb dX8_moved_68 rfl (lv_at hl 1 rfl) ?_
            refine lv_iload_n hx hb dX8_moved_69 rfl (lv_at hl 2 rfl) ?_
            refine lv_aload_n hx hb dX8_moved_70 rfl (lv_at hl 1 rfl) ?_
            refine k_iS (va_runV (As := []) (rest := [.int (nI lj), .ref g]) ⟨hx, hb, hml, hown, hts⟩ (m_X8_all l D cI cJ H.size g g2 g3 g4 g5 g6 g7 g8 g9 g10 g12 g13 g15 g16 g17 g19 g20 g21 g22 g23 g24 g25 g26 g27 g28 g33 g34 g35 g36 g37 g38 g39 g41 g42 g44 g45 mn ml z21 z23 gi14 z20 z18 z19 (nI z22) gi40 gi43 hmn) (cwV 0 hts gX8_moved_X8_all rfl rfl rfl (by decide +kernel) ⟨Nat.le_of_ble_eq_true rfl, Nat.le_of_ble_eq_true rfl⟩) (k_preV hE hP hD [1] (by decide +kernel) rfl 1 rfl rfl) rfl rfl hl.1 rfl (lv_room (Nat.le_of_ble_eq_true rfl)) dX8_moved_71 ⟨Nat.le_of_ble_eq_true rfl, Nat.le_of_ble_eq_true rfl⟩) hP hD hS hA [1] rfl (fun _ _ ⟨_, h9⟩ => h9) (fun r38 H locs hw39 hP hD hS => ?_)
            obtain ⟨rfl, -⟩ := hw39
            refine k_v (va_runV (As := [.int (nI lj), .int (nI (2 ^ mn - 1))]) (rest := []) ⟨hx, hb, hml, hown, hts⟩ (m_X8_settlesTo l D cI cJ H.size g g2 g3 g4 g5 g6 g7 g8 g9 g10 g12 g13 g15 g16 g17 g19 g20 g21 g22 g23 g24 g25 g26 g27 g28 g33 g34 g35 g36 g37 g38 g39 g41 g42 g44 g45 mn ml z21 z22 (lj + 1) z23 gi14 z20 z18 z19 gi40 gi43 (nI lj) (nI (2 ^ mn - 1)) G2 G3 G4 G5 G6 (upd G7 (Int32.toNatClampNeg (nI pj)) p2) G8 G10 G12 G13 z3 z4 z5 z6 z7 z8 z9 z10 z11 z12 z13 z14 z15 z16 z17 li0 wo0 de0 ag0 (nI_pred lj).symm (by omega) hit hsu hliv hlib hwov hwob hdev hdeb hagv hagb hamt hz24 hz25 hz26 hz27 hz28 hz29) (cwV 2 hts gX8_moved_X8_settlesTo rfl rfl rfl (by decide +kernel) ⟨Nat.le_of_ble_eq_true rfl, Nat.le_of_ble_eq_true rfl⟩) (k_preV hE hP hD [1, 2, 3, 4, 5, 6, 7, 8, 9, 10, 11, 12, 13, 14, 15, 16, 17, 18, 19, 20, 21, 22, 23, 24, 25, 26] (by decide +kernel) rfl 1 rfl rfl) rfl rfl hl.1 rfl (lv_room (Nat.le_of_ble_eq_true rfl)) dX8_moved_74 ⟨Nat.le_of_ble_eq_true rfl, Nat.le_of_ble_eq_true rfl⟩) hP hD hS hA [1, 2, 3, 4, 5, 6, 7, 8, 9, 10, 11, 12, 13, 14, 15, 16, 17, 18, 19, 20, 21, 22, 23, 24, 25, 26] [0] rfl (wr := [(aIc cI g45 8 a_g45_26)]) rfl (by decide +kernel) (by decide +kernel) (fun u H locs hw40 hP hD hS => ?_)
            obtain ⟨z41, z42, z43, z44, z45, z46, z47, z48, z49, z50, z51, z52, z53, z54, z55, z56, z57, z58, z59, z60, hz61, hz62, hz63, hz64, hz65, hz66, hz67, rfl⟩ := hw40
            refine k_re (w := [(aIc cI g45 8 a_g45_26), (oX8 g z23 (nI mn) g2 g3 g4 g5 g6 g7 g8 g9 g10 (nI ml) g12 g13 gi14 g15 g16 g17 z58 g19 g20 g21 g22 g23 g24 g25 g26 g27 g28 z56 z57 (nI z59) (nI z60) g33 g34 g35 g36 g37 g38 g39 gi40 g41 g42 gi43 g44 g45), (aIc cI g2 8 G2), (aIc cI g3 8 G3), (aIc cI g4 8 G4), (aIc cI g5 8 G5), (aIc cI g6 8 G6), (aIc cI g7 8 (upd G7 (Int32.toNatClampNeg (nI pj)) p2)), (aIc cI g8 8 G8), (aIc cI g10 64 G10), (aIc cI g12 10 G12), (aIc cI g13 10 G13), (aIc cI g19 8 z41), (aIc cI g20 8 z42), (aIc cI g21 8 z43), (aIc cI g22 8 z44), (aIc cI g23 8 z45), (aIc cI g24 8 z46), (aIc cI g25 8 z47), (aIc cI g26 8 z48), (aIc cI g27 8 z49), (aIc cI g28 8 z50), (aIc cI g33 8 z51), (aIc cI g34 8 z52), (aIc cI g35 8 z53), (aIc cI g36 8 z54), (aJc cJ g37 8 z55)]) hP hD (fun hP hD => ?_)
            refine lv_aload_n hx hb dX8_moved_77 rfl (lv_at hl 1 rfl) ?_
            refine va_get (D := D) (ci := 8) (v := .ref g7) (C := RX8) (T := TX8) (N := 46) hx hb hts hiX8 hown hE.1 hP 1 rfl rfl 7 (by decide) (hts _ (List.mem_cons_of_mem _ wd_121)) (fun _ h9 => h9) rfl dX8_moved_78 ?_
            refine lv_iload_n hx hb dX8_moved_81 rfl (lv_at hl 3 rfl) ?_
            refine lv_iload hx hb dX8_moved_82 (lv_at hl 0 rfl) ?_
            refine va_iast hx hb hE.1 hP hD hS 7 0 rfl rfl (vp_in_nI (n := pj) (by omega) (by decide)) dX8_moved_84 (fun H locs hP hD hS => ?_)
            refine k_re (w := [(aIc cI g45 8 a_g45_26), (oX8 g z23 (nI mn) g2 g3 g4 g5 g6 g7 g8 g9 g10 (nI ml) g12 g13 gi14 g15 g16 g17 z58 g19 g20 g21 g22 g23 g24 g25 g26 g27 g28 z56 z57 (nI z59) (nI z60) g33 g34 g35 g36 g37 g38 g39 gi40 g41 g42 gi43 g44 g45), (aIc cI g2 8 G2), (aIc cI g3 8 G3), (aIc cI g4 8 G4), (aIc cI g5 8 G5), (aIc cI g6 8 G6), (aIc cI g7 8 (upd (upd G7 (Int32.toNatClampNeg (nI pj)) p2) (Int32.toNatClampNeg (nI pj)) v37)), (aIc cI g8 8 G8), (aIc cI g10 64 G10), (aIc cI g12 10 G12), (aIc cI g13 10 G13), (aIc cI g19 8 z41), (aIc cI g20 8 z42), (aIc cI g21 8 z43), (aIc cI g22 8 z44), (aIc cI g23 8 z45), (aIc cI g24 8 z46), (aIc cI g25 8 z47), (aIc cI g26 8 z48), (aIc cI g27 8 z49), (aIc cI g28 8 z50), (aIc cI g33 8 z51), (aIc cI g34 8 z52), (aIc cI g35 8 z53), (aIc cI g36 8 z54), (aJc cJ g37 8 z55)]) hP hD (fun hP hD => ?_)
            have e9 : (upd (upd G7 (Int32.toNatClampNeg (nI pj)) p2) (Int32.toNatClampNeg (nI pj)) v37) = G7 := up_back ev37
            rw [e9] at hP hD
            refine lv_iconst (v := 0) hx hb dX8_moved_85 (by decide) ?_
            refine lv_istore (lv' := [(5, .int 0), (4, .int v37), (0, .ref g), (1, .int (nI lj)), (2, .int (nI pj)), (3, .int p2)]) hx hb dX8_moved_86 hl (by decide) rfl (fun ls hl => ?_)
            refine lv_iconst (v := 0) hx hb dX8_moved_88 (by decide) ?_
            refine lv_istore (lv' := [(6, .int 0), (5, .int 0), (4, .int v37), (0, .ref g), (1, .int (nI lj)), (2, .int (nI pj)), (3, .int p2)]) hx hb dX8_moved_89 hl (by decide) rfl (fun ls hl => ?_)
            have J91 : ∀ (zz : Nat) (i91 : Nat) (h5_91 : Int32), (i91 ≤ 8) → (8 - i91) < zz → ∀ (H : Heap) (locs : List Loc) (ls : Array Slot), va_P D vwCl [(aIc cI g45 8 a_g45_26), (oX8 g z23 (nI mn) g2 g3 g4 g5 g6 g7 g8 g9 g10 (nI ml) g12 g13 gi14 g15 g16 g17 z58 g19 g20 g21 g22 g23 g24 g25 g26 g27 g28 z56 z57 (nI z59) (nI z60) g33 g34 g35 g36 g37 g38 g39 gi40 g41 g42 gi43 g44 g45), (aIc cI g2 8 G2), (aIc cI g3 8 G3), (aIc cI g4 8 G4), (aIc cI g5 8 G5), (aIc cI g6 8 G6), (aIc cI g7 8 G7), (aIc cI g8 8 G8), (aIc cI g10 64 G10), (aIc cI g12 10 G12), (aIc cI g13 10 G13), (aIc cI g19 8 z41), (aIc cI g20 8 z42), (aIc cI g21 8 z43), (aIc cI g22 8 z44), (aIc cI g23 8 z45), (aIc cI g24 8 z46), (aIc cI g25 8 z47), (aIc cI g26 8 z48), (aIc cI g27 8 z49), (aIc cI g28 8 z50), (aIc cI g33 8 z51), (aIc cI g34 8 z52), (aIc cI g35 8 z53), (aIc cI g36 8 z54), (aJc cJ g37 8 z55)] H → va_D A [(aIc cI g45 8 a_g45_26), (oX8 g z23 (nI mn) g2 g3 g4 g5 g6 g7 g8 g9 g10 (nI ml) g12 g13 gi14 g15 g16 g17 z58 g19 g20 g21 g22 g23 g24 g25 g26 g27 g28 z56 z57 (nI z59) (nI z60) g33 g34 g35 g36 g37 g38 g39 gi40 g41 g42 gi43 g44 g45), (aIc cI g2 8 G2), (aIc cI g3 8 G3), (aIc cI g4 8 G4), (aIc cI g5 8 G5), (aIc cI g6 8 G6), (aIc cI g7 8 G7), (aIc cI g8 8 G8), (aIc cI g10 64 G10), (aIc cI g12 10 G12), (aIc cI g13 10 G13), (aIc cI g19 8 z41), (aIc cI g20 8 z42), (aIc cI g21 8 z43), (aIc cI g22 8 z44), (aIc cI g23 8 z45), (aIc cI g24 8 z46), (aIc cI g25 8 z47), (aIc cI g26 8 z48), (aIc cI g27 8 z49), (aIc cI g28 8 z50), (aIc cI g33 8 z51), (aIc cI g34 8 z52), (aIc cI g35 8 z53), (aIc cI g36 8 z54), (aJc cJ g37 8 z55)] → va_S A s.heap H locs → lv_has ls 7 [(6, .int (nI i91)), (5, .int h5_91), (4, .int v37), (0, .ref g), (1, .int (nI lj)), (2, .int (nI pj)), (3, .int p2)] → W p l e { frames := 9, cells := 0, slots := 0, locals := 211 } s m [.ref g, .int p0, .int p1, .int p2].toArray below meth c H locs 0 0 (MQ below (cQi D (fun r u => ∃ (G19p G20p G21p G22p G23p G24p G25p G26p G27p G28p G33p G34p G35p G36p : Nat → Int32) (G37p : Nat → Int64) (gi29p gi30p gi18p : Int32) (mvp ttp : Nat) (gi0p : Int32) (G45p : Nat → Int32), (LE G19p) ∧ (LO G20p) ∧ (LW G25p) ∧ (SH G27p ttp) ∧ (ttp ≤ 1000000) ∧ (mvp ≤ 8) ∧ u = [(oX8 g gi0p (nI mn) g2 g3 g4 g5 g6 g7 g8 g9 g10 (nI ml) g12 g13 gi14 g15 g16 g17 gi18p g19 g20 g21 g22 g23 g24 g25 g26 g27 g28 gi29p gi30p (nI mvp) (nI ttp) g33 g34 g35 g36 g37 g38 g39 gi40 g41 g42 gi43 g44 g45), (aIc cI g2 8 G2), (aIc cI g3 8 G3), (aIc cI g4 8 G4), (aIc cI g5 8 G5), (aIc cI g6 8 G6), (aIc cI g7 8 G7), (aIc cI g8 8 G8), (aIc cI g10 64 G10), (aIc cI g12 10 G12), (aIc cI g13 10 G13), (aIc cI g19 8 G19p), (aIc cI g20 8 G20p), (aIc cI g21 8 G21p), (aIc cI g22 8 G22p), (aIc cI g23 8 G23p), (aIc cI g24 8 G24p), (aIc cI g25 8 G25p), (aIc cI g26 8 G26p), (aIc cI g27 8 G27p), (aIc cI g28 8 G28p), (aIc cI g33 8 G33p), (aIc cI g34 8 G34p), (aIc cI g35 8 G35p), (aIc cI g36 8 G36p), (aJc cJ g37 8 G37p), (aIc cI g45 8 G45p)]) A) [.ref g, .int p0, .int p1, .int p2].toArray s 0 0 A) (F0 m 91 ls []) := by
              intro zz
              induction zz with
              | zero => intro i91 h5_91 _; exact fun h => absurd h (Nat.not_lt_zero _)
              | succ zz ih91 =>
                intro i91 h5_91 hc6_91 hmu91 H locs ls hP hD hS hl
                refine lv_iload hx hb dX8_moved_91 (lv_at hl 0 rfl) ?_
                refine lv_bipush (v := 8) hx hb dX8_moved_93 (by decide) ?_
                refine lv_icmp_ge (tgt := 131) hx hb dX8_moved_95 (by decide) (fun c68 => ?_) (fun c68 => ?_)
                · skip
                  have nc68 : 8 ≤ i91 := (nI_leI (a := 8) (b := i91) (by omega) (by omega)).mp c68
                  refine lv_iload hx hb dX8_moved_131 (lv_at hl 1 rfl) ?_
                  refine k_iret (u := [(oX8 g z23 (nI mn) g2 g3 g4 g5 g6 g7 g8 g9 g10 (nI ml) g12 g13 gi14 g15 g16 g17 z58 g19 g20 g21 g22 g23 g24 g25 g26 g27 g28 z56 z57 (nI z59) (nI z60) g33 g34 g35 g36 g37 g38 g39 gi40 g41 g42 gi43 g44 g45), (aIc cI g2 8 G2), (aIc cI g3 8 G3), (aIc cI g4 8 G4), (aIc cI g5 8 G5), (aIc cI g6 8 G6), (aIc cI g7 8 G7), (aIc cI g8 8 G8), (aIc cI g10 64 G10), (aIc cI g12 10 G12), (aIc cI g13 10 G13), (aIc cI g19 8 z41), (aIc cI g20 8 z42), (aIc cI g21 8 z43), (aIc cI g22 8 z44), (aIc cI g23 8 z45), (aIc cI g24 8 z46), (aIc cI g25 8 z47), (aIc cI g26 8 z48), (aIc cI g27 8 z49), (aIc cI g28 8 z50), (aIc cI g33 8 z51), (aIc cI g34 8 z52), (aIc cI g35 8 z53), (aIc cI g36 8 z54), (aJc cJ g37 8 z55), (aIc cI g45 8 a_g45_26)]) hx hb hr hlk (k_sub hP [1, 2, 3, 4, 5, 6, 7, 8, 9, 10, 11, 12, 13, 14, 15, 16, 17, 18, 19, 20, 21, 22, 23, 24, 25, 26, 0] rfl) (hD.sub [1, 2, 3, 4, 5, 6, 7, 8, 9, 10, 11, 12, 13, 14, 15, 16, 17, 18, 19, 20, 21, 22, 23, 24, 25, 26, 0] (by decide +kernel) rfl) hS dX8_moved_133 ?_
                  exact ⟨z41, z42, z43, z44, z45, z46, z47, z48, z49, z50, z51, z52, z53, z54, z55, z56, z57, z58, z59, z60, z23, a_g45_26, hz61, hz62, hz63, hz64, hz65, hz66, rfl⟩
                · skip
                  have nc68 : ¬ 8 ≤ i91 := fun q9 => c68 ((nI_leI (a := 8) (b := i91) (by omega) (by omega)).mpr q9)
                  refine lv_iload hx hb dX8_moved_98 (lv_at hl 1 rfl) ?_
                  refine lv_aload_n hx hb dX8_moved_100 rfl (lv_at hl 3 rfl) ?_
                  refine va_get (D := D) (ci := 8) (v := .ref g27) (C := RX8) (T := TX8) (N := 46) hx hb hts hiX8 hown hE.1 hP 1 rfl rfl 27 (by decide) (hts _ (List.mem_cons_of_mem _ wd_138)) (fun _ h9 => h9) rfl dX8_moved_101 ?_
                  refine lv_iload hx hb dX8_moved_104 (lv_at hl 0 rfl) ?_
                  refine va_iald hx hb hE.1 hP 20 0 rfl rfl (vp_in_nI (n := i91) (by omega) (by decide)) dX8_moved_106 ?_
                  refine lv_topi (fun v69 ev69 => ?_)
                  refine lv_aload_n hx hb dX8_moved_107 rfl (lv_at hl 3 rfl) ?_
                  refine va_get (D := D) (ci := 8) (v := .ref g45) (C := RX8) (T := TX8) (N := 46) hx hb hts hiX8 hown hE.1 hP 1 rfl rfl 45 (by decide) (hts _ (List.mem_cons_of_mem _ wd_150)) (fun _ h9 => h9) rfl dX8_moved_108 ?_
                  refine lv_iload hx hb dX8_moved_111 (lv_at hl 0 rfl) ?_
                  refine va_iald hx hb hE.1 hP 0 0 rfl rfl (vp_in_nI (n := i91) (by omega) (by decide)) dX8_moved_113 ?_
                  refine lv_topi (fun v70 ev70 => ?_)
                  refine lv_icmp_eq (tgt := 121) hx hb dX8_moved_114 (by decide) (fun c71 => ?_) (fun c71 => ?_)
                  · skip
                    refine lv_iconst (v := 0) hx hb dX8_moved_121 (by decide) ?_
                    refine lv_iadd hx hb dX8_moved_122 ?_
                    refine lv_topi (fun v72 ev72 => ?_)
                    refine lv_istore (lv' := [(5, .int v72), (6, .int (nI i91)), (4, .int v37), (0, .ref g), (1, .int (nI lj)), (2, .int (nI pj)), (3, .int p2)]) hx hb dX8_moved_123 hl (by decide) rfl (fun ls hl => ?_)
                    refine lv_iinc (v := (nI (i91 + 1))) (lv' := [(6, .int (nI (i91 + 1))), (5, .int v72), (4, .int v37), (0, .ref g), (1, .int (nI lj)), (2, .int (nI pj)), (3, .int p2)]) hx hb dX8_moved_125 hl (k := 1) rfl (nI_1 _) (by decide) rfl (fun ls hl => ?_)
                    refine lv_goto (tgt := 91) hx hb dX8_moved_128 (by decide) ?_
                    exact ih91 (i91 + 1) v72 (by omega) (by omega) _ _ _ hP hD hS (lv_sub hl [0, 1, 2, 3, 4, 5, 6] rfl)
                  · skip
                    refine lv_iconst (v := 1) hx hb dX8_moved_117 (by decide) ?_
                    refine lv_goto (tgt := 122) hx hb dX8_moved_118 (by decide) ?_
                    refine lv_iadd hx hb dX8_moved_122 ?_
                    refine lv_topi (fun v73 ev73 => ?_)
                    refine lv_istore (lv' := [(5, .int v73), (6, .int (nI i91)), (4, .int v37), (0, .ref g), (1, .int (nI lj)), (2, .int (nI pj)), (3, .int p2)]) hx hb dX8_moved_123 hl (by decide) rfl (fun ls hl => ?_)
                    refine lv_iinc (v := (nI (i91 + 1))) (lv' := [(6, .int (nI (i91 + 1))), (5, .int v73), (4, .int v37), (0, .ref g), (1, .int (nI lj)), (2, .int (nI pj)), (3, .int p2)]) hx hb dX8_moved_125 hl (k := 1) rfl (nI_1 _) (by decide) rfl (fun ls hl => ?_)
                    refine lv_goto (tgt := 91) hx hb dX8_moved_128 (by decide) ?_
                    exact ih91 (i91 + 1) v73 (by omega) (by omega) _ _ _ hP hD hS (lv_sub hl [0, 1, 2, 3, 4, 5, 6] rfl)
            exact J91 _ 0 0 (by omega) (Nat.lt_succ_self _) _ _ _ hP hD hS (lv_sub hl [0, 1, 2, 3, 4, 5, 6] rfl)
          · skip
            have nc36 : ¬ 8 ≤ i26 := fun q9 => c36 ((nI_leI (a := 8) (b := i26) (by omega) (by omega)).mpr q9)
            refine lv_aload_n hx hb dX8_moved_33 rfl (lv_at hl 1 rfl) ?_
            refine va_get (D := D) (ci := 8) (v := .ref g45) (C := RX8) (T := TX8) (N := 46) hx hb hts hiX8 hown hE.1 hP 1 rfl rfl 45 (by decide) (hts _ (List.mem_cons_of_mem _ wd_150)) (fun _ h9 => h9) rfl dX8_moved_34 ?_
            refine lv_iload hx hb dX8_moved_37 (lv_at hl 0 rfl) ?_
            refine lv_aload_n hx hb dX8_moved_39 rfl (lv_at hl 1 rfl) ?_
            refine va_get (D := D) (ci := 8) (v := .ref g27) (C := RX8) (T := TX8) (N := 46) hx hb hts hiX8 hown hE.1 hP 1 rfl rfl 27 (by decide) (hts _ (List.mem_cons_of_mem _ wd_138)) (fun _ h9 => h9) rfl dX8_moved_40 ?_
            refine lv_iload hx hb dX8_moved_43 (lv_at hl 0 rfl) ?_
            refine va_iald hx hb hE.1 hP 20 0 rfl rfl (vp_in_nI (n := i26) (by omega) (by decide)) dX8_moved_45 ?_
            refine lv_topi (fun v74 ev74 => ?_)
            refine va_iast hx hb hE.1 hP hD hS 0 0 rfl rfl (vp_in_nI (n := i26) (by omega) (by decide)) dX8_moved_46 (fun H locs hP hD hS => ?_)
            refine k_re (w := [(aIc cI g45 8 (upd a_g45_26 (Int32.toNatClampNeg (nI i26)) v74)), (oX8 g z23 (nI mn) g2 g3 g4 g5 g6 g7 g8 g9 g10 (nI ml) g12 g13 gi14 g15 g16 g17 z20 g19 g20 g21 g22 g23 g24 g25 g26 g27 g28 z18 z19 (nI z21) (nI z22) g33 g34 g35 g36 g37 g38 g39 gi40 g41 g42 gi43 g44 g45), (aIc cI g2 8 G2), (aIc cI g3 8 G3), (aIc cI g4 8 G4), (aIc cI g5 8 G5), (aIc cI g6 8 G6), (aIc cI g7 8 G7), (aIc cI g8 8 G8), (aIc cI g10 64 G10), (aIc cI g12 10 G12), (aIc cI g13 10 G13), (aIc cI g19 8 z3), (aIc cI g20 8 z4), (aIc cI g21 8 z5), (aIc cI g22 8 z6), (aIc cI g23 8 z7), (aIc cI g24 8 z8), (aIc cI g25 8 z9), (aIc cI g26 8 z10), (aIc cI g27 8 z11), (aIc cI g28 8 z12), (aIc cI g33 8 z13), (aIc cI g34 8 z14), (aIc cI g35 8 z15), (aIc cI g36 8 z16), (aJc cJ g37 8 z17)]) hP hD (fun hP hD => ?_)
            refine lv_iinc (v := (nI (i26 + 1))) (lv' := [(4, .int (nI (i26 + 1))), (0, .ref g), (1, .int (nI lj)), (2, .int (nI pj)), (3, .int p2)]) hx hb dX8_moved_47 hl (k := 0) rfl (nI_1 _) (by decide) rfl (fun ls hl => ?_)
            refine lv_goto (tgt := 26) hx hb dX8_moved_50 (by decide) ?_
            exact ih26 (i26 + 1) (upd a_g45_26 (Int32.toNatClampNeg (nI i26)) v74) (by omega) (by omega) _ _ _ hP hD hS (lv_sub hl [0, 1, 2, 3, 4] rfl)
      exact J26 _ 0 G45 (by omega) (Nat.lt_succ_self _) _ _ _ hP hD hS (lv_sub hl [0, 1, 2, 3, 4] rfl)
    · skip
      have hc35 : ¬ (0 ≤ p2 ∧ p2 ≤ 3) := bz_0 hw34 c35
      refine lv_iconst (v := (-1)) hx hb dX8_moved_21 (by decide) ?_
      refine k_iret (u := [(oX8 g z23 (nI mn) g2 g3 g4 g5 g6 g7 g8 g9 g10 (nI ml) g12 g13 gi14 g15 g16 g17 z20 g19 g20 g21 g22 g23 g24 g25 g26 g27 g28 z18 z19 (nI z21) (nI z22) g33 g34 g35 g36 g37 g38 g39 gi40 g41 g42 gi43 g44 g45), (aIc cI g2 8 G2), (aIc cI g3 8 G3), (aIc cI g4 8 G4), (aIc cI g5 8 G5), (aIc cI g6 8 G6), (aIc cI g7 8 G7), (aIc cI g8 8 G8), (aIc cI g10 64 G10), (aIc cI g12 10 G12), (aIc cI g13 10 G13), (aIc cI g19 8 z3), (aIc cI g20 8 z4), (aIc cI g21 8 z5), (aIc cI g22 8 z6), (aIc cI g23 8 z7), (aIc cI g24 8 z8), (aIc cI g25 8 z9), (aIc cI g26 8 z10), (aIc cI g27 8 z11), (aIc cI g28 8 z12), (aIc cI g33 8 z13), (aIc cI g34 8 z14), (aIc cI g35 8 z15), (aIc cI g36 8 z16), (aJc cJ g37 8 z17), (aIc cI g45 8 G45)]) hx hb hr hlk (k_sub hP [1, 2, 3, 4, 5, 6, 7, 8, 9, 10, 11, 12, 13, 14, 15, 16, 17, 18, 19, 20, 21, 22, 23, 24, 25, 26, 0] rfl) (hD.sub [1, 2, 3, 4, 5, 6, 7, 8, 9, 10, 11, 12, 13, 14, 15, 16, 17, 18, 19, 20, 21, 22, 23, 24, 25, 26, 0] (by decide +kernel) rfl) hS dX8_moved_22 ?_
      exact ⟨z3, z4, z5, z6, z7, z8, z9, z10, z11, z12, z13, z14, z15, z16, z17, z18, z19, z20, z21, z22, z23, G45, hz24, hz25, hz26, hz27, hz28, hz29, rfl⟩

