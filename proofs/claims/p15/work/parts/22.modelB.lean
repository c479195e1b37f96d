theorem dX8_clause_0 : decode cX8_clause 0 = .ok (.aload_n 0, 1) := by decide +kernel
theorem dX8_clause_1 : decode cX8_clause 1 = .ok (.iconst 0, 1) := by decide +kernel
theorem dX8_clause_2 : decode cX8_clause 2 = .ok (.putfield 116, 3) := by decide +kernel
theorem dX8_clause_5 : decode cX8_clause 5 = .ok (.aload_n 0, 1) := by decide +kernel
theorem dX8_clause_6 : decode cX8_clause 6 = .ok (.iload_n 1, 1) := by decide +kernel
theorem dX8_clause_7 : decode cX8_clause 7 = .ok (.invokevirtual 140, 3) := by decide +kernel
theorem dX8_clause_10 : decode cX8_clause 10 = .ok (.ifCond .eq 47, 3) := by decide +kernel
theorem dX8_clause_13 : decode cX8_clause 13 = .ok (.iload_n 2, 1) := by decide +kernel
theorem dX8_clause_14 : decode cX8_clause 14 = .ok (.i2l, 1) := by decide +kernel
theorem dX8_clause_15 : decode cX8_clause 15 = .ok (.lconst 0, 1) := by decide +kernel
theorem dX8_clause_16 : decode cX8_clause 16 = .ok (.ldc2_w 144, 3) := by decide +kernel
theorem dX8_clause_19 : decode cX8_clause 19 = .ok (.invokestatic 123, 3) := by decide +kernel
theorem dX8_clause_22 : decode cX8_clause 22 = .ok (.ifCond .eq 35, 3) := by decide +kernel
theorem dX8_clause_25 : decode cX8_clause 25 = .ok (.iload_n 3, 1) := by decide +kernel
theorem dX8_clause_26 : decode cX8_clause 26 = .ok (.i2l, 1) := by decide +kernel
theorem dX8_clause_27 : decode cX8_clause 27 = .ok (.lconst 0, 1) := by decide +kernel
theorem dX8_clause_28 : decode cX8_clause 28 = .ok (.ldc2_w 138, 3) := by decide +kernel
theorem dX8_clause_31 : decode cX8_clause 31 = .ok (.invokestatic 123, 3) := by decide +kernel
theorem dX8_clause_34 : decode cX8_clause 34 = .ok (.ifCond .eq 23, 3) := by decide +kernel
theorem dX8_clause_37 : decode cX8_clause 37 = .ok (.aload_n 0, 1) := by decide +kernel
theorem dX8_clause_38 : decode cX8_clause 38 = .ok (.getfield 25, 3) := by decide +kernel
theorem dX8_clause_41 : decode cX8_clause 41 = .ok (.iload_n 1, 1) := by decide +kernel
theorem dX8_clause_42 : decode cX8_clause 42 = .ok (.iaload, 1) := by decide +kernel
theorem dX8_clause_43 : decode cX8_clause 43 = .ok (.iload_n 2, 1) := by decide +kernel
theorem dX8_clause_44 : decode cX8_clause 44 = .ok (.if_icmp .ne 15, 3) := by decide +kernel
theorem dX8_clause_47 : decode cX8_clause 47 = .ok (.aload_n 0, 1) := by decide +kernel
theorem dX8_clause_48 : decode cX8_clause 48 = .ok (.getfield 28, 3) := by decide +kernel
theorem dX8_clause_51 : decode cX8_clause 51 = .ok (.iload_n 1, 1) := by decide +kernel
theorem dX8_clause_52 : decode cX8_clause 52 = .ok (.iaload, 1) := by decide +kernel
theorem dX8_clause_53 : decode cX8_clause 53 = .ok (.iload_n 3, 1) := by decide +kernel
theorem dX8_clause_54 : decode cX8_clause 54 = .ok (.if_icmp .ne 5, 3) := by decide +kernel
theorem dX8_clause_57 : decode cX8_clause 57 = .ok (.iconst 0, 1) := by decide +kernel
theorem dX8_clause_58 : decode cX8_clause 58 = .ok (.ireturn, 1) := by decide +kernel
theorem dX8_clause_59 : decode cX8_clause 59 = .ok (.aload_n 0, 1) := by decide +kernel
theorem dX8_clause_60 : decode cX8_clause 60 = .ok (.getfield 25, 3) := by decide +kernel
theorem dX8_clause_63 : decode cX8_clause 63 = .ok (.iload_n 1, 1) := by decide +kernel
theorem dX8_clause_64 : decode cX8_clause 64 = .ok (.iload_n 2, 1) := by decide +kernel
theorem dX8_clause_65 : decode cX8_clause 65 = .ok (.iastore, 1) := by decide +kernel
theorem dX8_clause_66 : decode cX8_clause 66 = .ok (.aload_n 0, 1) := by decide +kernel
theorem dX8_clause_67 : decode cX8_clause 67 = .ok (.getfield 28, 3) := by decide +kernel
theorem dX8_clause_70 : decode cX8_clause 70 = .ok (.iload_n 1, 1) := by decide +kernel
theorem dX8_clause_71 : decode cX8_clause 71 = .ok (.iload_n 3, 1) := by decide +kernel
theorem dX8_clause_72 : decode cX8_clause 72 = .ok (.iastore, 1) := by decide +kernel
theorem dX8_clause_73 : decode cX8_clause 73 = .ok (.iconst 1, 1) := by decide +kernel
theorem dX8_clause_74 : decode cX8_clause 74 = .ok (.ireturn, 1) := by decide +kernel
theorem gX8_clause_X8_in : GoodIn wtX8_clause (va_wsS RX8 123 yX8_in wtX8_in) := tb_good (tb_s0 wd_177 wd_178 wd_5 wd_179)
theorem gX8_clause_X8_isPolicy : GoodIn wtX8_clause (wsV RX8 140 RX8 yX8_isPolicy wtX8_isPolicy) := tb_good (tb_v0 wd_198 wd_199 wd_200 wd_5 wd_201)
set_option maxHeartbeats 4000000 in
set_option maxRecDepth 100000 in
theorem m_X8_clause (l : Launch) (D : va_G) (cI cJ : ClassId) (sz : Nat) (g g2 g3 g4 g5 g6 g7 g8 g9 g10 g12 g13 g15 g16 g17 g19 g20 g21 g22 g23 g24 g25 g26 g27 g28 g33 g34 g35 g36 g37 g38 g39 g41 g42 g44 g45 mn ml mv : Nat) (gi0 gi14 gi18 gi29 gi30 gi32 gi40 gi43 p0 p1 p2 : Int32) (G7 G8 : Nat → Int32) (hmn : mn ≤ 8) : Met l yX8_clause wtX8_clause { frames := 2, cells := 0, slots := 0, locals := 46 } (cPc D cI cJ [.ref g, .int p0, .int p1, .int p2] sz [(oX8 g gi0 (nI mn) g2 g3 g4 g5 g6 g7 g8 g9 g10 (nI ml) g12 g13 gi14 g15 g16 g17 gi18 g19 g20 g21 g22 g23 g24 g25 g26 g27 g28 gi29 gi30 (nI mv) gi32 g33 g34 g35 g36 g37 g38 g39 gi40 g41 g42 gi43 g44 g45), (aIc cI g7 8 G7), (aIc cI g8 8 G8)]) (cQi D (fun r u => (((0 ≤ p0 ∧ p0 ≤ nI mn - 1) ∧ (0 ≤ p1 ∧ p1 ≤ 3) ∧ (0 ≤ p2 ∧ p2 ≤ 255) ∧ ¬ (G7 (Int32.toNatClampNeg p0) = p1 ∧ G8 (Int32.toNatClampNeg p0) = p2)) ∧ r = 1 ∧ u = [(oX8 g 0 (nI mn) g2 g3 g4 g5 g6 g7 g8 g9 g10 (nI ml) g12 g13 gi14 g15 g16 g17 gi18 g19 g20 g21 g22 g23 g24 g25 g26 g27 g28 gi29 gi30 (nI mv) gi32 g33 g34 g35 g36 g37 g38 g39 gi40 g41 g42 gi43 g44 g45), (aIc cI g7 8 (upd G7 (Int32.toNatClampNeg p0) p1)), (aIc cI g8 8 (upd G8 (Int32.toNatClampNeg p0) p2))]) ∨ ((¬ ((0 ≤ p0 ∧ p0 ≤ nI mn - 1) ∧ (0 ≤ p1 ∧ p1 ≤ 3) ∧ (0 ≤ p2 ∧ p2 ≤ 255) ∧ ¬ (G7 (Int32.toNatClampNeg p0) = p1 ∧ G8 (Int32.toNatClampNeg p0) = p2))) ∧ r = 0 ∧ u = [(oX8 g 0 (nI mn) g2 g3 g4 g5 g6 g7 g8 g9 g10 (nI ml) g12 g13 gi14 g15 g16 g17 gi18 g19 g20 g21 g22 g23 g24 g25 g26 g27 g28 gi29 gi30 (nI mv) gi32 g33 g34 g35 g36 g37 g38 g39 gi40 g41 g42 gi43 g44 g45), (aIc cI g7 8 G7), (aIc cI g8 8 G8)])) (va_A [(oX8 g gi0 (nI mn) g2 g3 g4 g5 g6 g7 g8 g9 g10 (nI ml) g12 g13 gi14 g15 g16 g17 gi18 g19 g20 g21 g22 g23 g24 g25 g26 g27 g28 gi29 gi30 (nI mv) gi32 g33 g34 g35 g36 g37 g38 g39 gi40 g41 g42 gi43 g44 g45), (aIc cI g7 8 G7), (aIc cI g8 8 G8)] sz)) 0 0 (va_A [(oX8 g gi0 (nI mn) g2 g3 g4 g5 g6 g7 g8 g9 g10 (nI ml) g12 g13 gi14 g15 g16 g17 gi18 g19 g20 g21 g22 g23 g24 g25 g26 g27 g28 gi29 gi30 (nI mv) gi32 g33 g34 g35 g36 g37 g38 g39 gi40 g41 g42 gi43 g44 g45), (aIc cI g7 8 G7), (aIc cI g8 8 G8)] sz) := by
  refine k_ofW (Qc := cQi D (fun r u => (((0 ≤ p0 ∧ p0 ≤ nI mn - 1) ∧ (0 ≤ p1 ∧ p1 ≤ 3) ∧ (0 ≤ p2 ∧ p2 ≤ 255) ∧ ¬ (G7 (Int32.toNatClampNeg p0) = p1 ∧ G8 (Int32.toNatClampNeg p0) = p2)) ∧ r = 1 ∧ u = [(oX8 g 0 (nI mn) g2 g3 g4 g5 g6 g7 g8 g9 g10 (nI ml) g12 g13 gi14 g15 g16 g17 gi18 g19 g20 g21 g22 g23 g24 g25 g26 g27 g28 gi29 gi30 (nI mv) gi32 g33 g34 g35 g36 g37 g38 g39 gi40 g41 g42 gi43 g44 g45), (aIc cI g7 8 (upd G7 (Int32.toNatClampNeg p0) p1)), (aIc cI g8 8 (upd G8 (Int32.toNatClampNeg p0) p2))]) ∨ ((¬ ((0 ≤ p0 ∧ p0 ≤ nI mn - 1) ∧ (0 ≤ p1 ∧ p1 ≤ 3) ∧ (0 ≤ p2 ∧ p2 ≤ 255) ∧ ¬ (G7 (Int32.toNatClampNeg p0) = p1 ∧ G8 (Int32.toNatClampNeg p0) = p2))) ∧ r = 0 ∧ u = [(oX8 g 0 (nI mn) g2 g3 g4 g5 g6 g7 g8 g9 g10 (nI ml) g12 g13 gi14 g15 g16 g17 gi18 g19 g20 g21 g22 g23 g24 g25 g26 g27 g28 gi29 gi30 (nI mv) gi32 g33 g34 g35 g36 g37 g38 g39 gi40 g41 g42 gi43 g44 g45), (aIc cI g7 8 G7), (aIc cI g8 8 G8)]))) (by decide) rfl (Nat.le_of_ble_eq_true rfl) ?_
  intro p e s m below meth c A ls hx hb hr hml hts hown hlk hnm hsz hE hP hD hS hA hl
  have hown : s.vm.findClass RX8 = some m.cls := hown
  have hiX8 : ∀ w ∈ u_ws RX8 TX8 46, w ∈ wtX8_clause := fun w h => List.mem_cons_of_mem _ (iuX8 w h)
  have hl : lv_has ls 4 [(0, .ref g), (1, .int p0), (2, .int p1), (3, .int p2)] := hl
  refine lv_aload_n hx hb dX8_clause_0 rfl (lv_at hl 0 rfl) ?_
  refine lv_iconst (v := 0) hx hb dX8_clause_1 (by decide) ?_
  refine va_put (D := D) (ci := 8) (v := .int 0) (ty := .int) (C := RX8) (T := TX8) (N := 46) hx hb hts hiX8 tyX8 tyX8_ok nmX8 hown hE.1 hP hD hS 0 rfl rfl 0 (by decide) (hts _ (List.mem_cons_of_mem _ wd_171)) (fun _ h9 => h9) rfl (by decide +kernel) rfl rfl (Nat.le_of_ble_eq_true rfl) dX8_clause_2 (fun H locs hP hD hS => ?_)
  refine k_re (w := [(oX8 g 0 (nI mn) g2 g3 g4 g5 g6 g7 g8 g9 g10 (nI ml) g12 g13 gi14 g15 g16 g17 gi18 g19 g20 g21 g22 g23 g24 g25 g26 g27 g28 gi29 gi30 (nI mv) gi32 g33 g34 g35 g36 g37 g38 g39 gi40 g41 g42 gi43 g44 g45), (aIc cI g7 8 G7), (aIc cI g8 8 G8)]) hP hD (fun hP hD => ?_)
  refine lv_aload_n hx hb dX8_clause_5 rfl (lv_at hl 0 rfl) ?_
  refine lv_iload_n hx hb dX8_clause_6 rfl (lv_at hl 1 rfl) ?_
  refine k_iS (va_runV (As := [.int p0]) (rest := []) ⟨hx, hb, hml, hown, hts⟩ (m_X8_isPolicy l D cI cJ H.size g g2 g3 g4 g5 g6 g7 g8 g9 g10 g12 g13 g15 g16 g17 g19 g20 g21 g22 g23 g24 g25 g26 g27 g28 g33 g34 g35 g36 g37 g38 g39 g41 g42 g44 g45 mn ml mv 0 gi14 gi18 gi29 gi30 gi32 gi40 gi43 p0) (cwV 1 hts gX8_clause_X8_isPolicy rfl rfl rfl (by decide +kernel) ⟨Nat.le_of_ble_eq_true rfl, Nat.le_of_ble_eq_true rfl⟩) (k_preV hE hP hD [0] (by decide +kernel) rfl 0 rfl rfl) rfl rfl hl.1 rfl (lv_room (Nat.le_of_ble_eq_true rfl)) dX8_clause_7 ⟨Nat.le_of_ble_eq_true rfl, Nat.le_of_ble_eq_true rfl⟩) hP hD hS hA [0] rfl (fun _ _ ⟨_, h9⟩ => h9) (fun r1 H locs hw2 hP hD hS => ?_)
  obtain ⟨hb3, -⟩ := hw2
  refine lv_if_eq (tgt := 57) hx hb dX8_clause_10 (by decide) (fun c4 => ?_) (fun c4 => ?_)
  · skip
    have hc4 : ¬ (0 ≤ p0 ∧ p0 ≤ nI mn - 1) := bz_0 hb3 c4
    refine lv_iconst (v := 0) hx hb dX8_clause_57 (by decide) ?_
    refine k_zret (u := [(oX8 g 0 (nI mn) g2 g3 g4 g5 g6 g7 g8 g9 g10 (nI ml) g12 g13 gi14 g15 g16 g17 gi18 g19 g20 g21 g22 g23 g24 g25 g26 g27 g28 gi29 gi30 (nI mv) gi32 g33 g34 g35 g36 g37 g38 g39 gi40 g41 g42 gi43 g44 g45), (aIc cI g7 8 G7), (aIc cI g8 8 G8)]) hx hb hr (by decide) hlk hP hD hS dX8_clause_58 ?_
    exact Or.inr ⟨(fun q => hc4 q.1), rfl, rfl⟩
  · skip
    have hc4 : 0 ≤ p0 ∧ p0 ≤ nI mn - 1 := bz_1 hb3 c4
    refine lv_iload_n hx hb dX8_clause_13 rfl (lv_at hl 2 rfl) ?_
    refine lv_i2l hx hb dX8_clause_14 rfl ?_
    refine lv_lconst (v := 0) hx hb dX8_clause_15 (by decide) ?_
    refine lv_ldc2 (v := 3) hx hb hown (hts _ (List.mem_cons_of_mem _ wd_197)) dX8_clause_16 ?_
    refine k_iS (va_runS (As := [.long (Int32.toInt64 p1), .long 0, .long 3]) (rest := []) ⟨hx, hb, hml, hown, hts⟩ (m_X8_in l D cI cJ H.size (Int32.toInt64 p1) 0 3) (va_cwS 3 hts gX8_clause_X8_in rfl rfl rfl (by decide +kernel) ⟨Nat.le_of_ble_eq_true rfl, Nat.le_of_ble_eq_true rfl⟩) (k_pre hE hP hD [] (by decide +kernel) rfl) rfl rfl hl.1 rfl (lv_room (Nat.le_of_ble_eq_true rfl)) dX8_clause_19 ⟨Nat.le_of_ble_eq_true rfl, Nat.le_of_ble_eq_true rfl⟩) hP hD hS hA [] rfl (fun _ _ h9 => h9.2) (fun r5 H locs hw6 hP hD hS => ?_)
    obtain ⟨hw6, -⟩ := hw6
    have hw7 : r5 = bz (0 ≤ p1 ∧ p1 ≤ 3) := by rw [hw6]; exact bz_c (w3 (a := p1) (lo := 0) (hi := 3) (by decide) (by decide))
    refine lv_if_eq (tgt := 57) hx hb dX8_clause_22 (by decide) (fun c8 => ?_) (fun c8 => ?_)
    · skip
      have hc8 : ¬ (0 ≤ p1 ∧ p1 ≤ 3) := bz_0 hw7 c8
      refine lv_iconst (v := 0) hx hb dX8_clause_57 (by decide) ?_
      refine k_zret (u := [(oX8 g 0 (nI mn) g2 g3 g4 g5 g6 g7 g8 g9 g10 (nI ml) g12 g13 gi14 g15 g16 g17 gi18 g19 g20 g21 g22 g23 g24 g25 g26 g27 g28 gi29 gi30 (nI mv) gi32 g33 g34 g35 g36 g37 g38 g39 gi40 g41 g42 gi43 g44 g45), (aIc cI g7 8 G7), (aIc cI g8 8 G8)]) hx hb hr (by decide) hlk hP hD hS dX8_clause_58 ?_
      exact Or.inr ⟨(fun q => hc8 q.2.1), rfl, rfl⟩
    · skip
      have hc8 : 0 ≤ p1 ∧ p1 ≤ 3 := bz_1 hw7 c8
      refine lv_iload_n hx hb dX8_clause_25 rfl (lv_at hl 3 rfl) ?_
      refine lv_i2l hx hb dX8_clause_26 rfl ?_
      refine lv_lconst (v := 0) hx hb dX8_clause_27 (by decide) ?_
      refine lv_ldc2 (v := 255) hx hb hown (hts _ (List.mem_cons_of_mem _ wd_175)) dX8_clause_28 ?_
      refine k_iS (va_runS (As := [.long (Int32.toInt64 p2), .long 0, .long 255]) (rest := []) ⟨hx, hb, hml, hown, hts⟩ (m_X8_in l D cI cJ H.size (Int32.toInt64 p2) 0 255) (va_cwS 3 hts gX8_clause_X8_in rfl rfl rfl (by decide +kernel) ⟨Nat.le_of_ble_eq_true rfl, Nat.le_of_ble_eq_true rfl⟩) (k_pre hE hP hD [] (by decide +kernel) rfl) rfl rfl hl.1 rfl (lv_room (Nat.le_of_ble_eq_true rfl)) dX8_clause_31 ⟨Nat.le_of_ble_eq_true rfl, Nat.le_of_ble_eq_true rfl⟩) hP hD hS hA [] rfl (fun _ _ h9 => h9.2) (fun r9 H locs hw10 hP hD hS => ?_)
      obtain ⟨hw10, -⟩ := hw10
      have hw11 : r9 = bz (0 ≤ p2 ∧ p2 ≤ 255) := by rw [hw10]; exact bz_c (w3 (a := p2) (lo := 0) (hi := 255) (by decide) (by decide))
      refine lv_if_eq (tgt := 57) hx hb dX8_clause_34 (by decide) (fun c12 => ?_) (fun c12 => ?_)
      · skip
        have hc12 : ¬ (0 ≤ p2 ∧ p2 ≤ 255) := bz_0 hw11 c12
        refine lv_iconst (v := 0) hx hb dX8_clause_57 (by decide) ?_
        refine k_zret (u := [(oX8 g 0 (nI mn) g2 g3 g4 g5 g6 g7 g8 g9 g10 (nI ml) g12 g13 gi14 g15 g16 g17 gi18 g19 g20 g21 g22 g23 g24 g25 g26 g27 g28 gi29 gi30 (nI mv) gi32 g33 g34 g35 g36 g37 g38 g39 gi40 g41 g42 gi43 g44 g45), (aIc cI g7 8 G7), (aIc cI g8 8 G8)]) hx hb hr (by decide) hlk hP hD hS dX8_clause_58 ?_
        exact Or.inr ⟨(fun q => hc12 q.2.2.1), rfl, rfl⟩
      · skip
        have hc12 : 0 ≤ p2 ∧ p2 ≤ 255 := bz_1 hw11 c12
        refine lv_aload_n hx hb dX8_clause_37 rfl (lv_at hl 0 rfl) ?_
        refine va_get (D := D) (ci := 8) (v := .ref g7) (C := RX8) (T := TX8) (N := 46) hx hb hts hiX8 hown hE.1 hP 0 rfl rfl 7 (by decide) (hts _ (List.mem_cons_of_mem _ wd_121)) (fun _ h9 => h9) rfl dX8_clause_38 ?_
        refine lv_iload_n hx hb dX8_clause_41 rfl (lv_at hl 1 rfl) ?_
        refine va_iald hx hb hE.1 hP 1 0 rfl rfl (by obtain ⟨j9, h9, e9⟩ := wi_n (by omega) hc4; rw [e9]; exact vp_in_nI (by omega) (by decide)) dX8_clause_42 ?_
        refine lv_iload_n hx hb dX8_clause_43 rfl (lv_at hl 2 rfl) ?_
        refine lv_icmp_ne (tgt := 59) hx hb dX8_clause_44 (by decide) (fun c13 => ?_) (fun c13 => ?_)
        · skip
          refine lv_aload_n hx hb dX8_clause_59 rfl (lv_at hl 0 rfl) ?_
          refine va_get (D := D) (ci := 8) (v := .ref g7) (C := RX8) (T := TX8) (N := 46) hx hb hts hiX8 hown hE.1 hP 0 rfl rfl 7 (by decide) (hts _ (List.mem_cons_of_mem _ wd_121)) (fun _ h9 => h9) rfl dX8_clause_60 ?_
          refine lv_iload_n hx hb dX8_clause_63 rfl (lv_at hl 1 rfl) ?_
          refine lv_iload_n hx hb dX8_clause_64 rfl (lv_at hl 2 rfl) ?_
          refine va_iast hx hb hE.1 hP hD hS 1 0 rfl rfl (by obtain ⟨j9, h9, e9⟩ := wi_n (by omega) hc4; rw [e9]; exact vp_in_nI (by omega) (by decide)) dX8_clause_65 (fun H locs hP hD hS => ?_)
          refine k_re (w := [(oX8 g 0 (nI mn) g2 g3 g4 g5 g6 g7 g8 g9 g10 (nI ml) g12 g13 gi14 g15 g16 g17 gi18 g19 g20 g21 g22 g23 g24 g25 g26 g27 g28 gi29 gi30 (nI mv) gi32 g33 g34 g35 g36 g37 g38 g39 gi40 g41 g42 gi43 g44 g45), (aIc cI g7 8 (upd G7 (Int32.toNatClampNeg p0) p1)), (aIc cI g8 8 G8)]) hP hD (fun hP hD => ?_)
          refine lv_aload_n hx hb dX8_clause_66 rfl (lv_at hl 0 rfl) ?_
          refine va_get (D := D) (ci := 8) (v := .ref g8) (C := RX8) (T := TX8) (N := 46) hx hb hts hiX8 hown hE.1 hP 0 rfl rfl 8 (by decide) (hts _ (List.mem_cons_of_mem _ wd_122)) (fun _ h9 => h9) rfl dX8_clause_67 ?_
          refine lv_iload_n hx hb dX8_clause_70 rfl (lv_at hl 1 rfl) ?_
          refine lv_iload_n hx hb dX8_clause_71 rfl (lv_at hl 3 rfl) ?_
          refine va_iast hx hb hE.1 hP hD hS 2 0 rfl rfl (by obtain ⟨j9, h9, e9⟩ := wi_n (by omega) hc4; rw [e9]; exact vp_in_nI (by omega) (by decide)) dX8_clause_72 (fun H locs hP hD hS => ?_)
          refine k_re (w := [(oX8 g 0 (nI mn) g2 g3 g4 g5 g6 g7 g8 g9 g10 (nI ml) g12 g13 gi14 g15 g16 g17 gi18 g19 g20 g21 g22 g23 g24 g25 g26 g27 g28 gi29 gi30 (nI mv) gi32 g33 g34 g35 g36 g37 g38 g39 gi40 g41 g42 gi43 g44 g45), (aIc cI g7 8 (upd G7 (Int32.toNatClampNeg p0) p1)), (aIc cI g8 8 (upd G8 (Int32.toNatClampNeg p0) p2))]) hP hD (fun hP hD => ?_)
          refine lv_iconst (v := 1) hx hb dX8_clause_73 (by decide) ?_
          refine k_zret (u := [(oX8 g 0 (nI mn) g2 g3 g4 g5 g6 g7 g8 g9 g10 (nI ml) g12 g13 gi14 g15 g16 g17 gi18 g19 g20 g21 g22 g23 g24 g25 g26 g27 g28 gi29 gi30 (nI mv) gi32 g33 g34 g35 g36 g37 g38 g39 gi40 g41 g42 gi43 g44 g45), (aIc cI g7 8 (upd G7 (Int32.toNatClampNeg p0) p1)), (aIc cI g8 8 (upd G8 (Int32.toNatClampNeg p0) p2))]) hx hb hr (by decide) hlk hP hD hS dX8_clause_74 ?_
          exact Or.inl ⟨⟨hc4, hc8, hc12, (fun q => c13 q.1)⟩, rfl, rfl⟩
        · skip
          refine lv_aload_n hx hb dX8_clause_47 rfl (lv_at hl 0 rfl) ?_
          refine va_get (D := D) (ci := 8) (v := .ref g8) (C := RX8) (T := TX8) (N := 46) hx hb hts hiX8 hown hE.1 hP 0 rfl rfl 8 (by decide) (hts _ (List.mem_cons_of_mem _ wd_122)) (fun _ h9 => h9) rfl dX8_clause_48 ?_
          refine lv_iload_n hx hb dX8_clause_51 rfl (lv_at hl 1 rfl) ?_
          refine va_iald hx hb hE.1 hP 2 0 rfl rfl (by obtain ⟨j9, h9, e9⟩ := wi_n (by omega) hc4; rw [e9]; exact vp_in_nI (by omega) (by decide)) dX8_clause_52 ?_
          refine lv_iload_n hx hb dX8_clause_53 rfl (lv_at hl 3 rfl) ?_
          refine lv_icmp_ne (tgt := 59) hx hb dX8_clause_54 (by decide) (fun c14 => ?_) (fun c14 => ?_)
          · skip
            refine lv_aload_n hx hb dX8_clause_59 rfl (lv_at hl 0 rfl) ?_
            refine va_get (D := D) (ci := 8) (v := .ref g7) (C := RX8) (T := TX8) (N := 46) hx hb hts hiX8 hown hE.1 hP 0 rfl rfl 7 (by decide) (hts _ (List.mem_cons_of_mem _ wd_121)) (fun _ h9 => h9) rfl dX8_clause_60 ?_
            refine lv_iload_n hx hb dX8_clause_63 rfl (lv_at hl 1 rfl) ?_
            refine lv_iload_n hx hb dX8_clause_64 rfl (lv_at hl 2 rfl) ?_
            refine va_iast hx hb hE.1 hP hD hS 1 0 rfl rfl (by obtain ⟨j9, h9, e9⟩ := wi_n (by omega) hc4; rw [e9]; exact vp_in_nI (by omega) (by decide)) dX8_clause_65 (fun H locs hP hD hS => ?_)
            refine k_re (w := [(oX8 g 0 (nI mn) g2 g3 g4 g5 g6 g7 g8 g9 g10 (nI ml) g12 g13 gi14 g15 g16 g17 gi18 g19 g20 g21 g22 g23 g24 g25 g26 g27 g28 gi29 gi30 (nI mv) gi32 g33 g34 g35 g36 g37 g38 g39 gi40 g41 g42 gi43 g44 g45), (aIc cI g7 8 (upd G7 (Int32.toNatClampNeg p0) p1)), (aIc cI g8 8 G8)]) hP hD (fun hP hD => ?_)
            refine lv_aload_n hx hb dX8_clause_66 rfl (lv_at hl 0 rfl) ?_
            refine va_get (D := D) (ci := 8) (v := .ref g8) (C := RX8) (T := TX8) (N := 46) hx hb hts hiX8 hown hE.1 hP 0 rfl rfl 8 (by decide) (hts _ (List.mem_cons_of_mem _ wd_122)) (fun _ h9 => h9) rfl dX8_clause_67 ?_
            refine lv_iload_n hx hb dX8_clause_70 rfl (lv_at hl 1 rfl) ?_
            refine lv_iload_n hx hb dX8_clause_71 rfl (lv_at hl 3 rfl) ?_
            refine va_iast hx hb hE.1 hP hD hS 2 0 rfl rfl (by obtain ⟨j9, h9, e9⟩ := wi_n (by omega) hc4; rw [e9]; exact vp_in_nI (by omega) (by decide)) dX8_clause_72 (fun H locs hP hD hS => ?_)
            refine k_re (w := [(oX8 g 0 (nI mn) g2 g3 g4 g5 g6 g7 g8 g9 g10 (nI ml) g12 g13 gi14 g15 g16 g17 gi18 g19 g20 g21 g22 g23 g24 g25 g26 g27 g28 gi29 gi30 (nI mv) gi32 g33 g34 g35 g36 g37 g38 g39 gi40 g41 g42 gi43 g44 g45), (aIc cI g7 8 (upd G7 (Int32.toNatClampNeg p0) p1)), (aIc cI g8 8 (upd G8 (Int32.toNatClampNeg p0) p2))]) hP hD (fun hP hD => ?_)
            refine lv_iconst (v := 1) hx hb dX8_clause_73 (by decide) ?_
            refine k_zret (u := [(oX8 g 0 (nI mn) g2 g3 g4 g5 g6 g7 g8 g9 g10 (nI ml) g12 g13 gi14 g15 g16 g17 gi18 g19 g20 g21 g22 g23 g24 g25 g26 g27 g28 gi29 gi30 (nI mv) gi32 g33 g34 g35 g36 g37 g38 g39 gi40 g41 g42 gi43 g44 g45), (aIc cI g7 8 (upd G7 (Int32.toNatClampNeg p0) p1)), (aIc cI g8 8 (upd G8 (Int32.toNatClampNeg p0) p2))]) hx hb hr (by decide) hlk hP hD hS dX8_clause_74 ?_
            exact Or.inl ⟨⟨hc4, hc8, hc12, (fun q => c14 q.2)⟩, rfl, rfl⟩
          · skip
            refine lv_iconst (v := 0) hx hb dX8_clause_57 (by decide) ?_
            refine k_zret (u := [(oX8 g 0 (nI mn) g2 g3 g4 g5 g6 g7 g8 g9 g10 (nI ml) g12 g13 gi14 g15 g16 g17 gi18 g19 g20 g21 g22 g23 g24 g25 g26 g27 g28 gi29 gi30 (nI mv) gi32 g33 g34 g35 g36 g37 g38 g39 gi40 g41 g42 gi43 g44 g45), (aIc cI g7 8 G7), (aIc cI g8 8 G8)]) hx hb hr (by decide) hlk hP hD hS dX8_clause_58 ?_
            exact Or.inr ⟨(fun q => q.2.2.2 ⟨c13, c14⟩), rfl, rfl⟩
theorem dX8_limit_0 : decode cX8_limit 0 = .ok (.aload_n 0, 1) := by decide +kernel
theorem dX8_limit_1 : decode cX8_limit 1 = .ok (.iconst 0, 1) := by decide +kernel
theorem dX8_limit_2 : decode cX8_limit 2 = .ok (.putfield 116, 3) := by decide +kernel
theorem dX8_limit_5 : decode cX8_limit 5 = .ok (.aload_n 0, 1) := by decide +kernel
theorem dX8_limit_6 : decode cX8_limit 6 = .ok (.iload_n 1, 1) := by decide +kernel
theorem dX8_limit_7 : decode cX8_limit 7 = .ok (.invokevirtual 140, 3) := by decide +kernel
theorem dX8_limit_10 : decode cX8_limit 10 = .ok (.ifCond .eq 25, 3) := by decide +kernel
theorem dX8_limit_13 : decode cX8_limit 13 = .ok (.iload_n 2, 1) := by decide +kernel
theorem dX8_limit_14 : decode cX8_limit 14 = .ok (.i2l, 1) := by decide +kernel
theorem dX8_limit_15 : decode cX8_limit 15 = .ok (.lconst 1, 1) := by decide +kernel
theorem dX8_limit_16 : decode cX8_limit 16 = .ok (.ldc2_w 132, 3) := by decide +kernel
theorem dX8_limit_19 : decode cX8_limit 19 = .ok (.invokestatic 123, 3) := by decide +kernel
theorem dX8_limit_22 : decode cX8_limit 22 = .ok (.ifCond .eq 13, 3) := by decide +kernel
theorem dX8_limit_25 : decode cX8_limit 25 = .ok (.aload_n 0, 1) := by decide +kernel
theorem dX8_limit_26 : decode cX8_limit 26 = .ok (.getfield 7, 3) := by decide +kernel
theorem dX8_limit_29 : decode cX8_limit 29 = .ok (.iload_n 1, 1) := by decide +kernel
theorem dX8_limit_30 : decode cX8_limit 30 = .ok (.iaload, 1) := by decide +kernel
theorem dX8_limit_31 : decode cX8_limit 31 = .ok (.iload_n 2, 1) := by decide +kernel
theorem dX8_limit_32 : decode cX8_limit 32 = .ok (.if_icmp .ne 5, 3) := by decide +kernel
theorem dX8_limit_35 : decode cX8_limit 35 = .ok (.iconst 0, 1) := by decide +kernel
theorem dX8_limit_36 : decode cX8_limit 36 = .ok (.ireturn, 1) := by decide +kernel
theorem dX8_limit_37 : decode cX8_limit 37 = .ok (.aload_n 0, 1) := by decide +kernel
theorem dX8_limit_38 : decode cX8_limit 38 = .ok (.getfield 7, 3) := by decide +kernel
theorem dX8_limit_41 : decode cX8_limit 41 = .ok (.iload_n 1, 1) := by decide +kernel
theorem dX8_limit_42 : decode cX8_limit 42 = .ok (.iload_n 2, 1) := by decide +kernel
theorem dX8_limit_43 : decode cX8_limit 43 = .ok (.iastore, 1) := by decide +kernel
theorem dX8_limit_44 : decode cX8_limit 44 = .ok (.iconst 1, 1) := by decide +kernel
theorem dX8_limit_45 : decode cX8_limit 45 = .ok (.ireturn, 1) := by decide +kernel
theorem gX8_limit_X8_in : GoodIn wtX8_limit (va_wsS RX8 123 yX8_in wtX8_in) := tb_good (tb_s0 wd_177 wd_178 wd_5 wd_179)
theorem gX8_limit_X8_isPolicy : GoodIn wtX8_limit (wsV RX8 140 RX8 yX8_isPolicy wtX8_isPolicy) := tb_good (tb_v0 wd_198 wd_199 wd_200 wd_5 wd_201)
set_option maxHeartbeats 4000000 in
set_option maxRecDepth 100000 in
theorem m_X8_limit (l : Launch) (D : va_G) (cI cJ : ClassId) (sz : Nat) (g g2 g3 g4 g5 g6 g7 g8 g9 g10 g12 g13 g15 g16 g17 g19 g20 g21 g22 g23 g24 g25 g26 g27 g28 g33 g34 g35 g36 g37 g38 g39 g41 g42 g44 g45 mn ml mv : Nat) (gi0 gi14 gi18 gi29 gi30 gi32 gi40 gi43 p0 p1 : Int32) (G2 : Nat → Int32) (hmn : mn ≤ 8) : Met l yX8_limit wtX8_limit { frames := 2, cells := 0, slots := 0, locals := 46 } (cPc D cI cJ [.ref g, .int p0, .int p1] sz [(oX8 g gi0 (nI mn) g2 g3 g4 g5 g6 g7 g8 g9 g10 (nI ml) g12 g13 gi14 g15 g16 g17 gi18 g19 g20 g21 g22 g23 g24 g25 g26 g27 g28 gi29 gi30 (nI mv) gi32 g33 g34 g35 g36 g37 g38 g39 gi40 g41 g42 gi43 g44 g45), (aIc cI g2 8 G2)]) (cQi D (fun r u => (((0 ≤ p0 ∧ p0 ≤ nI mn - 1) ∧ (1 ≤ p1 ∧ p1 ≤ 1000000) ∧ ¬ G2 (Int32.toNatClampNeg p0) = p1) ∧ r = 1 ∧ u = [(oX8 g 0 (nI mn) g2 g3 g4 g5 g6 g7 g8 g9 g10 (nI ml) g12 g13 gi14 g15 g16 g17 gi18 g19 g20 g21 g22 g23 g24 g25 g26 g27 g28 gi29 gi30 (nI mv) gi32 g33 g34 g35 g36 g37 g38 g39 gi40 g41 g42 gi43 g44 g45), (aIc cI g2 8 (upd G2 (Int32.toNatClampNeg p0) p1))]) ∨ ((¬ ((0 ≤ p0 ∧ p0 ≤ nI mn - 1) ∧ (1 ≤ p1 ∧ p1 ≤ 1000000) ∧ ¬ G2 (Int32.toNatClampNeg p0) = p1)) ∧ r = 0 ∧ u = [(oX8 g 0 (nI mn) g2 g3 g4 g5 g6 g7 g8 g9 g10 (nI ml) g12 g13 gi14 g15 g16 g17 gi18 g19 g20 g21 g22 g23 g24 g25 g26 g27 g28 gi29 gi30 (nI mv) gi32 g33 g34 g35 g36 g37 g38 g39 gi40 g41 g42 gi43 g44 g45), (aIc cI g2 8 G2)])) (va_A [(oX8 g gi0 (nI mn) g2 g3 g4 g5 g6 g7 g8 g9 g10 (nI ml) g12 g13 gi14 g15 g16 g17 gi18 g19 g20 g21 g22 g23 g24 g25 g26 g27 g28 gi29 gi30 (nI mv) gi32 g33 g34 g35 g36 g37 g38 g39 gi40 g41 g42 gi43 g44 g45), (aIc cI g2 8 G2)] sz)) 0 0 (va_A [(oX8 g gi0 (nI mn) g2 g3 g4 g5 g6 g7 g8 g9 g10 (nI ml) g12 g13 gi14 g15 g16 g17 gi18 g19 g20 g21 g22 g23 g24 g25 g26 g27 g28 gi29 gi30 (nI mv) gi32 g33 g34 g35 g36 g37 g38 g39 gi40 g41 g42 gi43 g44 g45), (aIc cI g2 8 G2)] sz) := by
  refine k_ofW (Qc := cQi D (fun r u => (((0 ≤ p0 ∧ p0 ≤ nI mn - 1) ∧ (1 ≤ p1 ∧ p1 ≤ 1000000) ∧ ¬ G2 (Int32.toNatClampNeg p0) = p1) ∧ r = 1 ∧ u = [(oX8 g 0 (nI mn) g2 g3 g4 g5 g6 g7 g8 g9 g10 (nI ml) g12 g13 gi14 g15 g16 g17 gi18 g19 g20 g21 g22 g23 g24 g25 g26 g27 g28 gi29 gi30 (nI mv) gi32 g33 g34 g35 g36 g37 g38 g39 gi40 g41 g42 gi43 g44 g45), (aIc cI g2 8 (upd G2 (Int32.toNatClampNeg p0) p1))]) ∨ ((¬ ((0 ≤ p0 ∧ p0 ≤ nI mn - 1) ∧ (1 ≤ p1 ∧ p1 ≤ 1000000) ∧ ¬ G2 (Int32.toNatClampNeg p0) = p1)) ∧ r = 0 ∧ u = [(oX8 g 0 (nI mn) g2 g3 g4 g5 g6 g7 g8 g9 g10 (nI ml) g12 g13 gi14 g15 g16 g17 gi18 g19 g20 g21 g22 g23 g24 g25 g26 g27 g28 gi29 gi30 (nI mv) gi32 g33 g34 g35 g36 g37 g38 g39 gi40 g41 g42 gi43 g44 g45), (aIc cI g2 8 G2)]))) (by decide) rfl (Nat.le_of_ble_eq_true rfl) ?_
  intro p e s m below meth c A ls hx hb hr hml hts hown hlk hnm hsz hE hP hD hS hA hl
  have hown : s.vm.findClass RX8 = some m.cls := hown
  have hiX8 : ∀ w ∈ u_ws RX8 TX8 46, w ∈ wtX8_limit := fun w h => List.mem_cons_of_mem _ (iuX8 w h)
  have hl : lv_has ls 3 [(0, .ref g), (1, .int p0), (2, .int p1)] := hl
  refine lv_aload_n hx hb dX8_limit_0 rfl (lv_at hl 0 rfl) ?_
  refine lv_iconst (v := 0) hx hb dX8_limit_1 (by decide) ?_
  refine va_put (D := D) (ci := 8) (v := .int 0) (ty := .int) (C := RX8) (T := TX8) (N := 46) hx hb hts hiX8 tyX8 tyX8_ok nmX8 hown hE.1 hP hD hS 0 rfl rfl 0 (by decide) (hts _ (List.mem_cons_of_mem _ wd_171)) (fun _ h9 => h9) rfl (by decide +kernel) rfl rfl (Nat.le_of_ble_eq_true rfl) dX8_limit_2 (fun H locs hP hD hS => ?_)
  refine k_re (w := [(oX8 g 0 (nI mn) g2 g3 g4 g5 g6 g7 g8 g9 g10 (nI ml) g12 g13 gi14 g15 g16 g17 gi18 g19 g20 g21 g22 g23 g24 g25 g26 g27 g28 gi29 gi30 (nI mv) gi32 g33 g34 g35 g36 g37 g38 g39 gi40 g41 g42 gi43 g44 g45), (aIc cI g2 8 G2)]) hP hD (fun hP hD => ?_)
  refine lv_aload_n hx hb dX8_limit_5 rfl (lv_at hl 0 rfl) ?_
  refine lv_iload_n hx hb dX8_limit_6 rfl (lv_at hl 1 rfl) ?_
  refine k_iS (va_runV (As := [.int p0]) (rest := []) ⟨hx, hb, hml, hown, hts⟩ (m_X8_isPolicy l D cI cJ H.size g g2 g3 g4 g5 g6 g7 g8 g9 g10 g12 g13 g15 g16 g17 g19 g20 g21 g22 g23 g24 g25 g26 g27 g28 g33 g34 g35 g36 g37 g38 g39 g41 g42 g44 g45 mn ml mv 0 gi14 gi18 gi29 gi30 gi32 gi40 gi43 p0) (cwV 1 hts gX8_limit_X8_isPolicy rfl rfl rfl (by decide +kernel) ⟨Nat.le_of_ble_eq_true rfl, Nat.le_of_ble_eq_true rfl⟩) (k_preV hE hP hD [0] (by decide +kernel) rfl 0 rfl rfl) rfl rfl hl.1 rfl (lv_room (Nat.le_of_ble_eq_true rfl)) dX8_limit_7 ⟨Nat.le_of_ble_eq_true rfl, Nat.le_of_ble_eq_true rfl⟩) hP hD hS hA [0] rfl (fun _ _ ⟨_, h9⟩ => h9) (fun r1 H locs hw2 hP hD hS => ?_)
  obtain ⟨hb3, -⟩ := hw2
  refine lv_if_eq (tgt := 35) hx hb dX8_limit_10 (by decide) (fun c4 => ?_) (fun c4 => ?_)
  · skip
    have hc4 : ¬ (0 ≤ p0 ∧ p0 ≤ nI mn - 1) := bz_0 hb3 c4
    refine lv_iconst (v := 0) hx hb dX8_limit_35 (by decide) ?_
    refine k_zret (u := [(oX8 g 0 (nI mn) g2 g3 g4 g5 g6 g7 g8 g9 g10 (nI ml) g12 g13 gi14 g15 g16 g17 gi18 g19 g20 g21 g22 g23 g24 g25 g26 g27 g28 gi29 gi30 (nI mv) gi32 g33 g34 g35 g36 g37 g38 g39 gi40 g41 g42 gi43 g44 g45), (aIc cI g2 8 G2)]) hx hb hr (by decide) hlk hP hD hS dX8_limit_36 ?_
    exact Or.inr ⟨(fun q => hc4 q.1), rfl, rfl⟩
  · skip
    have hc4 : 0 ≤ p0 ∧ p0 ≤ nI mn - 1 := bz_1 hb3 c4
    refine lv_iload_n hx hb dX8_limit_13 rfl (lv_at hl 2 rfl) ?_
    refine lv_i2l hx hb dX8_limit_14 rfl ?_
    refine lv_lconst (v := 1) hx hb dX8_limit_15 (by decide) ?_
    refine lv_ldc2 (v := 1000000) hx hb hown (hts _ (List.mem_cons_of_mem _ wd_172)) dX8_limit_16 ?_
    refine k_iS (va_runS (As := [.long (Int32.toInt64 p1), .long 1, .long 1000000]) (rest := []) ⟨hx, hb, hml, hown, hts⟩ (m_X8_in l D cI cJ H.size (Int32.toInt64 p1) 1 1000000) (va_cwS 3 hts gX8_limit_X8_in rfl rfl rfl (by decide +kernel) ⟨Nat.le_of_ble_eq_true rfl, Nat.le_of_ble_eq_true rfl⟩) (k_pre hE hP hD [] (by decide +kernel) rfl) rfl rfl hl.1 rfl (lv_room (Nat.le_of_ble_eq_true rfl)) dX8_limit_19 ⟨Nat.le_of_ble_eq_true rfl, Nat.le_of_ble_eq_true rfl⟩) hP hD hS hA [] rfl (fun _ _ h9 => h9.2) (fun r5 H locs hw6 hP hD hS => ?_)
    obtain ⟨hw6, -⟩ := hw6
    have hw7 : r5 = bz (1 ≤ p1 ∧ p1 ≤ 1000000) := by rw [hw6]; exact bz_c (w3 (a := p1) (lo := 1) (hi := 1000000) (by decide) (by decide))
    refine lv_if_eq (tgt := 35) hx hb dX8_limit_22 (by decide) (fun c8 => ?_) (fun c8 => ?_)
    · skip
      have hc8 : ¬ (1 ≤ p1 ∧ p1 ≤ 1000000) := bz_0 hw7 c8
      refine lv_iconst (v := 0) hx hb dX8_limit_35 (by decide) ?_
      refine k_zret (u := [(oX8 g 0 (nI mn) g2 g3 g4 g5 g6 g7 g8 g9 g10 (nI ml) g12 g13 gi14 g15 g16 g17 gi18 g19 g20 g21 g22 g23 g24 g25 g26 g27 g28 gi29 gi30 (nI mv) gi32 g33 g34 g35 g36 g37 g38 g39 gi40 g41 g42 gi43 g44 g45), (aIc cI g2 8 G2)]) hx hb hr (by decide) hlk hP hD hS dX8_limit_36 ?_
      exact Or.inr ⟨(fun q => hc8 q.2.1), rfl, rfl⟩
    · skip
      have hc8 : 1 ≤ p1 ∧ p1 ≤ 1000000 := bz_1 hw7 c8
      refine lv_aload_n hx hb dX8_limit_25 rfl (lv_at hl 0 rfl) ?_
      refine va_get (D := D) (ci := 8) (v := .ref g2) (C := RX8) (T := TX8) (N := 46) hx hb hts hiX8 hown hE.1 hP 0 rfl rfl 2 (by decide) (hts _ (List.mem_cons_of_mem _ wd_116)) (fun _ h9 => h9) rfl dX8_limit_26 ?_
      refine lv_iload_n hx hb dX8_limit_29 rfl (lv_at hl 1 rfl) ?_
      refine va_iald hx hb hE.1 hP 1 0 rfl rfl (by obtain ⟨j9, h9, e9⟩ := wi_n (by omega) hc4; rw [e9]; exact vp_in_nI (by omega) (by decide)) dX8_limit_30 ?_
      refine lv_iload_n hx hb dX8_limit_31 rfl (lv_at hl 2 rfl) ?_
      refine lv_icmp_ne (tgt := 37) hx hb dX8_limit_32 (by decide) (fun c9 => ?_) (fun c9 => ?_)
      · skip
        refine lv_aload_n hx hb dX8_limit_37 rfl (lv_at hl 0 rfl) ?_
        refine va_get (D := D) (ci := 8) (v := .ref g2) (C := RX8) (T := TX8) (N := 46) hx hb hts hiX8 hown hE.1 hP 0 rfl rfl 2 (by decide) (hts _ (List.mem_cons_of_mem _ wd_116)) (fun _ h9 => h9) rfl dX8_limit_38 ?_
        refine lv_iload_n hx hb dX8_limit_41 rfl (lv_at hl 1 rfl) ?_
        refine lv_iload_n hx hb dX8_limit_42 rfl (lv_at hl 2 rfl) ?_
        refine va_iast hx hb hE.1 hP hD hS 1 0 rfl rfl (by obtain ⟨j9, h9, e9⟩ := wi_n (by omega) hc4; rw [e9]; exact vp_in_nI (by omega) (by decide)) dX8_limit_43 (fun H locs hP hD hS => ?_)
        refine k_re (w := [(oX8 g 0 (nI mn) g2 g3 g4 g5 g6 g7 g8 g9 g10 (nI ml) g12 g13 gi14 g15 g16 g17 gi18 g19 g20 g21 g22 g23 g24 g25 g26 g27 g28 gi29 gi30 (nI mv) gi32 g33 g34 g35 g36 g37 g38 g39 gi40 g41 g42 gi43 g44 g45), (aIc cI g2 8 (upd G2 (Int32.toNatClampNeg p0) p1))]) hP hD (fun hP hD => ?_)
        refine lv_iconst (v := 1) hx hb dX8_limit_44 (by decide) ?_
        refine k_zret (u := [(oX8 g 0 (nI mn) g2 g3 g4 g5 g6 g7 g8 g9 g10 (nI ml) g12 g13 gi14 g15 g16 g17 gi18 g19 g20 g21 g22 g23 g24 g25 g26 g27 g28 gi29 gi30 (nI mv) gi32 g33 g34 g35 g36 g37 g38 g39 gi40 g41 g42 gi43 g44 g45), (aIc cI g2 8 (upd G2 (Int32.toNatClampNeg p0) p1))]) hx hb hr (by decide) hlk hP hD hS dX8_limit_45 ?_
        exact Or.inl ⟨⟨hc4, hc8, c9⟩, rfl, rfl⟩
      · skip
        refine lv_iconst (v := 0) hx hb dX8_limit_35 (by decide) ?_
        refine k_zret (u := [(oX8 g 0 (nI mn) g2 g3 g4 g5 g6 g7 g8 g9 g10 (nI ml) g12 g13 gi14 g15 g16 g17 gi18 g19 g20 g21 g22 g23 g24 g25 g26 g27 g28 gi29 gi30 (nI mv) gi32 g33 g34 g35 g36 g37 g38 g39 gi40 g41 g42 gi43 g44 g45), (aIc cI g2 8 G2)]) hx hb hr (by decide) hlk hP hD hS dX8_limit_36 ?_
        exact Or.inr ⟨(fun q => q.2.2 c9), rfl, rfl⟩
theorem vi_s {a b : Int32} {np : Nat} (hnp : np ≤ 8) (h : 0 ≤ a ∧ a ≤ nI np - 1) (h2 : 0 ≤ b ∧ b ≤ 7) : vp_in ((8 * a) + b) 64 := by
  obtain ⟨i, hi, rfl⟩ := wi_n (by omega) h
  obtain ⟨j, hj, rfl⟩ := wi_07 h2
  have e : 8 * nI i + nI j = nI (8 * i + j) := by rw [show (8 : Int32) = nI 8 from rfl, pk_mul, nI_add]
  rw [e]
  exact vp_in_nI (by omega) (by decide)
theorem vi_32m {a b : Int32} (h : (0 ≤ a ∧ a ≤ 3) ∧ 0 ≤ b ∧ b ≤ 7) : vp_in ((8 * a) + b) 32 := by
  obtain ⟨⟨h1, h2⟩, h3⟩ := h
  obtain ⟨i, hi, rfl⟩ := nI_of2 (n := 3) rfl (Int32.not_lt.mpr h1) h2
  obtain ⟨j, hj, rfl⟩ := wi_07 h3
  have e : 8 * nI i + nI j = nI (8 * i + j) := by rw [show (8 : Int32) = nI 8 from rfl, pk_mul, nI_add]
  rw [e]
  exact vp_in_nI (by omega) (by decide)
theorem dX8_sub_0 : decode cX8_sub 0 = .ok (.aload_n 0, 1) := by decide +kernel
theorem dX8_sub_1 : decode cX8_sub 1 = .ok (.iconst 0, 1) := by decide +kernel
theorem dX8_sub_2 : decode cX8_sub 2 = .ok (.putfield 116, 3) := by decide +kernel
theorem dX8_sub_5 : decode cX8_sub 5 = .ok (.aload_n 0, 1) := by decide +kernel
theorem dX8_sub_6 : decode cX8_sub 6 = .ok (.iload_n 1, 1) := by decide +kernel
theorem dX8_sub_7 : decode cX8_sub 7 = .ok (.invokevirtual 140, 3) := by decide +kernel
theorem dX8_sub_10 : decode cX8_sub 10 = .ok (.ifCond .eq 41, 3) := by decide +kernel
theorem dX8_sub_13 : decode cX8_sub 13 = .ok (.iload_n 2, 1) := by decide +kernel
theorem dX8_sub_14 : decode cX8_sub 14 = .ok (.invokestatic 146, 3) := by decide +kernel
theorem dX8_sub_17 : decode cX8_sub 17 = .ok (.ifCond .eq 34, 3) := by decide +kernel
theorem dX8_sub_20 : decode cX8_sub 20 = .ok (.iload_n 3, 1) := by decide +kernel
theorem dX8_sub_21 : decode cX8_sub 21 = .ok (.i2l, 1) := by decide +kernel
theorem dX8_sub_22 : decode cX8_sub 22 = .ok (.ldc2_w 149, 3) := by decide +kernel
theorem dX8_sub_25 : decode cX8_sub 25 = .ok (.ldc2_w 132, 3) := by decide +kernel
theorem dX8_sub_28 : decode cX8_sub 28 = .ok (.invokestatic 123, 3) := by decide +kernel
theorem dX8_sub_31 : decode cX8_sub 31 = .ok (.ifCond .eq 20, 3) := by decide +kernel
theorem dX8_sub_34 : decode cX8_sub 34 = .ok (.aload_n 0, 1) := by decide +kernel
theorem dX8_sub_35 : decode cX8_sub 35 = .ok (.getfield 34, 3) := by decide +kernel
theorem dX8_sub_38 : decode cX8_sub 38 = .ok (.bipush 8, 2) := by decide +kernel
theorem dX8_sub_40 : decode cX8_sub 40 = .ok (.iload_n 1, 1) := by decide +kernel
theorem dX8_sub_41 : decode cX8_sub 41 = .ok (.imul, 1) := by decide +kernel
theorem dX8_sub_42 : decode cX8_sub 42 = .ok (.iload_n 2, 1) := by decide +kernel
theorem dX8_sub_43 : decode cX8_sub 43 = .ok (.iadd, 1) := by decide +kernel
theorem dX8_sub_44 : decode cX8_sub 44 = .ok (.iaload, 1) := by decide +kernel
theorem dX8_sub_45 : decode cX8_sub 45 = .ok (.iload_n 3, 1) := by decide +kernel
theorem dX8_sub_46 : decode cX8_sub 46 = .ok (.iconst 1, 1) := by decide +kernel
theorem dX8_sub_47 : decode cX8_sub 47 = .ok (.iadd, 1) := by decide +kernel
theorem dX8_sub_48 : decode cX8_sub 48 = .ok (.if_icmp .ne 5, 3) := by decide +kernel
theorem dX8_sub_51 : decode cX8_sub 51 = .ok (.iconst 0, 1) := by decide +kernel
theorem dX8_sub_52 : decode cX8_sub 52 = .ok (.ireturn, 1) := by decide +kernel
theorem dX8_sub_53 : decode cX8_sub 53 = .ok (.aload_n 0, 1) := by decide +kernel
theorem dX8_sub_54 : decode cX8_sub 54 = .ok (.getfield 34, 3) := by decide +kernel
theorem dX8_sub_57 : decode cX8_sub 57 = .ok (.bipush 8, 2) := by decide +kernel
theorem dX8_sub_59 : decode cX8_sub 59 = .ok (.iload_n 1, 1) := by decide +kernel
theorem dX8_sub_60 : decode cX8_sub 60 = .ok (.imul, 1) := by decide +kernel
theorem dX8_sub_61 : decode cX8_sub 61 = .ok (.iload_n 2, 1) := by decide +kernel
theorem dX8_sub_62 : decode cX8_sub 62 = .ok (.iadd, 1) := by decide +kernel
theorem dX8_sub_63 : decode cX8_sub 63 = .ok (.iload_n 3, 1) := by decide +kernel
theorem dX8_sub_64 : decode cX8_sub 64 = .ok (.iconst 1, 1) := by decide +kernel
theorem dX8_sub_65 : decode cX8_sub 65 = .ok (.iadd, 1) := by decide +kernel
theorem dX8_sub_66 : decode cX8_sub 66 = .ok (.iastore, 1) := by decide +kernel
theorem dX8_sub_67 : decode cX8_sub 67 = .ok (.iconst 1, 1) := by decide +kernel
theorem dX8_sub_68 : decode cX8_sub 68 = .ok (.ireturn, 1) := by decide +kernel
theorem gX8_sub_X8_in : GoodIn wtX8_sub (va_wsS RX8 123 yX8_in wtX8_in) := tb_good (tb_s0 wd_177 wd_178 wd_5 wd_179)
theorem gX8_sub_X8_isItem : GoodIn wtX8_sub (va_wsS RX8 146 yX8_isItem wtX8_isItem) := tb_good (tb_s0 wd_226 wd_227 wd_5 wd_228)
theorem gX8_sub_X8_isPolicy : GoodIn wtX8_sub (wsV RX8 140 RX8 yX8_isPolicy wtX8_isPolicy) := tb_good (tb_v0 wd_198 wd_199 wd_200 wd_5 wd_201)
set_option maxHeartbeats 4000000 in
set_option maxRecDepth 100000 in
theorem m_X8_sub (l : Launch) (D : va_G) (cI cJ : ClassId) (sz : Nat) (g g2 g3 g4 g5 g6 g7 g8 g9 g10 g12 g13 g15 g16 g17 g19 g20 g21 g22 g23 g24 g25 g26 g27 g28 g33 g34 g35 g36 g37 g38 g39 g41 g42 g44 g45 mn ml mv : Nat) (gi0 gi14 gi18 gi29 gi30 gi32 gi40 gi43 p0 p1 p2 : Int32) (G10 : Nat → Int32) (hmn : mn ≤ 8) : Met l yX8_sub wtX8_sub { frames := 2, cells := 0, slots := 0, locals := 46 } (cPc D cI cJ [.ref g, .int p0, .int p1, .int p2] sz [(oX8 g gi0 (nI mn) g2 g3 g4 g5 g6 g7 g8 g9 g10 (nI ml) g12 g13 gi14 g15 g16 g17 gi18 g19 g20 g21 g22 g23 g24 g25 g26 g27 g28 gi29 gi30 (nI mv) gi32 g33 g34 g35 g36 g37 g38 g39 gi40 g41 g42 gi43 g44 g45), (aIc cI g10 64 G10)]) (cQi D (fun r u => (((0 ≤ p0 ∧ p0 ≤ nI mn - 1) ∧ (0 ≤ p1 ∧ p1 ≤ 7) ∧ ((-1) ≤ p2 ∧ p2 ≤ 1000000) ∧ ¬ G10 (Int32.toNatClampNeg ((8 * p0) + p1)) = (p2 + 1)) ∧ r = 1 ∧ u = [(oX8 g 0 (nI mn) g2 g3 g4 g5 g6 g7 g8 g9 g10 (nI ml) g12 g13 gi14 g15 g16 g17 gi18 g19 g20 g21 g22 g23 g24 g25 g26 g27 g28 gi29 gi30 (nI mv) gi32 g33 g34 g35 g36 g37 g38 g39 gi40 g41 g42 gi43 g44 g45), (aIc cI g10 64 (upd G10 (Int32.toNatClampNeg ((8 * p0) + p1)) (p2 + 1)))]) ∨ ((¬ ((0 ≤ p0 ∧ p0 ≤ nI mn - 1) ∧ (0 ≤ p1 ∧ p1 ≤ 7) ∧ ((-1) ≤ p2 ∧ p2 ≤ 1000000) ∧ ¬ G10 (Int32.toNatClampNeg ((8 * p0) + p1)) = (p2 + 1))) ∧ r = 0 ∧ u = [(oX8 g 0 (nI mn) g2 g3 g4 g5 g6 g7 g8 g9 g10 (nI ml) g12 g13 gi14 g15 g16 g17 gi18 g19 g20 g21 g22 g23 g24 g25 g26 g27 g28 gi29 gi30 (nI mv) gi32 g33 g34 g35 g36 g37 g38 g39 gi40 g41 g42 gi43 g44 g45), (aIc cI g10 64 G10)])) (va_A [(oX8 g gi0 (nI mn) g2 g3 g4 g5 g6 g7 g8 g9 g10 (nI ml) g12 g13 gi14 g15 g16 g17 gi18 g19 g20 g21 g22 g23 g24 g25 g26 g27 g28 gi29 gi30 (nI mv) gi32 g33 g34 g35 g36 g37 g38 g39 gi40 g41 g42 gi43 g44 g45), (aIc cI g10 64 G10)] sz)) 0 0 (va_A [(oX8 g gi0 (nI mn) g2 g3 g4 g5 g6 g7 g8 g9 g10 (nI ml) g12 g13 gi14 g15 g16 g17 gi18 g19 g20 g21 g22 g23 g24 g25 g26 g27 g28 gi29 gi30 (nI mv) gi32 g33 g34 g35 g36 g37 g38 g39 gi40 g41 g42 gi43 g44 g45), (aIc cI g10 64 G10)] sz) := by
  refine k_ofW (Qc := cQi D (fun r u => (((0 ≤ p0 ∧ p0 ≤ nI mn - 1) ∧ (0 ≤ p1 ∧ p1 ≤ 7) ∧ ((-1) ≤ p2 ∧ p2 ≤ 1000000) ∧ ¬ G10 (Int32.toNatClampNeg ((8 * p0) + p1)) = (p2 + 1)) ∧ r = 1 ∧ u = [(oX8 g 0 (nI mn) g2 g3 g4 g5 g6 g7 g8 g9 g10 (nI ml) g12 g13 gi14 g15 g16 g17 gi18 g19 g20 g21 g22 g23 g24 g25 g26 g27 g28 gi29 gi30 (nI mv) gi32 g33 g34 g35 g36 g37 g38 g39 gi40 g41 g42 gi43 g44 g45), (aIc cI g10 64 (upd G10 (Int32.toNatClampNeg ((8 * p0) + p1)) (p2 + 1)))]) ∨ ((¬ ((0 ≤ p0 ∧ p0 ≤ nI mn - 1) ∧ (0 ≤ p1 ∧ p1 ≤ 7) ∧ ((-1) ≤ p2 ∧ p2 ≤ 1000000) ∧ ¬ G10 (Int32.toNatClampNeg ((8 * p0) + p1)) = (p2 + 1))) ∧ r = 0 ∧ u = [(oX8 g 0 (nI mn) g2 g3 g4 g5 g6 g7 g8 g9 g10 (nI ml) g12 g13 gi14 g15 g16 g17 gi18 g19 g20 g21 g22 g23 g24 g25 g26 g27 g28 gi29 gi30 (nI mv) gi32 g33 g34 g35 g36 g37 g38 g39 gi40 g41 g42 gi43 g44 g45), (aIc cI g10 64 G10)]))) (by decide) rfl (Nat.le_of_ble_eq_true rfl) ?_
  intro p e s m below meth c A ls hx hb hr hml hts hown hlk hnm hsz hE hP hD hS hA hl
  have hown : s.vm.findClass RX8 = some m.cls := hown
  have hiX8 : ∀ w ∈ u_ws RX8 TX8 46, w ∈ wtX8_sub := fun w h => List.mem_cons_of_mem _ (iuX8 w h)
  have hl : lv_has ls 4 [(0, .ref g), (1, .int p0), (2, .int p1), (3, .int p2)] := hl
  refine lv_aload_n hx hb dX8_sub_0 rfl (lv_at hl 0 rfl) ?_
  refine lv_iconst (v := 0) hx hb dX8_sub_1 (by decide) ?_
  refine va_put (D := D) (ci := 8) (v := .int 0) (ty := .int) (C := RX8) (T := TX8) (N := 46) hx hb hts hiX8 tyX8 tyX8_ok nmX8 hown hE.1 hP hD hS 0 rfl rfl 0 (by decide) (hts _ (List.mem_cons_of_mem _ wd_171)) (fun _ h9 => h9) rfl (by decide +kernel) rfl rfl (Nat.le_of_ble_eq_true rfl) dX8_sub_2 (fun H locs hP hD hS => ?_)
  refine k_re (w := [(oX8 g 0 (nI mn) g2 g3 g4 g5 g6 g7 g8 g9 g10 (nI ml) g12 g13 gi14 g15 g16 g17 gi18 g19 g20 g21 g22 g23 g24 g25 g26 g27 g28 gi29 gi30 (nI mv) gi32 g33 g34 g35 g36 g37 g38 g39 gi40 g41 g42 gi43 g44 g45), (aIc cI g10 64 G10)]) hP hD (fun hP hD => ?_)
  refine lv_aload_n hx hb dX8_sub_5 rfl (lv_at hl 0 rfl) ?_
  refine lv_iload_n hx hb dX8_sub_6 rfl (lv_at hl 1 rfl) ?_
  refine k_iS (va_runV (As := [.int p0]) (rest := []) ⟨hx, hb, hml, hown, hts⟩ (m_X8_isPolicy l D cI cJ H.size g g2 g3 g4 g5 g6 g7 g8 g9 g10 g12 g13 g15 g16 g17 g19 g20 g21 g22 g23 g24 g25 g26 g27 g28 g33 g34 g35 g36 g37 g38 g39 g41 g42 g44 g45 mn ml mv 0 gi14 gi18 gi29 gi30 gi32 gi40 gi43 p0) (cwV 1 hts gX8_sub_X8_isPolicy rfl rfl rfl (by decide +kernel) ⟨Nat.le_of_ble_eq_true rfl, Nat.le_of_ble_eq_true rfl⟩) (k_preV hE hP hD [0] (by decide +kernel) rfl 0 rfl rfl) rfl rfl hl.1 rfl (lv_room (Nat.le_of_ble_eq_true rfl)) dX8_sub_7 ⟨Nat.le_of_ble_eq_true rfl, Nat.le_of_ble_eq_true rfl⟩) hP hD hS hA [0] rfl (fun _ _ ⟨_, h9⟩ => h9) (fun r1 H locs hw2 hP hD hS => ?_)
  obtain ⟨hb3, -⟩ := hw2
  refine lv_if_eq (tgt := 51) hx hb dX8_sub_10 (by decide) (fun c4 => ?_) (fun c4 => ?_)
  · skip
    have hc4 : ¬ (0 ≤ p0 ∧ p0 ≤ nI mn - 1) := bz_0 hb3 c4
    refine lv_iconst (v := 0) hx hb dX8_sub_51 (by decide) ?_
    refine k_zret (u := [(oX8 g 0 (nI mn) g2 g3 g4 g5 g6 g7 g8 g9 g10 (nI ml) g12 g13 gi14 g15 g16 g17 gi18 g19 g20 g21 g22 g23 g24 g25 g26 g27 g28 gi29 gi30 (nI mv) gi32 g33 g34 g35 g36 g37 g38 g39 gi40 g41 g42 gi43 g44 g45), (aIc cI g10 64 G10)]) hx hb hr (by decide) hlk hP hD hS dX8_sub_52 ?_
    exact Or.inr ⟨(fun q => hc4 q.1), rfl, rfl⟩
  · skip
    have hc4 : 0 ≤ p0 ∧ p0 ≤ nI mn - 1 := bz_1 hb3 c4
    refine lv_iload_n hx hb dX8_sub_13 rfl (lv_at hl 2 rfl) ?_
    refine k_iS (va_runS (As := [.int p1]) (rest := []) ⟨hx, hb, hml, hown, hts⟩ (m_X8_isItem l D cI cJ H.size p1) (va_cwS 1 hts gX8_sub_X8_isItem rfl rfl rfl (by decide +kernel) ⟨Nat.le_of_ble_eq_true rfl, Nat.le_of_ble_eq_true rfl⟩) (k_pre hE hP hD [] (by decide +kernel) rfl) rfl rfl hl.1 rfl (lv_room (Nat.le_of_ble_eq_true rfl)) dX8_sub_14 ⟨Nat.le_of_ble_eq_true rfl, Nat.le_of_ble_eq_true rfl⟩) hP hD hS hA [] rfl (fun _ _ h9 => h9.2) (fun r5 H locs hw6 hP hD hS => ?_)
    obtain ⟨hw6, -⟩ := hw6
    refine lv_if_eq (tgt := 51) hx hb dX8_sub_17 (by decide) (fun c7 => ?_) (fun c7 => ?_)
    · skip
      have hc7 : ¬ (0 ≤ p1 ∧ p1 ≤ 7) := bz_0 hw6 c7
      refine lv_iconst (v := 0) hx hb dX8_sub_51 (by decide) ?_
      refine k_zret (u := [(oX8 g 0 (nI mn) g2 g3 g4 g5 g6 g7 g8 g9 g10 (nI ml) g12 g13 gi14 g15 g16 g17 gi18 g19 g20 g21 g22 g23 g24 g25 g26 g27 g28 gi29 gi30 (nI mv) gi32 g33 g34 g35 g36 g37 g38 g39 gi40 g41 g42 gi43 g44 g45), (aIc cI g10 64 G10)]) hx hb hr (by decide) hlk hP hD hS dX8_sub_52 ?_
      exact Or.inr ⟨(fun q => hc7 q.2.1), rfl, rfl⟩
    · skip
      have hc7 : 0 ≤ p1 ∧ p1 ≤ 7 := bz_1 hw6 c7
      refine lv_iload_n hx hb dX8_sub_20 rfl (lv_at hl 3 rfl) ?_
      refine lv_i2l hx hb dX8_sub_21 rfl ?_
      refine lv_ldc2 (v := (-1)) hx hb hown (hts _ (List.mem_cons_of_mem _ wd_225)) dX8_sub_22 ?_
      refine lv_ldc2 (v := 1000000) hx hb hown (hts _ (List.mem_cons_of_mem _ wd_172)) dX8_sub_25 ?_
      refine k_iS (va_runS (As := [.long (Int32.toInt64 p2), .long (-1), .long 1000000]) (rest := []) ⟨hx, hb, hml, hown, hts⟩ (m_X8_in l D cI cJ H.size (Int32.toInt64 p2) (-1) 1000000) (va_cwS 3 hts gX8_sub_X8_in rfl rfl rfl (by decide +kernel) ⟨Nat.le_of_ble_eq_true rfl, Nat.le_of_ble_eq_true rfl⟩) (k_pre hE hP hD [] (by decide +kernel) rfl) rfl rfl hl.1 rfl (lv_room (Nat.le_of_ble_eq_true rfl)) dX8_sub_28 ⟨Nat.le_of_ble_eq_true rfl, Nat.le_of_ble_eq_true rfl⟩) hP hD hS hA [] rfl (fun _ _ h9 => h9.2) (fun r8 H locs hw9 hP hD hS => ?_)
      obtain ⟨hw9, -⟩ := hw9
      have hw10 : r8 = bz ((-1) ≤ p2 ∧ p2 ≤ 1000000) := by rw [hw9]; exact bz_c (w3 (a := p2) (lo := (-1)) (hi := 1000000) (by decide) (by decide))
      refine lv_if_eq (tgt := 51) hx hb dX8_sub_31 (by decide) (fun c11 => ?_) (fun c11 => ?_)
      · skip
        have hc11 : ¬ ((-1) ≤ p2 ∧ p2 ≤ 1000000) := bz_0 hw10 c11
        refine lv_iconst (v := 0) hx hb dX8_sub_51 (by decide) ?_
        refine k_zret (u := [(oX8 g 0 (nI mn) g2 g3 g4 g5 g6 g7 g8 g9 g10 (nI ml) g12 g13 gi14 g15 g16 g17 gi18 g19 g20 g21 g22 g23 g24 g25 g26 g27 g28 gi29 gi30 (nI mv) gi32 g33 g34 g35 g36 g37 g38 g39 gi40 g41 g42 gi43 g44 g45), (aIc cI g10 64 G10)]) hx hb hr (by decide) hlk hP hD hS dX8_sub_52 ?_
        exact Or.inr ⟨(fun q => hc11 q.2.2.1), rfl, rfl⟩
      · skip
        have hc11 : (-1) ≤ p2 ∧ p2 ≤ 1000000 := bz_1 hw10 c11
        refine lv_aload_n hx hb dX8_sub_34 rfl (lv_at hl 0 rfl) ?_
        refine va_get (D := D) (ci := 8) (v := .ref g10) (C := RX8) (T := TX8) (N := 46) hx hb hts hiX8 hown hE.1 hP 0 rfl rfl 10 (by decide) (hts _ (List.mem_cons_of_mem _ wd_124)) (fun _ h9 => h9) rfl dX8_sub_35 ?_
        refine lv_bipush (v := 8) hx hb dX8_sub_38 (by decide) ?_
        refine lv_iload_n hx hb dX8_sub_40 rfl (lv_at hl 1 rfl) ?_
        refine lv_imul hx hb dX8_sub_41 ?_
        refine lv_iload_n hx hb dX8_sub_42 rfl (lv_at hl 2 rfl) ?_
        refine lv_iadd hx hb dX8_sub_43 ?_
        refine va_iald hx hb hE.1 hP 1 0 rfl rfl (vi_s hmn hc4 hc7) dX8_sub_44 ?_
        refine lv_iload_n hx hb dX8_sub_45 rfl (lv_at hl 3 rfl) ?_
        refine lv_iconst (v := 1) hx hb dX8_sub_46 (by decide) ?_
        refine lv_iadd hx hb dX8_sub_47 ?_
        refine lv_icmp_ne (tgt := 53) hx hb dX8_sub_48 (by decide) (fun c12 => ?_) (fun c12 => ?_)
        · skip
          refine lv_aload_n hx hb dX8_sub_53 rfl (lv_at hl 0 rfl) ?_
          refine va_get (D := D) (ci := 8) (v := .ref g10) (C := RX8) (T := TX8) (N := 46) hx hb hts hiX8 hown hE.1 hP 0 rfl rfl 10 (by decide) (hts _ (List.mem_cons_of_mem _ wd_124)) (fun _ h9 => h9) rfl dX8_sub_54 ?_
          refine lv_bipush (v := 8) hx hb dX8_sub_57 (by decide) ?_
          refine lv_iload_n hx hb dX8_sub_59 rfl (lv_at hl 1 rfl) ?_
          refine lv_imul hx hb dX8_sub_60 ?_
          refine lv_iload_n hx hb dX8_sub_61 rfl (lv_at hl 2 rfl) ?_
          refine lv_iadd hx hb dX8_sub_62 ?_
          refine lv_iload_n hx hb dX8_sub_63 rfl (lv_at hl 3 rfl) ?_
          refine lv_iconst (v := 1) hx hb dX8_sub_64 (by decide) ?_
          refine lv_iadd hx hb dX8_sub_65 ?_
          refine va_iast hx hb hE.1 hP hD hS 1 0 rfl rfl (vi_s hmn hc4 hc7) dX8_sub_66 (fun H locs hP hD hS => ?_)
          refine k_re (w := [(oX8 g 0 (nI mn) g2 g3 g4 g5 g6 g7 g8 g9 g10 (nI ml) g12 g13 gi14 g15 g16 g17 gi18 g19 g20 g21 g22 g23 g24 g25 g26 g27 g28 gi29 gi30 (nI mv) gi32 g33 g34 g35 g36 g37 g38 g39 gi40 g41 g42 gi43 g44 g45), (aIc cI g10 64 (upd G10 (Int32.toNatClampNeg ((8 * p0) + p1)) (p2 + 1)))]) hP hD (fun hP hD => ?_)
          refine lv_iconst (v := 1) hx hb dX8_sub_67 (by decide) ?_
          refine k_zret (u := [(oX8 g 0 (nI mn) g2 g3 g4 g5 g6 g7 g8 g9 g10 (nI ml) g12 g13 gi14 g15 g16 g17 gi18 g19 g20 g21 g22 g23 g24 g25 g26 g27 g28 gi29 gi30 (nI mv) gi32 g33 g34 g35 g36 g37 g38 g39 gi40 g41 g42 gi43 g44 g45), (aIc cI g10 64 (upd G10 (Int32.toNatClampNeg ((8 * p0) + p1)) (p2 + 1)))]) hx hb hr (by decide) hlk hP hD hS dX8_sub_68 ?_
          exact Or.inl ⟨⟨hc4, hc7, hc11, c12⟩, rfl, rfl⟩
        · skip
          refine lv_iconst (v := 0) hx hb dX8_sub_51 (by decide) ?_
          refine k_zret (u := [(oX8 g 0 (nI mn) g2 g3 g4 g5 g6 g7 g8 g9 g10 (nI ml) g12 g13 gi14 g15 g16 g17 gi18 g19 g20 g21 g22 g23 g24 g25 g26 g27 g28 gi29 gi30 (nI mv) gi32 g33 g34 g35 g36 g37 g38 g39 gi40 g41 g42 gi43 g44 g45), (aIc cI g10 64 G10)]) hx hb hr (by decide) hlk hP hD hS dX8_sub_52 ?_
          exact Or.inr ⟨(fun q => q.2.2.2 c12), rfl, rfl⟩
theorem dX8_value_0 : decode cX8_value 0 = .ok (.aload_n 0, 1) := by decide +kernel
theorem dX8_value_1 : decode cX8_value 1 = .ok (.iconst 0, 1) := by decide +kernel
theorem dX8_value_2 : decode cX8_value 2 = .ok (.putfield 116, 3) := by decide +kernel
theorem dX8_value_5 : decode cX8_value 5 = .ok (.iload_n 1, 1) := by decide +kernel
theorem dX8_value_6 : decode cX8_value 6 = .ok (.ifCond .eq 43, 3) := by decide +kernel
theorem dX8_value_9 : decode cX8_value 9 = .ok (.iload_n 2, 1) := by decide +kernel
theorem dX8_value_10 : decode cX8_value 10 = .ok (.invokestatic 146, 3) := by decide +kernel
theorem dX8_value_13 : decode cX8_value 13 = .ok (.ifCond .eq 25, 3) := by decide +kernel
theorem dX8_value_16 : decode cX8_value 16 = .ok (.iload_n 3, 1) := by decide +kernel
theorem dX8_value_17 : decode cX8_value 17 = .ok (.i2l, 1) := by decide +kernel
theorem dX8_value_18 : decode cX8_value 18 = .ok (.lconst 0, 1) := by decide +kernel
theorem dX8_value_19 : decode cX8_value 19 = .ok (.ldc2_w 134, 3) := by decide +kernel
theorem dX8_value_22 : decode cX8_value 22 = .ok (.invokestatic 123, 3) := by decide +kernel
theorem dX8_value_25 : decode cX8_value 25 = .ok (.ifCond .eq 13, 3) := by decide +kernel
theorem dX8_value_28 : decode cX8_value 28 = .ok (.aload_n 0, 1) := by decide +kernel
theorem dX8_value_29 : decode cX8_value 29 = .ok (.getfield 43, 3) := by decide +kernel
theorem dX8_value_32 : decode cX8_value 32 = .ok (.iload_n 2, 1) := by decide +kernel
theorem dX8_value_33 : decode cX8_value 33 = .ok (.iaload, 1) := by decide +kernel
theorem dX8_value_34 : decode cX8_value 34 = .ok (.iload_n 3, 1) := by decide +kernel
theorem dX8_value_35 : decode cX8_value 35 = .ok (.if_icmp .ne 5, 3) := by decide +kernel
theorem dX8_value_38 : decode cX8_value 38 = .ok (.iconst 0, 1) := by decide +kernel
theorem dX8_value_39 : decode cX8_value 39 = .ok (.ireturn, 1) := by decide +kernel
theorem dX8_value_40 : decode cX8_value 40 = .ok (.aload_n 0, 1) := by decide +kernel
theorem dX8_value_41 : decode cX8_value 41 = .ok (.getfield 43, 3) := by decide +kernel
theorem dX8_value_44 : decode cX8_value 44 = .ok (.iload_n 2, 1) := by decide +kernel
theorem dX8_value_45 : decode cX8_value 45 = .ok (.iload_n 3, 1) := by decide +kernel
theorem dX8_value_46 : decode cX8_value 46 = .ok (.iastore, 1) := by decide +kernel
theorem dX8_value_47 : decode cX8_value 47 = .ok (.iconst 1, 1) := by decide +kernel
theorem dX8_value_48 : decode cX8_value 48 = .ok (.ireturn, 1) := by decide +kernel
theorem dX8_value_49 : decode cX8_value 49 = .ok (.aload_n 0, 1) := by decide +kernel
theorem dX8_value_50 : decode cX8_value 50 = .ok (.iload_n 2, 1) := by decide +kernel
theorem dX8_value_51 : decode cX8_value 51 = .ok (.invokevirtual 140, 3) := by decide +kernel
theorem dX8_value_54 : decode cX8_value 54 = .ok (.ifCond .eq 25, 3) := by decide +kernel
theorem dX8_value_57 : decode cX8_value 57 = .ok (.iload_n 3, 1) := by decide +kernel
theorem dX8_value_58 : decode cX8_value 58 = .ok (.i2l, 1) := by decide +kernel
theorem dX8_value_59 : decode cX8_value 59 = .ok (.lconst 0, 1) := by decide +kernel
theorem dX8_value_60 : decode cX8_value 60 = .ok (.ldc2_w 136, 3) := by decide +kernel
theorem dX8_value_63 : decode cX8_value 63 = .ok (.invokestatic 123, 3) := by decide +kernel
theorem dX8_value_66 : decode cX8_value 66 = .ok (.ifCond .eq 13, 3) := by decide +kernel
theorem dX8_value_69 : decode cX8_value 69 = .ok (.aload_n 0, 1) := by decide +kernel
theorem dX8_value_70 : decode cX8_value 70 = .ok (.getfield 31, 3) := by decide +kernel
theorem dX8_value_73 : decode cX8_value 73 = .ok (.iload_n 2, 1) := by decide +kernel
theorem dX8_value_74 : decode cX8_value 74 = .ok (.iaload, 1) := by decide +kernel
theorem dX8_value_75 : decode cX8_value 75 = .ok (.iload_n 3, 1) := by decide +kernel
theorem dX8_value_76 : decode cX8_value 76 = .ok (.if_icmp .ne 5, 3) := by decide +kernel
theorem dX8_value_79 : decode cX8_value 79 = .ok (.iconst 0, 1) := by decide +kernel
theorem dX8_value_80 : decode cX8_value 80 = .ok (.ireturn, 1) := by decide +kernel
theorem dX8_value_81 : decode cX8_value 81 = .ok (.aload_n 0, 1) := by decide +kernel
theorem dX8_value_82 : decode cX8_value 82 = .ok (.getfield 31, 3) := by decide +kernel
theorem dX8_value_85 : decode cX8_value 85 = .ok (.iload_n 2, 1) := by decide +kernel
theorem dX8_value_86 : decode cX8_value 86 = .ok (.iload_n 3, 1) := by decide +kernel
theorem dX8_value_87 : decode cX8_value 87 = .ok (.iastore, 1) := by decide +kernel
theorem dX8_value_88 : decode cX8_value 88 = .ok (.iconst 1, 1) := by decide +kernel
theorem dX8_value_89 : decode cX8_value 89 = .ok (.ireturn, 1) := by decide +kernel
theorem gX8_value_X8_in : GoodIn wtX8_value (va_wsS RX8 123 yX8_in wtX8_in) := tb_good (tb_s0 wd_177 wd_178 wd_5 wd_179)
theorem gX8_value_X8_isItem : GoodIn wtX8_value (va_wsS RX8 146 yX8_isItem wtX8_isItem) := tb_good (tb_s0 wd_226 wd_227 wd_5 wd_228)
theorem gX8_value_X8_isPolicy : GoodIn wtX8_value (wsV RX8 140 RX8 yX8_isPolicy wtX8_isPolicy) := tb_good (tb_v0 wd_198 wd_199 wd_200 wd_5 wd_201)
set_option maxHeartbeats 4000000 in
set_option maxRecDepth 100000 in
theorem m_X8_value (l : Launch) (D : va_G) (cI cJ : ClassId) (sz : Nat) (g g2 g3 g4 g5 g6 g7 g8 g9 g10 g12 g13 g15 g16 g17 g19 g20 g21 g22 g23 g24 g25 g26 g27 g28 g33 g34 g35 g36 g37 g38 g39 g41 g42 g44 g45 mn ml mv : Nat) (gi0 gi14 gi18 gi29 gi30 gi32 gi40 gi43 p0 p1 p2 : Int32) (G9 G15 : Nat → Int32) (hmn : mn ≤ 8) : Met l yX8_value wtX8_value { frames := 2, cells := 0, slots := 0, locals := 46 } (cPc D cI cJ [.ref g, .int p0, .int p1, .int p2] sz [(oX8 g gi0 (nI mn) g2 g3 g4 g5 g6 g7 g8 g9 g10 (nI ml) g12 g13 gi14 g15 g16 g17 gi18 g19 g20 g21 g22 g23 g24 g25 g26 g27 g28 gi29 gi30 (nI mv) gi32 g33 g34 g35 g36 g37 g38 g39 gi40 g41 g42 gi43 g44 g45), (aIc cI g9 8 G9), (aIc cI g15 8 G15)]) (cQi D (fun r u => ((¬ p0 = 0 ∧ (0 ≤ p1 ∧ p1 ≤ 7) ∧ (0 ≤ p2 ∧ p2 ≤ 9000000) ∧ ¬ G15 (Int32.toNatClampNeg p1) = p2) ∧ r = 1 ∧ u = [(oX8 g 0 (nI mn) g2 g3 g4 g5 g6 g7 g8 g9 g10 (nI ml) g12 g13 gi14 g15 g16 g17 gi18 g19 g20 g21 g22 g23 g24 g25 g26 g27 g28 gi29 gi30 (nI mv) gi32 g33 g34 g35 g36 g37 g38 g39 gi40 g41 g42 gi43 g44 g45), (aIc cI g9 8 G9), (aIc cI g15 8 (upd G15 (Int32.toNatClampNeg p1) p2))]) ∨ ((p0 = 0 ∧ (0 ≤ p1 ∧ p1 ≤ nI mn - 1) ∧ (0 ≤ p2 ∧ p2 ≤ 99999) ∧ ¬ G9 (Int32.toNatClampNeg p1) = p2) ∧ r = 1 ∧ u = [(oX8 g 0 (nI mn) g2 g3 g4 g5 g6 g7 g8 g9 g10 (nI ml) g12 g13 gi14 g15 g16 g17 gi18 g19 g20 g21 g22 g23 g24 g25 g26 g27 g28 gi29 gi30 (nI mv) gi32 g33 g34 g35 g36 g37 g38 g39 gi40 g41 g42 gi43 g44 g45), (aIc cI g9 8 (upd G9 (Int32.toNatClampNeg p1) p2)), (aIc cI g15 8 G15)]) ∨ ((¬ (¬ p0 = 0 ∧ (0 ≤ p1 ∧ p1 ≤ 7) ∧ (0 ≤ p2 ∧ p2 ≤ 9000000) ∧ ¬ G15 (Int32.toNatClampNeg p1) = p2) ∧ ¬ (p0 = 0 ∧ (0 ≤ p1 ∧ p1 ≤ nI mn - 1) ∧ (0 ≤ p2 ∧ p2 ≤ 99999) ∧ ¬ G9 (Int32.toNatClampNeg p1) = p2)) ∧ r = 0 ∧ u = [(oX8 g 0 (nI mn) g2 g3 g4 g5 g6 g7 g8 g9 g10 (nI ml) g12 g13 gi14 g15 g16 g17 gi18 g19 g20 g21 g22 g23 g24 g25 g26 g27 g28 gi29 gi30 (nI mv) gi32 g33 g34 g35 g36 g37 g38 g39 gi40 g41 g42 gi43 g44 g45), (aIc cI g9 8 G9), (aIc cI g15 8 G15)])) (va_A [(oX8 g gi0 (nI mn) g2 g3 g4 g5 g6 g7 g8 g9 g10 (nI ml) g12 g13 gi14 g15 g16 g17 gi18 g19 g20 g21 g22 g23 g24 g25 g26 g27 g28 gi29 gi30 (nI mv) gi32 g33 g34 g35 g36 g37 g38 g39 gi40 g41 g42 gi43 g44 g45), (aIc cI g9 8 G9), (aIc cI g15 8 G15)] sz)) 0 0 (va_A [(oX8 g gi0 (nI mn) g2 g3 g4 g5 g6 g7 g8 g9 g10 (nI ml) g12 g13 gi14 g15 g16 g17 gi18 g19 g20 g21 g22 g23 g24 g25 g26 g27 g28 gi29 gi30 (nI mv) gi32 g33 g34 g35 g36 g37 g38 g39 gi40 g41 g42 gi43 g44 g45), (aIc cI g9 8 G9), (aIc cI g15 8 G15)] sz) := by
  refine k_ofW (Qc := cQi D (fun r u => ((¬ p0 = 0 ∧ (0 ≤ p1 ∧ p1 ≤ 7) ∧ (0 ≤ p2 ∧ p2 ≤ 9000000) ∧ ¬ G15 (Int32.toNatClampNeg p1) = p2) ∧ r = 1 ∧ u = [(oX8 g 0 (nI mn) g2 g3 g4 g5 g6 g7 g8 g9 g10 (nI ml) g12 g13 gi14 g15 g16 g17 gi18 g19 g20 g21 g22 g23 g24 g25 g26 g27 g28 gi29 gi30 (nI mv) gi32 g33 g34 g35 g36 g37 g38 g39 gi40 g41 g42 gi43 g44 g45), (aIc cI g9 8 G9), (aIc cI g15 8 (upd G15 (Int32.toNatClampNeg p1) p2))]) ∨ ((p0 = 0 ∧ (0 ≤ p1 ∧ p1 ≤ nI mn - 1) ∧ (0 ≤ p2 ∧ p2 ≤ 99999) ∧ ¬ G9 (Int32.toNatClampNeg p1) = p2) ∧ r = 1 ∧ u = [(oX8 g 0 (nI mn) g2 g3 g4 g5 g6 g7 g8 g9 g10 (nI ml) g12 g13 gi14 g15 g16 g17 gi18 g19 g20 g21 g22 g23 g24 g25 g26 g27 g28 gi29 gi30 (nI mv) gi32 g33 g34 g35 g36 g37 g38 g39 gi40 g41 g42 gi43 g44 g45), (aIc cI g9 8 (upd G9 (Int32.toNatClampNeg p1) p2)), (aIc cI g15 8 G15)]) ∨ ((¬ (¬ p0 = 0 ∧ (0 ≤ p1 ∧ p1 ≤ 7) ∧ (0 ≤ p2 ∧ p2 ≤ 9000000) ∧ ¬ G15 (Int32.toNatClampNeg p1) = p2) ∧ ¬ (p0 = 0 ∧ (0 ≤ p1 ∧ p1 ≤ nI mn - 1) ∧ (0 ≤ p2 ∧ p2 ≤ 99999) ∧ ¬ G9 (Int32.toNatClampNeg p1) = p2)) ∧ r = 0 ∧ u = [(oX8 g 0 (nI mn) g2 g3 g4 g5 g6 g7 g8 g9 g10 (nI ml) g12 g13 gi14 g15 g16 g17 gi18 g19 g20 g21 g22 g23 g24 g25 g26 g27 g28 gi29 gi30 (nI mv) gi32 g33 g34 g35 g36 g37 g38 g39 gi40 g41 g42 gi43 g44 g45), (aIc cI g9 8 G9), (aIc cI g15 8 G15)]))) (by decide) rfl (Nat.le_of_ble_eq_true rfl) ?_
  intro p e s m below meth c A ls hx hb hr hml hts hown hlk hnm hsz hE hP hD hS hA hl
  have hown : s.vm.findClass RX8 = some m.cls := hown
  have hiX8 : ∀ w ∈ u_ws RX8 TX8 46, w ∈ wtX8_value := fun w h => List.mem_cons_of_mem _ (iuX8 w h)
  have hl : lv_has ls 4 [(0, .ref g), (1, .int p0), (2, .int p1), (3, .int p2)] := hl
  refine lv_aload_n hx hb dX8_value_0 rfl (lv_at hl 0 rfl) ?_
  refine lv_iconst (v := 0) hx hb dX8_value_1 (by decide) ?_
  refine va_put (D := D) (ci := 8) (v := .int 0) (ty := .int) (C := RX8) (T := TX8) (N := 46) hx hb hts hiX8 tyX8 tyX8_ok nmX8 hown hE.1 hP hD hS 0 rfl rfl 0 (by decide) (hts _ (List.mem_cons_of_mem _ wd_171)) (fun _ h9 => h9) rfl (by decide +kernel) rfl rfl (Nat.le_of_ble_eq_true rfl) dX8_value_2 (fun H locs hP hD hS => ?_)
  refine k_re (w := [(oX8 g 0 (nI mn) g2 g3 g4 g5 g6 g7 g8 g9 g10 (nI ml) g12 g13 gi14 g15 g16 g17 gi18 g19 g20 g21 g22 g23 g24 g25 g26 g27 g28 gi29 gi30 (nI mv) gi32 g33 g34 g35 g36 g37 g38 g39 gi40 g41 g42 gi43 g44 g45), (aIc cI g9 8 G9), (aIc cI g15 8 G15)]) hP hD (fun hP hD => ?_)
  refine lv_iload_n hx hb dX8_value_5 rfl (lv_at hl 1 rfl) ?_
  refine lv_if_eq (tgt := 49) hx hb dX8_value_6 (by decide) (fun c1 => ?_) (fun c1 => ?_)
  · skip
    refine lv_aload_n hx hb dX8_value_49 rfl (lv_at hl 0 rfl) ?_
    refine lv_iload_n hx hb dX8_value_50 rfl (lv_at hl 2 rfl) ?_
    refine k_iS (va_runV (As := [.int p1]) (rest := []) ⟨hx, hb, hml, hown, hts⟩ (m_X8_isPolicy l D cI cJ H.size g g2 g3 g4 g5 g6 g7 g8 g9 g10 g12 g13 g15 g16 g17 g19 g20 g21 g22 g23 g24 g25 g26 g27 g28 g33 g34 g35 g36 g37 g38 g39 g41 g42 g44 g45 mn ml mv 0 gi14 gi18 gi29 gi30 gi32 gi40 gi43 p1) (cwV 1 hts gX8_value_X8_isPolicy rfl rfl rfl (by decide +kernel) ⟨Nat.le_of_ble_eq_true rfl, Nat.le_of_ble_eq_true rfl⟩) (k_preV hE hP hD [0] (by decide +kernel) rfl 0 rfl rfl) rfl rfl hl.1 rfl (lv_room (Nat.le_of_ble_eq_true rfl)) dX8_value_51 ⟨Nat.le_of_ble_eq_true rfl, Nat.le_of_ble_eq_true rfl⟩) hP hD hS hA [0] rfl (fun _ _ ⟨_, h9⟩ => h9) (fun r2 H locs hw3 hP hD hS => ?_)
    obtain ⟨hb4, -⟩ := hw3
    refine lv_if_eq (tgt := 79) hx hb dX8_value_54 (by decide) (fun c5 => ?_) (fun c5 => ?_)
    · skip
      have hc5 : ¬ (0 ≤ p1 ∧ p1 ≤ nI mn - 1) := bz_0 hb4 c5
      refine lv_iconst (v := 0) hx hb dX8_value_79 (by decide) ?_
      refine k_zret (u := [(oX8 g 0 (nI mn) g2 g3 g4 g5 g6 g7 g8 g9 g10 (nI ml) g12 g13 gi14 g15 g16 g17 gi18 g19 g20 g21 g22 g23 g24 g25 g26 g27 g28 gi29 gi30 (nI mv) gi32 g33 g34 g35 g36 g37 g38 g39 gi40 g41 g42 gi43 g44 g45), (aIc cI g9 8 G9), (aIc cI g15 8 G15)]) hx hb hr (by decide) hlk hP hD hS dX8_value_80 ?_
      exact Or.inr (Or.inr ⟨⟨fun q => q.1 c1, (fun q => hc5 q.2.1)⟩, rfl, rfl⟩)
    · skip
      have hc5 : 0 ≤ p1 ∧ p1 ≤ nI mn - 1 := bz_1 hb4 c5
      refine lv_iload_n hx hb dX8_value_57 rfl (lv_at hl 3 rfl) ?_
      refine lv_i2l hx hb dX8_value_58 rfl ?_
      refine lv_lconst (v := 0) hx hb dX8_value_59 (by decide) ?_
      refine lv_ldc2 (v := 99999) hx hb hown (hts _ (List.mem_cons_of_mem _ wd_174)) dX8_value_60 ?_
      refine k_iS (va_runS (As := [.long (Int32.toInt64 p2), .long 0, .long 99999]) (rest := []) ⟨hx, hb, hml, hown, hts⟩ (m_X8_in l D cI cJ H.size (Int32.toInt64 p2) 0 99999) (va_cwS 3 hts gX8_value_X8_in rfl rfl rfl (by decide +kernel) ⟨Nat.le_of_ble_eq_true rfl, Nat.le_of_ble_eq_true rfl⟩) (k_pre hE hP hD [] (by decide +kernel) rfl) rfl rfl hl.1 rfl (lv_room (Nat.le_of_ble_eq_true rfl)) dX8_value_63 ⟨Nat.le_of_ble_eq_true rfl, Nat.le_of_ble_eq_true rfl⟩) hP hD hS hA [] rfl (fun _ _ h9 => h9.2) (fun r6 H locs hw7 hP hD hS => ?_)
      obtain ⟨hw7, -⟩ := hw7
      have hw8 : r6 = bz (0 ≤ p2 ∧ p2 ≤ 99999) := by rw [hw7]; exact bz_c (w3 (a := p2) (lo := 0) (hi := 99999) (by decide) (by decide))
      refine lv_if_eq (tgt := 79) hx hb dX8_value_66 (by decide) (fun c9 => ?_) (fun c9 => ?_)
      · skip
        have hc9 : ¬ (0 ≤ p2 ∧ p2 ≤ 99999) := bz_0 hw8 c9
        refine lv_iconst (v := 0) hx hb dX8_value_79 (by decide) ?_
        refine k_zret (u := [(oX8 g 0 (nI mn) g2 g3 g4 g5 g6 g7 g8 g9 g10 (nI ml) g12 g13 gi14 g15 g16 g17 gi18 g19 g20 g21 g22 g23 g24 g25 g26 g27 g28 gi29 gi30 (nI mv) gi32 g33 g34 g35 g36 g37 g38 g39 gi40 g41 g42 gi43 g44 g45), (aIc cI g9 8 G9), (aIc cI g15 8 G15)]) hx hb hr (by decide) hlk hP hD hS dX8_value_80 ?_
        exact Or.inr (Or.inr ⟨⟨fun q => q.1 c1, (fun q => hc9 q.2.2.1)⟩, rfl, rfl⟩)
      · skip
        have hc9 : 0 ≤ p2 ∧ p2 ≤ 99999 := bz_1 hw8 c9
        refine lv_aload_n hx hb dX8_value_69 rfl (lv_at hl 0 rfl) ?_
        refine va_get (D := D) (ci := 8) (v := .ref g9) (C := RX8) (T := TX8) (N := 46) hx hb hts hiX8 hown hE.1 hP 0 rfl rfl 9 (by decide) (hts _ (List.mem_cons_of_mem _ wd_123)) (fun _ h9 => h9) rfl dX8_value_70 ?_
        refine lv_iload_n hx hb dX8_value_73 rfl (lv_at hl 2 rfl) ?_
        refine va_iald hx hb hE.1 hP 1 0 rfl rfl (by obtain ⟨j9, h9, e9⟩ := wi_n (by omega) hc5; rw [e9]; exact vp_in_nI (by omega) (by decide)) dX8_value_74 ?_
        refine lv_iload_n hx hb dX8_value_75 rfl (lv_at hl 3 rfl) ?_
        refine lv_icmp_ne (tgt := 81) hx hb dX8_value_76 (by decide) (fun c10 => ?_) (fun c10 => ?_)
        · skip
          refine lv_aload_n hx hb dX8_value_81 rfl (lv_at hl 0 rfl) ?_
          refine va_get (D := D) (ci := 8) (v := .ref g9) (C := RX8) (T := TX8) (N := 46) hx hb hts hiX8 hown hE.1 hP 0 rfl rfl 9 (by decide) (hts _ (List.mem_cons_of_mem _ wd_123)) (fun _ h9 => h9) rfl dX8_value_82 ?_
          refine lv_iload_n hx hb dX8_value_85 rfl (lv_at hl 2 rfl) ?_
          refine lv_iload_n hx hb dX8_value_86 rfl (lv_at hl 3 rfl) ?_
          refine va_iast hx hb hE.1 hP hD hS 1 0 rfl rfl (by obtain ⟨j9, h9, e9⟩ := wi_n (by omega) hc5; rw [e9]; exact vp_in_nI (by omega) (by decide)) dX8_value_87 (fun H locs hP hD hS => ?_)
          refine k_re (w := [(oX8 g 0 (nI mn) g2 g3 g4 g5 g6 g7 g8 g9 g10 (nI ml) g12 g13 gi14 g15 g16 g17 gi18 g19 g20 g21 g22 g23 g24 g25 g26 g27 g28 gi29 gi30 (nI mv) gi32 g33 g34 g35 g36 g37 g38 g39 gi40 g41 g42 gi43 g44 g45), (aIc cI g9 8 (upd G9 (Int32.toNatClampNeg p1) p2)), (aIc cI g15 8 G15)]) hP hD (fun hP hD => ?_)
          refine lv_iconst (v := 1) hx hb dX8_value_88 (by decide) ?_
          refine k_zret (u := [(oX8 g 0 (nI mn) g2 g3 g4 g5 g6 g7 g8 g9 g10 (nI ml) g12 g13 gi14 g15 g16 g17 gi18 g19 g20 g21 g22 g23 g24 g25 g26 g27 g28 gi29 gi30 (nI mv) gi32 g33 g34 g35 g36 g37 g38 g39 gi40 g41 g42 gi43 g44 g45), (aIc cI g9 8 (upd G9 (Int32.toNatClampNeg p1) p2)), (aIc cI g15 8 G15)]) hx hb hr (by decide) hlk hP hD hS dX8_value_89 ?_
          exact Or.inr (Or.inl ⟨⟨c1, hc5, hc9, c10⟩, rfl, rfl⟩)
        · skip
          refine lv_iconst (v := 0) hx hb dX8_value_79 (by decide) ?_
          refine k_zret (u := [(oX8 g 0 (nI mn) g2 g3 g4 g5 g6 g7 g8 g9 g10 (nI ml) g12 g13 gi14 g15 g16 g17 gi18 g19 g20 g21 g22 g23 g24 g25 g26 g27 g28 gi29 gi30 (nI mv) gi32 g33 g34 g35 g36 g37 g38 g39 gi40 g41 g42 gi43 g44 g45), (aIc cI g9 8 G9), (aIc cI g15 8 G15)]) hx hb hr (by decide) hlk hP hD hS dX8_value_80 ?_
          exact Or.inr (Or.inr ⟨⟨fun q => q.1 c1, (fun q => q.2.2.2 c10)⟩, rfl, rfl⟩)
  · skip
    refine lv_iload_n hx hb dX8_value_9 rfl (lv_at hl 2 rfl) ?_
    refine k_iS (va_runS (As := [.int p1]) (rest := []) ⟨hx, hb, hml, hown, hts⟩ (m_X8_isItem l D cI cJ H.size p1) (va_cwS 1 hts gX8_value_X8_isItem rfl rfl rfl (by decide +kernel) ⟨Nat.le_of_ble_eq_true rfl, Nat.le_of_ble_eq_true rfl⟩) (k_pre hE hP hD [] (by decide +kernel) rfl) rfl rfl hl.1 rfl (lv_room (Nat.le_of_ble_eq_true rfl)) dX8_value_10 ⟨Nat.le_of_ble_eq_true rfl, Nat.le_of_ble_eq_true rfl⟩) hP hD hS hA [] rfl (fun _ _ h9 => h9.2) (fun r11 H locs hw12 hP hD hS => ?_)
    obtain ⟨hw12, -⟩ := hw12
    refine lv_if_eq (tgt := 38) hx hb dX8_value_13 (by decide) (fun c13 => ?_) (fun c13 => ?_)
    · skip
      have hc13 : ¬ (0 ≤ p1 ∧ p1 ≤ 7) := bz_0 hw12 c13
      refine lv_iconst (v := 0) hx hb dX8_value_38 (by decide) ?_
      refine k_zret (u := [(oX8 g 0 (nI mn) g2 g3 g4 g5 g6 g7 g8 g9 g10 (nI ml) g12 g13 gi14 g15 g16 g17 gi18 g19 g20 g21 g22 g23 g24 g25 g26 g27 g28 gi29 gi30 (nI mv) gi32 g33 g34 g35 g36 g37 g38 g39 gi40 g41 g42 gi43 g44 g45), (aIc cI g9 8 G9), (aIc cI g15 8 G15)]) hx hb hr (by decide) hlk hP hD hS dX8_value_39 ?_
      exact Or.inr (Or.inr ⟨⟨(fun q => hc13 q.2.1), fun q => c1 q.1⟩, rfl, rfl⟩)
    · skip
      have hc13 : 0 ≤ p1 ∧ p1 ≤ 7 := bz_1 hw12 c13
      refine lv_iload_n hx hb dX8_value_16 rfl (lv_at hl 3 rfl) ?_
      refine lv_i2l hx hb dX8_value_17 rfl ?_
      refine lv_lconst (v := 0) hx hb dX8_value_18 (by decide) ?_
      refine lv_ldc2 (v := 9000000) hx hb hown (hts _ (List.mem_cons_of_mem _ wd_173)) dX8_value_19 ?_
      refine k_iS (va_runS (As := [.long (Int32.toInt64 p2), .long 0, .long 9000000]) (rest := []) ⟨hx, hb, hml, hown, hts⟩ (m_X8_in l D cI cJ H.size (Int32.toInt64 p2) 0 9000000) (va_cwS 3 hts gX8_value_X8_in rfl rfl rfl (by decide +kernel) ⟨Nat.le_of_ble_eq_true rfl, Nat.le_of_ble_eq_true rfl⟩) (k_pre hE hP hD [] (by decide +kernel) rfl) rfl rfl hl.1 rfl (lv_room (Nat.le_of_ble_eq_true rfl)) dX8_value_22 ⟨Nat.le_of_ble_eq_true rfl, Nat.le_of_ble_eq_true rfl⟩) hP hD hS hA [] rfl (fun _ _ h9 => h9.2) (fun r14 H locs hw15 hP hD hS => ?_)
      obtain ⟨hw15, -⟩ := hw15
      have hw16 : r14 = bz (0 ≤ p2 ∧ p2 ≤ 9000000) := by rw [hw15]; exact bz_c (w3 (a := p2) (lo := 0) (hi := 9000000) (by decide) (by decide))
      refine lv_if_eq (tgt := 38) hx hb dX8_value_25 (by decide) (fun c17 => ?_) (fun c17 => ?_)
      · skip
        have hc17 : ¬ (0 ≤ p2 ∧ p2 ≤ 9000000) := bz_0 hw16 c17
        refine lv_iconst (v := 0) hx hb dX8_value_38 (by decide) ?_
        refine k_zret (u := [(oX8 g 0 (nI mn) g2 g3 g4 g5 g6 g7 g8 g9 g10 (nI ml) g12 g13 gi14 g15 g16 g17 gi18 g19 g20 g21 g22 g23 g24 g25 g26 g27 g28 gi29 gi30 (nI mv) gi32 g33 g34 g35 g36 g37 g38 g39 gi40 g41 g42 gi43 g44 g45), (aIc cI g9 8 G9), (aIc cI g15 8 G15)]) hx hb hr (by decide) hlk hP hD hS dX8_value_39 ?_
        exact Or.inr (Or.inr ⟨⟨(fun q => hc17 q.2.2.1), fun q => c1 q.1⟩, rfl, rfl⟩)
      · skip
        have hc17 : 0 ≤ p2 ∧ p2 ≤ 9000000 := bz_1 hw16 c17
        refine lv_aload_n hx hb dX8_value_28 rfl (lv_at hl 0 rfl) ?_
        refine va_get (D := D) (ci := 8) (v := .ref g15) (C := RX8) (T := TX8) (N := 46) hx hb hts hiX8 hown hE.1 hP 0 rfl rfl 15 (by decide) (hts _ (List.mem_cons_of_mem _ wd_127)) (fun _ h9 => h9) rfl dX8_value_29 ?_
        refine lv_iload_n hx hb dX8_value_32 rfl (lv_at hl 2 rfl) ?_
        refine va_iald hx hb hE.1 hP 2 0 rfl rfl (vi_8 hc13) dX8_value_33 ?_
        refine lv_iload_n hx hb dX8_value_34 rfl (lv_at hl 3 rfl) ?_
        refine lv_icmp_ne (tgt := 40) hx hb dX8_value_35 (by decide) (fun c18 => ?_) (fun c18 => ?_)
        · skip
          refine lv_aload_n hx hb dX8_value_40 rfl (lv_at hl 0 rfl) ?_
          refine va_get (D := D) (ci := 8) (v := .ref g15) (C := RX8) (T := TX8) (N := 46) hx hb hts hiX8 hown hE.1 hP 0 rfl rfl 15 (by decide) (hts _ (List.mem_cons_of_mem _ wd_127)) (fun _ h9 => h9) rfl dX8_value_41 ?_
          refine lv_iload_n hx hb dX8_value_44 rfl (lv_at hl 2 rfl) ?_
          refine lv_iload_n hx hb dX8_value_45 rfl (lv_at hl 3 rfl) ?_
          refine va_iast hx hb hE.1 hP hD hS 2 0 rfl rfl (vi_8 hc13) dX8_value_46 (fun H locs hP hD hS => ?_)
          refine k_re (w := [(oX8 g 0 (nI mn) g2 g3 g4 g5 g6 g7 g8 g9 g10 (nI ml) g12 g13 gi14 g15 g16 g17 gi18 g19 g20 g21 g22 g23 g24 g25 g26 g27 g28 gi29 gi30 (nI mv) gi32 g33 g34 g35 g36 g37 g38 g39 gi40 g41 g42 gi43 g44 g45), (aIc cI g9 8 G9), (aIc cI g15 8 (upd G15 (Int32.toNatClampNeg p1) p2))]) hP hD (fun hP hD => ?_)
          refine lv_iconst (v := 1) hx hb dX8_value_47 (by decide) ?_
          refine k_zret (u := [(oX8 g 0 (nI mn) g2 g3 g4 g5 g6 g7 g8 g9 g10 (nI ml) g12 g13 gi14 g15 g16 g17 gi18 g19 g20 g21 g22 g23 g24 g25 g26 g27 g28 gi29 gi30 (nI mv) gi32 g33 g34 g35 g36 g37 g38 g39 gi40 g41 g42 gi43 g44 g45), (aIc cI g9 8 G9), (aIc cI g15 8 (upd G15 (Int32.toNatClampNeg p1) p2))]) hx hb hr (by decide) hlk hP hD hS dX8_value_48 ?_
          exact Or.inl ⟨⟨c1, hc13, hc17, c18⟩, rfl, rfl⟩
        · skip
          refine lv_iconst (v := 0) hx hb dX8_value_38 (by decide) ?_
          refine k_zret (u := [(oX8 g 0 (nI mn) g2 g3 g4 g5 g6 g7 g8 g9 g10 (nI ml) g12 g13 gi14 g15 g16 g17 gi18 g19 g20 g21 g22 g23 g24 g25 g26 g27 g28 gi29 gi30 (nI mv) gi32 g33 g34 g35 g36 g37 g38 g39 gi40 g41 g42 gi43 g44 g45), (aIc cI g9 8 G9), (aIc cI g15 8 G15)]) hx hb hr (by decide) hlk hP hD hS dX8_value_39 ?_
          exact Or.inr (Or.inr ⟨⟨(fun q => q.2.2.2 c18), fun q => c1 q.1⟩, rfl, rfl⟩)
theorem dX8_loss_0 : decode cX8_loss 0 = .ok (.aload_n 0, 1) := by decide +kernel
theorem dX8_loss_1 : decode cX8_loss 1 = .ok (.iconst 0, 1) := by decide +kernel
theorem dX8_loss_2 : decode cX8_loss 2 = .ok (.putfield 116, 3) := by decide +kernel
theorem dX8_loss_5 : decode cX8_loss 5 = .ok (.iload_n 1, 1) := by decide +kernel
theorem dX8_loss_6 : decode cX8_loss 6 = .ok (.invokestatic 146, 3) := by decide +kernel
theorem dX8_loss_9 : decode cX8_loss 9 = .ok (.ifCond .eq 24, 3) := by decide +kernel
theorem dX8_loss_12 : decode cX8_loss 12 = .ok (.iload_n 2, 1) := by decide +kernel
theorem dX8_loss_13 : decode cX8_loss 13 = .ok (.i2l, 1) := by decide +kernel
theorem dX8_loss_14 : decode cX8_loss 14 = .ok (.lconst 1, 1) := by decide +kernel
theorem dX8_loss_15 : decode cX8_loss 15 = .ok (.ldc2_w 132, 3) := by decide +kernel
theorem dX8_loss_18 : decode cX8_loss 18 = .ok (.invokestatic 123, 3) := by decide +kernel
theorem dX8_loss_21 : decode cX8_loss 21 = .ok (.ifCond .eq 12, 3) := by decide +kernel
theorem dX8_loss_24 : decode cX8_loss 24 = .ok (.aload_n 0, 1) := by decide +kernel
theorem dX8_loss_25 : decode cX8_loss 25 = .ok (.getfield 127, 3) := by decide +kernel
theorem dX8_loss_28 : decode cX8_loss 28 = .ok (.bipush 10, 2) := by decide +kernel
theorem dX8_loss_30 : decode cX8_loss 30 = .ok (.if_icmp .ne 5, 3) := by decide +kernel
theorem dX8_loss_33 : decode cX8_loss 33 = .ok (.iconst (-1), 1) := by decide +kernel
theorem dX8_loss_34 : decode cX8_loss 34 = .ok (.ireturn, 1) := by decide +kernel
theorem dX8_loss_35 : decode cX8_loss 35 = .ok (.aload_n 0, 1) := by decide +kernel
theorem dX8_loss_36 : decode cX8_loss 36 = .ok (.getfield 37, 3) := by decide +kernel
theorem dX8_loss_39 : decode cX8_loss 39 = .ok (.aload_n 0, 1) := by decide +kernel
theorem dX8_loss_40 : decode cX8_loss 40 = .ok (.getfield 127, 3) := by decide +kernel
theorem dX8_loss_43 : decode cX8_loss 43 = .ok (.iload_n 1, 1) := by decide +kernel
theorem dX8_loss_44 : decode cX8_loss 44 = .ok (.iastore, 1) := by decide +kernel
theorem dX8_loss_45 : decode cX8_loss 45 = .ok (.aload_n 0, 1) := by decide +kernel
theorem dX8_loss_46 : decode cX8_loss 46 = .ok (.getfield 40, 3) := by decide +kernel
theorem dX8_loss_49 : decode cX8_loss 49 = .ok (.aload_n 0, 1) := by decide +kernel
theorem dX8_loss_50 : decode cX8_loss 50 = .ok (.getfield 127, 3) := by decide +kernel
theorem dX8_loss_53 : decode cX8_loss 53 = .ok (.iload_n 2, 1) := by decide +kernel
theorem dX8_loss_54 : decode cX8_loss 54 = .ok (.iastore, 1) := by decide +kernel
theorem dX8_loss_55 : decode cX8_loss 55 = .ok (.aload_n 0, 1) := by decide +kernel
theorem dX8_loss_56 : decode cX8_loss 56 = .ok (.dup, 1) := by decide +kernel
theorem dX8_loss_57 : decode cX8_loss 57 = .ok (.getfield 127, 3) := by decide +kernel
theorem dX8_loss_60 : decode cX8_loss 60 = .ok (.iconst 1, 1) := by decide +kernel
theorem dX8_loss_61 : decode cX8_loss 61 = .ok (.iadd, 1) := by decide +kernel
theorem dX8_loss_62 : decode cX8_loss 62 = .ok (.putfield 127, 3) := by decide +kernel
theorem dX8_loss_65 : decode cX8_loss 65 = .ok (.aload_n 0, 1) := by decide +kernel
theorem dX8_loss_66 : decode cX8_loss 66 = .ok (.getfield 127, 3) := by decide +kernel
theorem dX8_loss_69 : decode cX8_loss 69 = .ok (.iconst 1, 1) := by decide +kernel
theorem dX8_loss_70 : decode cX8_loss 70 = .ok (.isub, 1) := by decide +kernel
theorem dX8_loss_71 : decode cX8_loss 71 = .ok (.ireturn, 1) := by decide +kernel
theorem gX8_loss_X8_in : GoodIn wtX8_loss (va_wsS RX8 123 yX8_in wtX8_in) := tb_good (tb_s0 wd_177 wd_178 wd_5 wd_179)
theorem gX8_loss_X8_isItem : GoodIn wtX8_loss (va_wsS RX8 146 yX8_isItem wtX8_isItem) := tb_good (tb_s0 wd_226 wd_227 wd_5 wd_228)
set_option maxHeartbeats 4000000 in
set_option maxRecDepth 100000 in
theorem m_X8_loss (l : Launch) (D : va_G) (cI cJ : ClassId) (sz : Nat) (g g2 g3 g4 g5 g6 g7 g8 g9 g10 g12 g13 g15 g16 g17 g19 g20 g21 g22 g23 g24 g25 g26 g27 g28 g33 g34 g35 g36 g37 g38 g39 g41 g42 g44 g45 mn ml mv : Nat) (gi0 gi14 gi18 gi29 gi30 gi32 gi40 gi43 p0 p1 : Int32) (G12 G13 : Nat → Int32) (hml : ml ≤ 10) : Met l yX8_loss wtX8_loss { frames := 2, cells := 0, slots := 0, locals := 45 } (cPc D cI cJ [.ref g, .int p0, .int p1] sz [(oX8 g gi0 (nI mn) g2 g3 g4 g5 g6 g7 g8 g9 g10 (nI ml) g12 g13 gi14 g15 g16 g17 gi18 g19 g20 g21 g22 g23 g24 g25 g26 g27 g28 gi29 gi30 (nI mv) gi32 g33 g34 g35 g36 g37 g38 g39 gi40 g41 g42 gi43 g44 g45), (aIc cI g12 10 G12), (aIc cI g13 10 G13)]) (cQi D (fun r u => (((0 ≤ p0 ∧ p0 ≤ 7) ∧ (1 ≤ p1 ∧ p1 ≤ 1000000) ∧ ml < 10) ∧ r = nI ml ∧ u = [(oX8 g 0 (nI mn) g2 g3 g4 g5 g6 g7 g8 g9 g10 (nI (ml + 1)) g12 g13 gi14 g15 g16 g17 gi18 g19 g20 g21 g22 g23 g24 g25 g26 g27 g28 gi29 gi30 (nI mv) gi32 g33 g34 g35 g36 g37 g38 g39 gi40 g41 g42 gi43 g44 g45), (aIc cI g12 10 (upd G12 (Int32.toNatClampNeg (nI ml)) p0)), (aIc cI g13 10 (upd G13 (Int32.toNatClampNeg (nI ml)) p1))]) ∨ ((¬ ((0 ≤ p0 ∧ p0 ≤ 7) ∧ (1 ≤ p1 ∧ p1 ≤ 1000000) ∧ ml < 10)) ∧ r = -1 ∧ u = [(oX8 g 0 (nI mn) g2 g3 g4 g5 g6 g7 g8 g9 g10 (nI ml) g12 g13 gi14 g15 g16 g17 gi18 g19 g20 g21 g22 g23 g24 g25 g26 g27 g28 gi29 gi30 (nI mv) gi32 g33 g34 g35 g36 g37 g38 g39 gi40 g41 g42 gi43 g44 g45), (aIc cI g12 10 G12), (aIc cI g13 10 G13)])) (va_A [(oX8 g gi0 (nI mn) g2 g3 g4 g5 g6 g7 g8 g9 g10 (nI ml) g12 g13 gi14 g15 g16 g17 gi18 g19 g20 g21 g22 g23 g24 g25 g26 g27 g28 gi29 gi30 (nI mv) gi32 g33 g34 g35 g36 g37 g38 g39 gi40 g41 g42 gi43 g44 g45), (aIc cI g12 10 G12), (aIc cI g13 10 G13)] sz)) 0 0 (va_A [(oX8 g gi0 (nI mn) g2 g3 g4 g5 g6 g7 g8 g9 g10 (nI ml) g12 g13 gi14 g15 g16 g17 gi18 g19 g20 g21 g22 g23 g24 g25 g26 g27 g28 gi29 gi30 (nI mv) gi32 g33 g34 g35 g36 g37 g38 g39 gi40 g41 g42 gi43 g44 g45), (aIc cI g12 10 G12), (aIc cI g13 10 G13)] sz) := by
  refine k_ofW (Qc := cQi D (fun r u => (((0 ≤ p0 ∧ p0 ≤ 7) ∧ (1 ≤ p1 ∧ p1 ≤ 1000000) ∧ ml < 10) ∧ r = nI ml ∧ u = [(oX8 g 0 (nI mn) g2 g3 g4 g5 g6 g7 g8 g9 g10 (nI (ml + 1)) g12 g13 gi14 g15 g16 g17 gi18 g19 g20 g21 g22 g23 g24 g25 g26 g27 g28 gi29 gi30 (nI mv) gi32 g33 g34 g35 g36 g37 g38 g39 gi40 g41 g42 gi43 g44 g45), (aIc cI g12 10 (upd G12 (Int32.toNatClampNeg (nI ml)) p0)), (aIc cI g13 10 (upd G13 (Int32.toNatClampNeg (nI ml)) p1))]) ∨ ((¬ ((0 ≤ p0 ∧ p0 ≤ 7) ∧ (1 ≤ p1 ∧ p1 ≤ 1000000) ∧ ml < 10)) ∧ r = -1 ∧ u = [(oX8 g 0 (nI mn) g2 g3 g4 g5 g6 g7 g8 g9 g10 (nI ml) g12 g13 gi14 g15 g16 g17 gi18 g19 g20 g21 g22 g23 g24 g25 g26 g27 g28 gi29 gi30 (nI mv) gi32 g33 g34 g35 g36 g37 g38 g39 gi40 g41 g42 gi43 g44 g45), (aIc cI g12 10 G12), (aIc cI g13 10 G13)]))) (by decide) rfl (Nat.le_of_ble_eq_true rfl) ?_
  intro p e s m below meth c A ls hx hb hr hml hts hown hlk hnm hsz hE hP hD hS hA hl
  have hown : s.vm.findClass RX8 = some m.cls := hown
  have hiX8 : ∀ w ∈ u_ws RX8 TX8 46, w ∈ wtX8_loss := fun w h => List.mem_cons_of_mem _ (iuX8 w h)
  have hl : lv_has ls 3 [(0, .ref g), (1, .int p0), (2, .int p1)] := hl
  refine lv_aload_n hx hb dX8_loss_0 rfl (lv_at hl 0 rfl) ?_
  refine lv_iconst (v := 0) hx hb dX8_loss_1 (by decide) ?_
  refine va_put (D := D) (ci := 8) (v := .int 0) (ty := .int) (C := RX8) (T := TX8) (N := 46) hx hb hts hiX8 tyX8 tyX8_ok nmX8 hown hE.1 hP hD hS 0 rfl rfl 0 (by decide) (hts _ (List.mem_cons_of_mem _ wd_171)) (fun _ h9 => h9) rfl (by decide +kernel) rfl rfl (Nat.le_of_ble_eq_true rfl) dX8_loss_2 (fun H locs hP hD hS => ?_)
  refine k_re (w := [(oX8 g 0 (nI mn) g2 g3 g4 g5 g6 g7 g8 g9 g10 (nI ml) g12 g13 gi14 g15 g16 g17 gi18 g19 g20 g21 g22 g23 g24 g25 g26 g27 g28 gi29 gi30 (nI mv) gi32 g33 g34 g35 g36 g37 g38 g39 gi40 g41 g42 gi43 g44 g45), (aIc cI g12 10 G12), (aIc cI g13 10 G13)]) hP hD (fun hP hD => ?_)
  refine lv_iload_n hx hb dX8_loss_5 rfl (lv_at hl 1 rfl) ?_
  refine k_iS (va_runS (As := [.int p0]) (rest := []) ⟨hx, hb, hml, hown, hts⟩ (m_X8_isItem l D cI cJ H.size p0) (va_cwS 1 hts gX8_loss_X8_isItem rfl rfl rfl (by decide +kernel) ⟨Nat.le_of_ble_eq_true rfl, Nat.le_of_ble_eq_true rfl⟩) (k_pre hE hP hD [] (by decide +kernel) rfl) rfl rfl hl.1 rfl (lv_room (Nat.le_of_ble_eq_true rfl)) dX8_loss_6 ⟨Nat.le_of_ble_eq_true rfl, Nat.le_of_ble_eq_true rfl⟩) hP hD hS hA [] rfl (fun _ _ h9 => h9.2) (fun r1 H locs hw2 hP hD hS => ?_)
  obtain ⟨hw2, -⟩ := hw2
  refine lv_if_eq (tgt := 33) hx hb dX8_loss_9 (by decide) (fun c3 => ?_) (fun c3 => ?_)
  · skip
    have hc3 : ¬ (0 ≤ p0 ∧ p0 ≤ 7) := bz_0 hw2 c3
    refine lv_iconst (v := (-1)) hx hb dX8_loss_33 (by decide) ?_
    refine k_iret (u := [(oX8 g 0 (nI mn) g2 g3 g4 g5 g6 g7 g8 g9 g10 (nI ml) g12 g13 gi14 g15 g16 g17 gi18 g19 g20 g21 g22 g23 g24 g25 g26 g27 g28 gi29 gi30 (nI mv) gi32 g33 g34 g35 g36 g37 g38 g39 gi40 g41 g42 gi43 g44 g45), (aIc cI g12 10 G12), (aIc cI g13 10 G13)]) hx hb hr hlk hP hD hS dX8_loss_34 ?_
    exact Or.inr ⟨(fun q => hc3 q.1), rfl, rfl⟩
  · skip
    have hc3 : 0 ≤ p0 ∧ p0 ≤ 7 := bz_1 hw2 c3
    refine lv_iload_n hx hb dX8_loss_12 rfl (lv_at hl 2 rfl) ?_
    refine lv_i2l hx hb dX8_loss_13 rfl ?_
    refine lv_lconst (v := 1) hx hb dX8_loss_14 (by decide) ?_
    refine lv_ldc2 (v := 1000000) hx hb hown (hts _ (List.mem_cons_of_mem _ wd_172)) dX8_loss_15 ?_
    refine k_iS (va_runS (As := [.long (Int32.toInt64 p1), .long 1, .long 1000000]) (rest := []) ⟨hx, hb, hml, hown, hts⟩ (m_X8_in l D cI cJ H.size (Int32.toInt64 p1) 1 1000000) (va_cwS 3 hts gX8_loss_X8_in rfl rfl rfl (by decide +kernel) ⟨Nat.le_of_ble_eq_true rfl, Nat.le_of_ble_eq_true rfl⟩) (k_pre hE hP hD [] (by decide +kernel) rfl) rfl rfl hl.1 rfl (lv_room (Nat.le_of_ble_eq_true rfl)) dX8_loss_18 ⟨Nat.le_of_ble_eq_true rfl, Nat.le_of_ble_eq_true rfl⟩) hP hD hS hA [] rfl (fun _ _ h9 => h9.2) (fun r4 H locs hw5 hP hD hS => ?_)
    obtain ⟨hw5, -⟩ := hw5
    have hw6 : r4 = bz (1 ≤ p1 ∧ p1 ≤ 1000000) := by rw [hw5]; exact bz_c (w3 (a := p1) (lo := 1) (hi := 1000000) (by decide) (by decide))
    refine lv_if_eq (tgt := 33) hx hb dX8_loss_21 (by decide) (fun c7 => ?_) (fun c7 => ?_)
    · skip
      have hc7 : ¬ (1 ≤ p1 ∧ p1 ≤ 1000000) := bz_0 hw6 c7
      refine lv_iconst (v := (-1)) hx hb dX8_loss_33 (by decide) ?_
      refine k_iret (u := [(oX8 g 0 (nI mn) g2 g3 g4 g5 g6 g7 g8 g9 g10 (nI ml) g12 g13 gi14 g15 g16 g17 gi18 g19 g20 g21 g22 g23 g24 g25 g26 g27 g28 gi29 gi30 (nI mv) gi32 g33 g34 g35 g36 g37 g38 g39 gi40 g41 g42 gi43 g44 g45), (aIc cI g12 10 G12), (aIc cI g13 10 G13)]) hx hb hr hlk hP hD hS dX8_loss_34 ?_
      exact Or.inr ⟨(fun q => hc7 q.2.1), rfl, rfl⟩
    · skip
      have hc7 : 1 ≤ p1 ∧ p1 ≤ 1000000 := bz_1 hw6 c7
      refine lv_aload_n hx hb dX8_loss_24 rfl (lv_at hl 0 rfl) ?_
      refine va_get (D := D) (ci := 8) (v := .int (nI ml)) (C := RX8) (T := TX8) (N := 46) hx hb hts hiX8 hown hE.1 hP 0 rfl rfl 11 (by decide) (hts _ (List.mem_cons_of_mem _ wd_251)) (fun _ h9 => h9) rfl dX8_loss_25 ?_
      refine lv_bipush (v := 10) hx hb dX8_loss_28 (by decide) ?_
      refine lv_icmp_ne (tgt := 35) hx hb dX8_loss_30 (by decide) (fun c8 => ?_) (fun c8 => ?_)
      · skip
        have nc8 : ¬ ml = 10 := fun q9 => c8 ((nI_eq (a := ml) (b := 10) (by omega) (by omega)).mpr q9)
        refine lv_aload_n hx hb dX8_loss_35 rfl (lv_at hl 0 rfl) ?_
        refine va_get (D := D) (ci := 8) (v := .ref g12) (C := RX8) (T := TX8) (N := 46) hx hb hts hiX8 hown hE.1 hP 0 rfl rfl 12 (by decide) (hts _ (List.mem_cons_of_mem _ wd_125)) (fun _ h9 => h9) rfl dX8_loss_36 ?_
        refine lv_aload_n hx hb dX8_loss_39 rfl (lv_at hl 0 rfl) ?_
        refine va_get (D := D) (ci := 8) (v := .int (nI ml)) (C := RX8) (T := TX8) (N := 46) hx hb hts hiX8 hown hE.1 hP 0 rfl rfl 11 (by decide) (hts _ (List.mem_cons_of_mem _ wd_251)) (fun _ h9 => h9) rfl dX8_loss_40 ?_
        refine lv_iload_n hx hb dX8_loss_43 rfl (lv_at hl 1 rfl) ?_
        refine va_iast hx hb hE.1 hP hD hS 1 0 rfl rfl (vp_in_nI (n := ml) (by omega) (by decide)) dX8_loss_44 (fun H locs hP hD hS => ?_)
        refine k_re (w := [(oX8 g 0 (nI mn) g2 g3 g4 g5 g6 g7 g8 g9 g10 (nI ml) g12 g13 gi14 g15 g16 g17 gi18 g19 g20 g21 g22 g23 g24 g25 g26 g27 g28 gi29 gi30 (nI mv) gi32 g33 g34 g35 g36 g37 g38 g39 gi40 g41 g42 gi43 g44 g45), (aIc cI g12 10 (upd G12 (Int32.toNatClampNeg (nI ml)) p0)), (aIc cI g13 10 G13)]) hP hD (fun hP hD => ?_)
        refine lv_aload_n hx hb dX8_loss_45 rfl (lv_at hl 0 rfl) ?_
        refine va_get (D := D) (ci := 8) (v := .ref g13) (C := RX8) (T := TX8) (N := 46) hx hb hts hiX8 hown hE.1 hP 0 rfl rfl 13 (by decide) (hts _ (List.mem_cons_of_mem _ wd_126)) (fun _ h9 => h9) rfl dX8_loss_46 ?_
        refine lv_aload_n hx hb dX8_loss_49 rfl (lv_at hl 0 rfl) ?_
        refine va_get (D := D) (ci := 8) (v := .int (nI ml)) (C := RX8) (T := TX8) (N := 46) hx hb hts hiX8 hown hE.1 hP 0 rfl rfl 11 (by decide) (hts _ (List.mem_cons_of_mem _ wd_251)) (fun _ h9 => h9) rfl dX8_loss_50 ?_
        refine lv_iload_n hx hb dX8_loss_53 rfl (lv_at hl 2 rfl) ?_
        refine va_iast hx hb hE.1 hP hD hS 2 0 rfl rfl (vp_in_nI (n := ml) (by omega) (by decide)) dX8_loss_54 (fun H locs hP hD hS => ?_)
        refine k_re (w := [(oX8 g 0 (nI mn) g2 g3 g4 g5 g6 g7 g8 g9 g10 (nI ml) g12 g13 gi14 g15 g16 g17 gi18 g19 g20 g21 g22 g23 g24 g25 g26 g27 g28 gi29 gi30 (nI mv) gi32 g33 g34 g35 g36 g37 g38 g39 gi40 g41 g42 gi43 g44 g45), (aIc cI g12 10 (upd G12 (Int32.toNatClampNeg (nI ml)) p0)), (aIc cI g13 10 (upd G13 (Int32.toNatClampNeg (nI ml)) p1))]) hP hD (fun hP hD => ?_)
        refine lv_aload_n hx hb dX8_loss_55 rfl (lv_at hl 0 rfl) ?_
        refine lv_dup hx hb dX8_loss_56 rfl ?_
        refine va_get (D := D) (ci := 8) (v := .int (nI ml)) (C := RX8) (T := TX8) (N := 46) hx hb hts hiX8 hown hE.1 hP 0 rfl rfl 11 (by decide) (hts _ (List.mem_cons_of_mem _ wd_251)) (fun _ h9 => h9) rfl dX8_loss_57 ?_
        refine lv_iconst (v := 1) hx hb dX8_loss_60 (by decide) ?_
        refine lv_iadd hx hb dX8_loss_61 ?_
        refine lv_topi (fun v9 ev9 => ?_)
        obtain rfl : v9 = (nI (ml + 1)) := by rw [ev9]; exact nI_add ml 1
        refine va_put (D := D) (ci := 8) (v := .int (nI (ml + 1))) (ty := .int) (C := RX8) (T := TX8) (N := 46) hx hb hts hiX8 tyX8 tyX8_ok nmX8 hown hE.1 hP hD hS 0 rfl rfl 11 (by decide) (hts _ (List.mem_cons_of_mem _ wd_251)) (fun _ h9 => h9) rfl (by decide +kernel) rfl rfl (Nat.le_of_ble_eq_true rfl) dX8_loss_62 (fun H locs hP hD hS => ?_)
        refine k_re (w := [(oX8 g 0 (nI mn) g2 g3 g4 g5 g6 g7 g8 g9 g10 (nI (ml + 1)) g12 g13 gi14 g15 g16 g17 gi18 g19 g20 g21 g22 g23 g24 g25 g26 g27 g28 gi29 gi30 (nI mv) gi32 g33 g34 g35 g36 g37 g38 g39 gi40 g41 g42 gi43 g44 g45), (aIc cI g12 10 (upd G12 (Int32.toNatClampNeg (nI ml)) p0)), (aIc cI g13 10 (upd G13 (Int32.toNatClampNeg (nI ml)) p1))]) hP hD (fun hP hD => ?_)
        refine lv_aload_n hx hb dX8_loss_65 rfl (lv_at hl 0 rfl) ?_
        refine va_get (D := D) (ci := 8) (v := .int (nI (ml + 1))) (C := RX8) (T := TX8) (N := 46) hx hb hts hiX8 hown hE.1 hP 0 rfl rfl 11 (by decide) (hts _ (List.mem_cons_of_mem _ wd_251)) (fun _ h9 => h9) rfl dX8_loss_66 ?_
        refine lv_iconst (v := 1) hx hb dX8_loss_69 (by decide) ?_
        refine lv_isub hx hb dX8_loss_70 ?_
        refine lv_topi (fun v10 ev10 => ?_)
        obtain rfl : v10 = nI ml := by rw [ev10]; exact nI_pred ml
        refine k_iret (u := [(oX8 g 0 (nI mn) g2 g3 g4 g5 g6 g7 g8 g9 g10 (nI (ml + 1)) g12 g13 gi14 g15 g16 g17 gi18 g19 g20 g21 g22 g23 g24 g25 g26 g27 g28 gi29 gi30 (nI mv) gi32 g33 g34 g35 g36 g37 g38 g39 gi40 g41 g42 gi43 g44 g45), (aIc cI g12 10 (upd G12 (Int32.toNatClampNeg (nI ml)) p0)), (aIc cI g13 10 (upd G13 (Int32.toNatClampNeg (nI ml)) p1))]) hx hb hr hlk hP hD hS dX8_loss_71 ?_
        exact Or.inl ⟨⟨hc3, hc7, by omega⟩, rfl, rfl⟩
      · skip
        have nc8 : ml = 10 := (nI_eq (a := ml) (b := 10) (by omega) (by omega)).mp c8
        refine lv_iconst (v := (-1)) hx hb dX8_loss_33 (by decide) ?_
        refine k_iret (u := [(oX8 g 0 (nI mn) g2 g3 g4 g5 g6 g7 g8 g9 g10 (nI ml) g12 g13 gi14 g15 g16 g17 gi18 g19 g20 g21 g22 g23 g24 g25 g26 g27 g28 gi29 gi30 (nI mv) gi32 g33 g34 g35 g36 g37 g38 g39 gi40 g41 g42 gi43 g44 g45), (aIc cI g12 10 G12), (aIc cI g13 10 G13)]) hx hb hr hlk hP hD hS dX8_loss_34 ?_
        exact Or.inr ⟨(fun q => by omega), rfl, rfl⟩
theorem dX8_revoke_0 : decode cX8_revoke 0 = .ok (.aload_n 0, 1) := by decide +kernel
theorem dX8_revoke_1 : decode cX8_revoke 1 = .ok (.iconst 0, 1) := by decide +kernel
theorem dX8_revoke_2 : decode cX8_revoke 2 = .ok (.putfield 116, 3) := by decide +kernel
theorem dX8_revoke_5 : decode cX8_revoke 5 = .ok (.aload_n 0, 1) := by decide +kernel
theorem dX8_revoke_6 : decode cX8_revoke 6 = .ok (.getfield 127, 3) := by decide +kernel
theorem dX8_revoke_9 : decode cX8_revoke 9 = .ok (.ifCond .ne 5, 3) := by decide +kernel
theorem dX8_revoke_12 : decode cX8_revoke 12 = .ok (.iconst (-1), 1) := by decide +kernel
theorem dX8_revoke_13 : decode cX8_revoke 13 = .ok (.ireturn, 1) := by decide +kernel
theorem dX8_revoke_14 : decode cX8_revoke 14 = .ok (.aload_n 0, 1) := by decide +kernel
theorem dX8_revoke_15 : decode cX8_revoke 15 = .ok (.dup, 1) := by decide +kernel
theorem dX8_revoke_16 : decode cX8_revoke 16 = .ok (.getfield 127, 3) := by decide +kernel
theorem dX8_revoke_19 : decode cX8_revoke 19 = .ok (.iconst 1, 1) := by decide +kernel
theorem dX8_revoke_20 : decode cX8_revoke 20 = .ok (.isub, 1) := by decide +kernel
theorem dX8_revoke_21 : decode cX8_revoke 21 = .ok (.putfield 127, 3) := by decide +kernel
theorem dX8_revoke_24 : decode cX8_revoke 24 = .ok (.aload_n 0, 1) := by decide +kernel
theorem dX8_revoke_25 : decode cX8_revoke 25 = .ok (.getfield 127, 3) := by decide +kernel
theorem dX8_revoke_28 : decode cX8_revoke 28 = .ok (.ireturn, 1) := by decide +kernel
set_option maxHeartbeats 4000000 in
set_option maxRecDepth 100000 in
theorem m_X8_revoke (l : Launch) (D : va_G) (cI cJ : ClassId) (sz : Nat) (g g2 g3 g4 g5 g6 g7 g8 g9 g10 g12 g13 g15 g16 g17 g19 g20 g21 g22 g23 g24 g25 g26 g27 g28 g33 g34 g35 g36 g37 g38 g39 g41 g42 g44 g45 mn ml mv : Nat) (gi0 gi14 gi18 gi29 gi30 gi32 gi40 gi43 : Int32) (hml : ml ≤ 10) : Met l yX8_revoke wtX8_revoke { frames := 0, cells := 0, slots := 0, locals := 0 } (cPc D cI cJ [.ref g] sz [(oX8 g gi0 (nI mn) g2 g3 g4 g5 g6 g7 g8 g9 g10 (nI ml) g12 g13 gi14 g15 g16 g17 gi18 g19 g20 g21 g22 g23 g24 g25 g26 g27 g28 gi29 gi30 (nI mv) gi32 g33 g34 g35 g36 g37 g38 g39 gi40 g41 g42 gi43 g44 g45)]) (cQi D (fun r u => ((ml = 0) ∧ r = -1 ∧ u = [(oX8 g 0 (nI mn) g2 g3 g4 g5 g6 g7 g8 g9 g10 (nI ml) g12 g13 gi14 g15 g16 g17 gi18 g19 g20 g21 g22 g23 g24 g25 g26 g27 g28 gi29 gi30 (nI mv) gi32 g33 g34 g35 g36 g37 g38 g39 gi40 g41 g42 gi43 g44 g45)]) ∨ ((¬ ml = 0) ∧ r = nI (ml - 1) ∧ u = [(oX8 g 0 (nI mn) g2 g3 g4 g5 g6 g7 g8 g9 g10 (nI (ml - 1)) g12 g13 gi14 g15 g16 g17 gi18 g19 g20 g21 g22 g23 g24 g25 g26 g27 g28 gi29 gi30 (nI mv) gi32 g33 g34 g35 g36 g37 g38 g39 gi40 g41 g42 gi43 g44 g45)])) (va_A [(oX8 g gi0 (nI mn) g2 g3 g4 g5 g6 g7 g8 g9 g10 (nI ml) g12 g13 gi14 g15 g16 g17 gi18 g19 g20 g21 g22 g23 g24 g25 g26 g27 g28 gi29 gi30 (nI mv) gi32 g33 g34 g35 g36 g37 g38 g39 gi40 g41 g42 gi43 g44 g45)] sz)) 0 0 (va_A [(oX8 g gi0 (nI mn) g2 g3 g4 g5 g6 g7 g8 g9 g10 (nI ml) g12 g13 gi14 g15 g16 g17 gi18 g19 g20 g21 g22 g23 g24 g25 g26 g27 g28 gi29 gi30 (nI mv) gi32 g33 g34 g35 g36 g37 g38 g39 gi40 g41 g42 gi43 g44 g45)] sz) := by
  refine k_ofW (Qc := cQi D (fun r u => ((ml = 0) ∧ r = -1 ∧ u = [(oX8 g 0 (nI mn) g2 g3 g4 g5 g6 g7 g8 g9 g10 (nI ml) g12 g13 gi14 g15 g16 g17 gi18 g19 g20 g21 g22 g23 g24 g25 g26 g27 g28 gi29 gi30 (nI mv) gi32 g33 g34 g35 g36 g37 g38 g39 gi40 g41 g42 gi43 g44 g45)]) ∨ ((¬ ml = 0) ∧ r = nI (ml - 1) ∧ u = [(oX8 g 0 (nI mn) g2 g3 g4 g5 g6 g7 g8 g9 g10 (nI (ml - 1)) g12 g13 gi14 g15 g16 g17 gi18 g19 g20 g21 g22 g23 g24 g25 g26 g27 g28 gi29 gi30 (nI mv) gi32 g33 g34 g35 g36 g37 g38 g39 gi40 g41 g42 gi43 g44 g45)]))) (by decide) rfl (Nat.le_of_ble_eq_true rfl) ?_
  intro p e s m below meth c A ls hx hb hr hml hts hown hlk hnm hsz hE hP hD hS hA hl
  have hown : s.vm.findClass RX8 = some m.cls := hown
  have hiX8 : ∀ w ∈ u_ws RX8 TX8 46, w ∈ wtX8_revoke := fun w h => List.mem_cons_of_mem _ (iuX8 w h)
  have hl : lv_has ls 1 [(0, .ref g)] := hl
  refine lv_aload_n hx hb dX8_revoke_0 rfl (lv_at hl 0 rfl) ?_
  refine lv_iconst (v := 0) hx hb dX8_revoke_1 (by decide) ?_
  refine va_put (D := D) (ci := 8) (v := .int 0) (ty := .int) (C := RX8) (T := TX8) (N := 46) hx hb hts hiX8 tyX8 tyX8_ok nmX8 hown hE.1 hP hD hS 0 rfl rfl 0 (by decide) (hts _ (List.mem_cons_of_mem _ wd_171)) (fun _ h9 => h9) rfl (by decide +kernel) rfl rfl (Nat.le_of_ble_eq_true rfl) dX8_revoke_2 (fun H locs hP hD hS => ?_)
  refine k_re (w := [(oX8 g 0 (nI mn) g2 g3 g4 g5 g6 g7 g8 g9 g10 (nI ml) g12 g13 gi14 g15 g16 g17 gi18 g19 g20 g21 g22 g23 g24 g25 g26 g27 g28 gi29 gi30 (nI mv) gi32 g33 g34 g35 g36 g37 g38 g39 gi40 g41 g42 gi43 g44 g45)]) hP hD (fun hP hD => ?_)
  refine lv_aload_n hx hb dX8_revoke_5 rfl (lv_at hl 0 rfl) ?_
  refine va_get (D := D) (ci := 8) (v := .int (nI ml)) (C := RX8) (T := TX8) (N := 46) hx hb hts hiX8 hown hE.1 hP 0 rfl rfl 11 (by decide) (hts _ (List.mem_cons_of_mem _ wd_251)) (fun _ h9 => h9) rfl dX8_revoke_6 ?_
  refine lv_if_ne (tgt := 14) hx hb dX8_revoke_9 (by decide) (fun c1 => ?_) (fun c1 => ?_)
  · skip
    have nc1 : ¬ ml = 0 := fun q9 => c1 ((nI_eq (a := ml) (b := 0) (by omega) (by omega)).mpr q9)
    refine lv_aload_n hx hb dX8_revoke_14 rfl (lv_at hl 0 rfl) ?_
    refine lv_dup hx hb dX8_revoke_15 rfl ?_
    refine va_get (D := D) (ci := 8) (v := .int (nI ml)) (C := RX8) (T := TX8) (N := 46) hx hb hts hiX8 hown hE.1 hP 0 rfl rfl 11 (by decide) (hts _ (List.mem_cons_of_mem _ wd_251)) (fun _ h9 => h9) rfl dX8_revoke_16 ?_
    refine lv_iconst (v := 1) hx hb dX8_revoke_19 (by decide) ?_
    refine lv_isub hx hb dX8_revoke_20 ?_
    refine lv_topi (fun v2 ev2 => ?_)
    obtain rfl : v2 = nI (ml - 1) := by rw [ev2]; exact pk_sub (a := ml) (b := 1) (by omega)
    refine va_put (D := D) (ci := 8) (v := .int (nI (ml - 1))) (ty := .int) (C := RX8) (T := TX8) (N := 46) hx hb hts hiX8 tyX8 tyX8_ok nmX8 hown hE.1 hP hD hS 0 rfl rfl 11 (by decide) (hts _ (List.mem_cons_of_mem _ wd_251)) (fun _ h9 => h9) rfl (by decide +kernel) rfl rfl (Nat.le_of_ble_eq_true rfl) dX8_revoke_21 (fun H locs hP hD hS => ?_)
    refine k_re (w := [(oX8 g 0 (nI mn) g2 g3 g4 g5 g6 g7 g8 g9 g10 (nI (ml - 1)) g12 g13 gi14 g15 g16 g17 gi18 g19 g20 g21 g22 g23 g24 g25 g26 g27 g28 gi29 gi30 (nI mv) gi32 g33 g34 g35 g36 g37 g38 g39 gi40 g41 g42 gi43 g44 g45)]) hP hD (fun hP hD => ?_)
    refine lv_aload_n hx hb dX8_revoke_24 rfl (lv_at hl 0 rfl) ?_
    refine va_get (D := D) (ci := 8) (v := .int (nI (ml - 1))) (C := RX8) (T := TX8) (N := 46) hx hb hts hiX8 hown hE.1 hP 0 rfl rfl 11 (by decide) (hts _ (List.mem_cons_of_mem _ wd_251)) (fun _ h9 => h9) rfl dX8_revoke_25 ?_
    refine k_iret (u := [(oX8 g 0 (nI mn) g2 g3 g4 g5 g6 g7 g8 g9 g10 (nI (ml - 1)) g12 g13 gi14 g15 g16 g17 gi18 g19 g20 g21 g22 g23 g24 g25 g26 g27 g28 gi29 gi30 (nI mv) gi32 g33 g34 g35 g36 g37 g38 g39 gi40 g41 g42 gi43 g44 g45)]) hx hb hr hlk hP hD hS dX8_revoke_28 ?_
    exact Or.inr ⟨nc1, rfl, rfl⟩
  · skip
    have nc1 : ml = 0 := (nI_eq (a := ml) (b := 0) (by omega) (by omega)).mp c1
    refine lv_iconst (v := (-1)) hx hb dX8_revoke_12 (by decide) ?_
    refine k_iret (u := [(oX8 g 0 (nI mn) g2 g3 g4 g5 g6 g7 g8 g9 g10 (nI ml) g12 g13 gi14 g15 g16 g17 gi18 g19 g20 g21 g22 g23 g24 g25 g26 g27 g28 gi29 gi30 (nI mv) gi32 g33 g34 g35 g36 g37 g38 g39 gi40 g41 g42 gi43 g44 g45)]) hx hb hr hlk hP hD hS dX8_revoke_13 ?_
    exact Or.inl ⟨nc1, rfl, rfl⟩
theorem dX8_rule_0 : decode cX8_rule 0 = .ok (.aload_n 0, 1) := by decide +kernel
theorem dX8_rule_1 : decode cX8_rule 1 = .ok (.iconst 0, 1) := by decide +kernel
theorem dX8_rule_2 : decode cX8_rule 2 = .ok (.putfield 116, 3) := by decide +kernel
theorem dX8_rule_5 : decode cX8_rule 5 = .ok (.aload_n 0, 1) := by decide +kernel
theorem dX8_rule_6 : decode cX8_rule 6 = .ok (.iconst 1, 1) := by decide +kernel
theorem dX8_rule_7 : decode cX8_rule 7 = .ok (.aload_n 0, 1) := by decide +kernel
theorem dX8_rule_8 : decode cX8_rule 8 = .ok (.getfield 151, 3) := by decide +kernel
theorem dX8_rule_11 : decode cX8_rule 11 = .ok (.isub, 1) := by decide +kernel
theorem dX8_rule_12 : decode cX8_rule 12 = .ok (.putfield 151, 3) := by decide +kernel
theorem dX8_rule_15 : decode cX8_rule 15 = .ok (.aload_n 0, 1) := by decide +kernel
theorem dX8_rule_16 : decode cX8_rule 16 = .ok (.getfield 151, 3) := by decide +kernel
theorem dX8_rule_19 : decode cX8_rule 19 = .ok (.ireturn, 1) := by decide +kernel
set_option maxHeartbeats 4000000 in
set_option maxRecDepth 100000 in
theorem m_X8_rule (l : Launch) (D : va_G) (cI cJ : ClassId) (sz : Nat) (g g2 g3 g4 g5 g6 g7 g8 g9 g10 g12 g13 g15 g16 g17 g19 g20 g21 g22 g23 g24 g25 g26 g27 g28 g33 g34 g35 g36 g37 g38 g39 g41 g42 g44 g45 mn ml mv : Nat) (gi0 gi14 gi18 gi29 gi30 gi32 gi40 gi43 r1 : Int32) (hr1 : r1 = 1 - gi14) : Met l yX8_rule wtX8_rule { frames := 0, cells := 0, slots := 0, locals := 0 } (cPc D cI cJ [.ref g] sz [(oX8 g gi0 (nI mn) g2 g3 g4 g5 g6 g7 g8 g9 g10 (nI ml) g12 g13 gi14 g15 g16 g17 gi18 g19 g20 g21 g22 g23 g24 g25 g26 g27 g28 gi29 gi30 (nI mv) gi32 g33 g34 g35 g36 g37 g38 g39 gi40 g41 g42 gi43 g44 g45)]) (cQi D (fun r u => ((True) ∧ r = r1 ∧ u = [(oX8 g 0 (nI mn) g2 g3 g4 g5 g6 g7 g8 g9 g10 (nI ml) g12 g13 r1 g15 g16 g17 gi18 g19 g20 g21 g22 g23 g24 g25 g26 g27 g28 gi29 gi30 (nI mv) gi32 g33 g34 g35 g36 g37 g38 g39 gi40 g41 g42 gi43 g44 g45)])) (va_A [(oX8 g gi0 (nI mn) g2 g3 g4 g5 g6 g7 g8 g9 g10 (nI ml) g12 g13 gi14 g15 g16 g17 gi18 g19 g20 g21 g22 g23 g24 g25 g26 g27 g28 gi29 gi30 (nI mv) gi32 g33 g34 g35 g36 g37 g38 g39 gi40 g41 g42 gi43 g44 g45)] sz)) 0 0 (va_A [(oX8 g gi0 (nI mn) g2 g3 g4 g5 g6 g7 g8 g9 g10 (nI ml) g12 g13 gi14 g15 g16 g17 gi18 g19 g20 g21 g22 g23 g24 g25 g26 g27 g28 gi29 gi30 (nI mv) gi32 g33 g34 g35 g36 g37 g38 g39 gi40 g41 g42 gi43 g44 g45)] sz) := by
  refine k_ofW (Qc := cQi D (fun r u => ((True) ∧ r = r1 ∧ u = [(oX8 g 0 (nI mn) g2 g3 g4 g5 g6 g7 g8 g9 g10 (nI ml) g12 g13 r1 g15 g16 g17 gi18 g19 g20 g21 g22 g23 g24 g25 g26 g27 g28 gi29 gi30 (nI mv) gi32 g33 g34 g35 g36 g37 g38 g39 gi40 g41 g42 gi43 g44 g45)]))) (by decide) rfl (Nat.le_of_ble_eq_true rfl) ?_
  intro p e s m below meth c A ls hx hb hr hml hts hown hlk hnm hsz hE hP hD hS hA hl
  have hown : s.vm.findClass RX8 = some m.cls := hown
  have hiX8 : ∀ w ∈ u_ws RX8 TX8 46, w ∈ wtX8_rule := fun w h => List.mem_cons_of_mem _ (iuX8 w h)
  have hl : lv_has ls 1 [(0, .ref g)] := hl
  refine lv_aload_n hx hb dX8_rule_0 rfl (lv_at hl 0 rfl) ?_
  refine lv_iconst (v := 0) hx hb dX8_rule_1 (by decide) ?_
  refine va_put (D := D) (ci := 8) (v := .int 0) (ty := .int) (C := RX8) (T := TX8) (N := 46) hx hb hts hiX8 tyX8 tyX8_ok nmX8 hown hE.1 hP hD hS 0 rfl rfl 0 (by decide) (hts _ (List.mem_cons_of_mem _ wd_171)) (fun _ h9 => h9) rfl (by decide +kernel) rfl rfl (Nat.le_of_ble_eq_true rfl) dX8_rule_2 (fun H locs hP hD hS => ?_)
  refine k_re (w := [(oX8 g 0 (nI mn) g2 g3 g4 g5 g6 g7 g8 g9 g10 (nI ml) g12 g13 gi14 g15 g16 g17 gi18 g19 g20 g21 g22 g23 g24 g25 g26 g27 g28 gi29 gi30 (nI mv) gi32 g33 g34 g35 g36 g37 g38 g39 gi40 g41 g42 gi43 g44 g45)]) hP hD (fun hP hD => ?_)
  refine lv_aload_n hx hb dX8_rule_5 rfl (lv_at hl 0 rfl) ?_
  refine lv_iconst (v := 1) hx hb dX8_rule_6 (by decide) ?_
  refine lv_aload_n hx hb dX8_rule_7 rfl (lv_at hl 0 rfl) ?_
  refine va_get (D := D) (ci := 8) (v := .int gi14) (C := RX8) (T := TX8) (N := 46) hx hb hts hiX8 hown hE.1 hP 0 rfl rfl 14 (by decide) (hts _ (List.mem_cons_of_mem _ wd_269)) (fun _ h9 => h9) rfl dX8_rule_8 ?_
  refine lv_isub hx hb dX8_rule_11 ?_
  rw [← hr1]
  refine va_put (D := D) (ci := 8) (v := .int r1) (ty := .int) (C := RX8) (T := TX8) (N := 46) hx hb hts hiX8 tyX8 tyX8_ok nmX8 hown hE.1 hP hD hS 0 rfl rfl 14 (by decide) (hts _ (List.mem_cons_of_mem _ wd_269)) (fun _ h9 => h9) rfl (by decide +kernel) rfl rfl (Nat.le_of_ble_eq_true rfl) dX8_rule_12 (fun H locs hP hD hS => ?_)
  refine k_re (w := [(oX8 g 0 (nI mn) g2 g3 g4 g5 g6 g7 g8 g9 g10 (nI ml) g12 g13 r1 g15 g16 g17 gi18 g19 g20 g21 g22 g23 g24 g25 g26 g27 g28 gi29 gi30 (nI mv) gi32 g33 g34 g35 g36 g37 g38 g39 gi40 g41 g42 gi43 g44 g45)]) hP hD (fun hP hD => ?_)
  refine lv_aload_n hx hb dX8_rule_15 rfl (lv_at hl 0 rfl) ?_
  refine va_get (D := D) (ci := 8) (v := .int r1) (C := RX8) (T := TX8) (N := 46) hx hb hts hiX8 hown hE.1 hP 0 rfl rfl 14 (by decide) (hts _ (List.mem_cons_of_mem _ wd_269)) (fun _ h9 => h9) rfl dX8_rule_16 ?_
  refine k_iret (u := [(oX8 g 0 (nI mn) g2 g3 g4 g5 g6 g7 g8 g9 g10 (nI ml) g12 g13 r1 g15 g16 g17 gi18 g19 g20 g21 g22 g23 g24 g25 g26 g27 g28 gi29 gi30 (nI mv) gi32 g33 g34 g35 g36 g37 g38 g39 gi40 g41 g42 gi43 g44 g45)]) hx hb hr hlk hP hD hS dX8_rule_19 ?_
  exact ⟨trivial, rfl, rfl⟩

