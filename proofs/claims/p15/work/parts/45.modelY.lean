theorem dX8_file_0 : decode cX8_file 0 = .ok (.aload_n 0, 1) := by decide +kernel
theorem dX8_file_1 : decode cX8_file 1 = .ok (.iconst 0, 1) := by decide +kernel
theorem dX8_file_2 : decode cX8_file 2 = .ok (.putfield 116, 3) := by decide +kernel
theorem dX8_file_5 : decode cX8_file 5 = .ok (.iload_n 1, 1) := by decide +kernel
theorem dX8_file_6 : decode cX8_file 6 = .ok (.iload_n 2, 1) := by decide +kernel
theorem dX8_file_7 : decode cX8_file 7 = .ok (.invokestatic 315, 3) := by decide +kernel
theorem dX8_file_10 : decode cX8_file 10 = .ok (.ifCond .eq 11, 3) := by decide +kernel
theorem dX8_file_13 : decode cX8_file 13 = .ok (.aload_n 0, 1) := by decide +kernel
theorem dX8_file_14 : decode cX8_file 14 = .ok (.iload_n 3, 1) := by decide +kernel
theorem dX8_file_15 : decode cX8_file 15 = .ok (.invokevirtual 140, 3) := by decide +kernel
theorem dX8_file_18 : decode cX8_file 18 = .ok (.ifCond .ne 5, 3) := by decide +kernel
theorem dX8_file_21 : decode cX8_file 21 = .ok (.iconst (-1), 1) := by decide +kernel
theorem dX8_file_22 : decode cX8_file 22 = .ok (.ireturn, 1) := by decide +kernel
theorem dX8_file_23 : decode cX8_file 23 = .ok (.aload_n 0, 1) := by decide +kernel
theorem dX8_file_24 : decode cX8_file 24 = .ok (.getfield 25, 3) := by decide +kernel
theorem dX8_file_27 : decode cX8_file 27 = .ok (.iload_n 3, 1) := by decide +kernel
theorem dX8_file_28 : decode cX8_file 28 = .ok (.iaload, 1) := by decide +kernel
theorem dX8_file_29 : decode cX8_file 29 = .ok (.iload_n 1, 1) := by decide +kernel
theorem dX8_file_30 : decode cX8_file 30 = .ok (.if_icmp .eq 6, 3) := by decide +kernel
theorem dX8_file_33 : decode cX8_file 33 = .ok (.bipush (-2), 2) := by decide +kernel
theorem dX8_file_35 : decode cX8_file 35 = .ok (.ireturn, 1) := by decide +kernel
theorem dX8_file_36 : decode cX8_file 36 = .ok (.aload_n 0, 1) := by decide +kernel
theorem dX8_file_37 : decode cX8_file 37 = .ok (.getfield 46, 3) := by decide +kernel
theorem dX8_file_40 : decode cX8_file 40 = .ok (.bipush 8, 2) := by decide +kernel
theorem dX8_file_42 : decode cX8_file 42 = .ok (.iload_n 1, 1) := by decide +kernel
theorem dX8_file_43 : decode cX8_file 43 = .ok (.imul, 1) := by decide +kernel
theorem dX8_file_44 : decode cX8_file 44 = .ok (.iload_n 2, 1) := by decide +kernel
theorem dX8_file_45 : decode cX8_file 45 = .ok (.iadd, 1) := by decide +kernel
theorem dX8_file_46 : decode cX8_file 46 = .ok (.iload_n 3, 1) := by decide +kernel
theorem dX8_file_47 : decode cX8_file 47 = .ok (.iconst 1, 1) := by decide +kernel
theorem dX8_file_48 : decode cX8_file 48 = .ok (.iadd, 1) := by decide +kernel
theorem dX8_file_49 : decode cX8_file 49 = .ok (.iastore, 1) := by decide +kernel
theorem dX8_file_50 : decode cX8_file 50 = .ok (.aload_n 0, 1) := by decide +kernel
theorem dX8_file_51 : decode cX8_file 51 = .ok (.getfield 49, 3) := by decide +kernel
theorem dX8_file_54 : decode cX8_file 54 = .ok (.bipush 8, 2) := by decide +kernel
theorem dX8_file_56 : decode cX8_file 56 = .ok (.iload_n 1, 1) := by decide +kernel
theorem dX8_file_57 : decode cX8_file 57 = .ok (.imul, 1) := by decide +kernel
theorem dX8_file_58 : decode cX8_file 58 = .ok (.iload_n 2, 1) := by decide +kernel
theorem dX8_file_59 : decode cX8_file 59 = .ok (.iadd, 1) := by decide +kernel
theorem dX8_file_60 : decode cX8_file 60 = .ok (.aload_n 0, 1) := by decide +kernel
theorem dX8_file_61 : decode cX8_file 61 = .ok (.getfield 28, 3) := by decide +kernel
theorem dX8_file_64 : decode cX8_file 64 = .ok (.iload_n 3, 1) := by decide +kernel
theorem dX8_file_65 : decode cX8_file 65 = .ok (.iaload, 1) := by decide +kernel
theorem dX8_file_66 : decode cX8_file 66 = .ok (.iastore, 1) := by decide +kernel
theorem dX8_file_67 : decode cX8_file 67 = .ok (.iconst 0, 1) := by decide +kernel
theorem dX8_file_68 : decode cX8_file 68 = .ok (.ireturn, 1) := by decide +kernel
theorem gX8_file_X8_isPlace : GoodIn wtX8_file (va_wsS RX8 315 yX8_isPlace wtX8_isPlace) := tb_good (tb_s0 wd_948 wd_949 wd_5 wd_950)
theorem gX8_file_X8_isPolicy : GoodIn wtX8_file (wsV RX8 140 RX8 yX8_isPolicy wtX8_isPolicy) := tb_good (tb_v0 wd_198 wd_199 wd_200 wd_5 wd_201)
set_option maxHeartbeats 4000000 in
set_option maxRecDepth 100000 in
theorem m_X8_file (l : Launch) (D : va_G) (cI cJ : ClassId) (sz : Nat) (g g2 g3 g4 g5 g6 g7 g8 g9 g10 g12 g13 g15 g16 g17 g19 g20 g21 g22 g23 g24 g25 g26 g27 g28 g33 g34 g35 g36 g37 g38 g39 g41 g42 g44 g45 mn ml mv : Nat) (gi0 gi14 gi18 gi29 gi30 gi32 gi40 gi43 p0 p1 p2 : Int32) (G7 G8 G16 G17 : Nat → Int32) (hmn : mn ≤ 8) : Met l yX8_file wtX8_file { frames := 2, cells := 0, slots := 0, locals := 46 } (cPc D cI cJ [.ref g, .int p0, .int p1, .int p2] sz [(oX8 g gi0 (nI mn) g2 g3 g4 g5 g6 g7 g8 g9 g10 (nI ml) g12 g13 gi14 g15 g16 g17 gi18 g19 g20 g21 g22 g23 g24 g25 g26 g27 g28 gi29 gi30 (nI mv) gi32 g33 g34 g35 g36 g37 g38 g39 gi40 g41 g42 gi43 g44 g45), (aIc cI g7 8 G7), (aIc cI g8 8 G8), (aIc cI g16 32 G16), (aIc cI g17 32 G17)]) (cQi D (fun r u => (((((0 ≤ p0 ∧ p0 ≤ 3) ∧ 0 ≤ p1 ∧ p1 ≤ 7) ∧ (0 ≤ p2 ∧ p2 ≤ nI mn - 1)) ∧ G7 (Int32.toNatClampNeg p2) = p0) ∧ r = 0 ∧ u = [(oX8 g 0 (nI mn) g2 g3 g4 g5 g6 g7 g8 g9 g10 (nI ml) g12 g13 gi14 g15 g16 g17 gi18 g19 g20 g21 g22 g23 g24 g25 g26 g27 g28 gi29 gi30 (nI mv) gi32 g33 g34 g35 g36 g37 g38 g39 gi40 g41 g42 gi43 g44 g45), (aIc cI g7 8 G7), (aIc cI g8 8 G8), (aIc cI g16 32 (upd G16 (Int32.toNatClampNeg ((8 * p0) + p1)) (p2 + 1))), (aIc cI g17 32 (upd G17 (Int32.toNatClampNeg ((8 * p0) + p1)) (G8 (Int32.toNatClampNeg p2))))]) ∨ ((¬ (((0 ≤ p0 ∧ p0 ≤ 3) ∧ 0 ≤ p1 ∧ p1 ≤ 7) ∧ (0 ≤ p2 ∧ p2 ≤ nI mn - 1))) ∧ r = -1 ∧ u = [(oX8 g 0 (nI mn) g2 g3 g4 g5 g6 g7 g8 g9 g10 (nI ml) g12 g13 gi14 g15 g16 g17 gi18 g19 g20 g21 g22 g23 g24 g25 g26 g27 g28 gi29 gi30 (nI mv) gi32 g33 g34 g35 g36 g37 g38 g39 gi40 g41 g42 gi43 g44 g45), (aIc cI g7 8 G7), (aIc cI g8 8 G8), (aIc cI g16 32 G16), (aIc cI g17 32 G17)]) ∨ (((((0 ≤ p0 ∧ p0 ≤ 3) ∧ 0 ≤ p1 ∧ p1 ≤ 7) ∧ (0 ≤ p2 ∧ p2 ≤ nI mn - 1)) ∧ ¬ G7 (Int32.toNatClampNeg p2) = p0) ∧ r = -2 ∧ u = [(oX8 g 0 (nI mn) g2 g3 g4 g5 g6 g7 g8 g9 g10 (nI ml) g12 g13 gi14 g15 g16 g17 gi18 g19 g20 g21 g22 g23 g24 g25 g26 g27 g28 gi29 gi30 (nI mv) gi32 g33 g34 g35 g36 g37 g38 g39 gi40 g41 g42 gi43 g44 g45), (aIc cI g7 8 G7), (aIc cI g8 8 G8), (aIc cI g16 32 G16), (aIc cI g17 32 G17)])) (va_A [(oX8 g gi0 (nI mn) g2 g3 g4 g5 g6 g7 g8 g9 g10 (nI ml) g12 g13 gi14 g15 g16 g17 gi18 g19 g20 g21 g22 g23 g24 g25 g26 g27 g28 gi29 gi30 (nI mv) gi32 g33 g34 g35 g36 g37 g38 g39 gi40 g41 g42 gi43 g44 g45), (aIc cI g7 8 G7), (aIc cI g8 8 G8), (aIc cI g16 32 G16), (aIc cI g17 32 G17)] sz)) 0 0 (va_A [(oX8 g gi0 (nI mn) g2 g3 g4 g5 g6 g7 g8 g9 g10 (nI ml) g12 g13 gi14 g15 g16 g17 gi18 g19 g20 g21 g22 g23 g24 g25 g26 g27 g28 gi29 gi30 (nI mv) gi32 g33 g34 g35 g36 g37 g38 g39 gi40 g41 g42 gi43 g44 g45), (aIc cI g7 8 G7), (aIc cI g8 8 G8), (aIc cI g16 32 G16), (aIc cI g17 32 G17)] sz) := by
  refine k_ofW (Qc := cQi D (fun r u => (((((0 ≤ p0 ∧ p0 ≤ 3) ∧ 0 ≤ p1 ∧ p1 ≤ 7) ∧ (0 ≤ p2 ∧ p2 ≤ nI mn - 1)) ∧ G7 (Int32.toNatClampNeg p2) = p0) ∧ r = 0 ∧ u = [(oX8 g 0 (nI mn) g2 g3 g4 g5 g6 g7 g8 g9 g10 (nI ml) g12 g13 gi14 g15 g16 g17 gi18 g19 g20 g21 g22 g23 g24 g25 g26 g27 g28 gi29 gi30 (nI mv) gi32 g33 g34 g35 g36 g37 g38 g39 gi40 g41 g42 gi43 g44 g45), (aIc cI g7 8 G7), (aIc cI g8 8 G8), (aIc cI g16 32 (upd G16 (Int32.toNatClampNeg ((8 * p0) + p1)) (p2 + 1))), (aIc cI g17 32 (upd G17 (Int32.toNatClampNeg ((8 * p0) + p1)) (G8 (Int32.toNatClampNeg p2))))]) ∨ ((¬ (((0 ≤ p0 ∧ p0 ≤ 3) ∧ 0 ≤ p1 ∧ p1 ≤ 7) ∧ (0 ≤ p2 ∧ p2 ≤ nI mn - 1))) ∧ r = -1 ∧ u = [(oX8 g 0 (nI mn) g2 g3 g4 g5 g6 g7 g8 g9 g10 (nI ml) g12 g13 gi14 g15 g16 g17 gi18 g19 g20 g21 g22 g23 g24 g25 g26 g27 g28 gi29 gi30 (nI mv) gi32 g33 g34 g35 g36 g37 g38 g39 gi40 g41 g42 gi43 g44 g45), (aIc cI g7 8 G7), (aIc cI g8 8 G8), (aIc cI g16 32 G16), (aIc cI g17 32 G17)]) ∨ (((((0 ≤ p0 ∧ p0 ≤ 3) ∧ 0 ≤ p1 ∧ p1 ≤ 7) ∧ (0 ≤ p2 ∧ p2 ≤ nI mn - 1)) ∧ ¬ G7 (Int32.toNatClampNeg p2) = p0) ∧ r = -2 ∧ u = [(oX8 g 0 (nI mn) g2 g3 g4 g5 g6 g7 g8 g9 g10 (nI ml) g12 g13 gi14 g15 g16 g17 gi18 g19 g20 g21 g22 g23 g24 g25 g26 g27 g28 gi29 gi30 (nI mv) gi32 g33 g34 g35 g36 g37 g38 g39 gi40 g41 g42 gi43 g44 g45), (aIc cI g7 8 G7), (aIc cI g8 8 G8), (aIc cI g16 32 G16), (aIc cI g17 32 G17)]))) (by decide) rfl (Nat.le_of_ble_eq_true rfl) ?_
  intro p e s m below meth c A ls hx hb hr hml hts hown hlk hnm hsz hE hP hD hS hA hl
  have hown : s.vm.findClass RX8 = some m.cls := hown
  have hiX8 : ∀ w ∈ u_ws RX8 TX8 46, w ∈ wtX8_file := fun w h => List.mem_cons_of_mem _ (iuX8 w h)
  have hl : lv_has ls 4 [(0, .ref g), (1, .int p0), (2, .int p1), (3, .int p2)] := hl
  refine lv_aload_n hx hb dX8_file_0 rfl (lv_at hl 0 rfl) ?_
  refine lv_iconst (v := 0) hx hb dX8_file_1 (by decide) ?_
  refine va_put (D := D) (ci := 8) (v := .int 0) (ty := .int) (C := RX8) (T := TX8) (N := 46) hx hb hts hiX8 tyX8 tyX8_ok nmX8 hown hE.1 hP hD hS 0 rfl rfl 0 (by decide) (hts _ (List.mem_cons_of_mem _ wd_171)) (fun _ h9 => h9) rfl (by decide +kernel) rfl rfl (Nat.le_of_ble_eq_true rfl) dX8_file_2 (fun H locs hP hD hS => ?_)
  refine k_re (w := [(oX8 g 0 (nI mn) g2 g3 g4 g5 g6 g7 g8 g9 g10 (nI ml) g12 g13 gi14 g15 g16 g17 gi18 g19 g20 g21 g22 g23 g24 g25 g26 g27 g28 gi29 gi30 (nI mv) gi32 g33 g34 g35 g36 g37 g38 g39 gi40 g41 g42 gi43 g44 g45), (aIc cI g7 8 G7), (aIc cI g8 8 G8), (aIc cI g16 32 G16), (aIc cI g17 32 G17)]) hP hD (fun hP hD => ?_)
  refine lv_iload_n hx hb dX8_file_5 rfl (lv_at hl 1 rfl) ?_
  refine lv_iload_n hx hb dX8_file_6 rfl (lv_at hl 2 rfl) ?_
  refine k_iS (va_runS (As := [.int p0, .int p1]) (rest := []) ⟨hx, hb, hml, hown, hts⟩ (m_X8_isPlace l D cI cJ H.size p0 p1) (va_cwS 2 hts gX8_file_X8_isPlace rfl rfl rfl (by decide +kernel) ⟨Nat.le_of_ble_eq_true rfl, Nat.le_of_ble_eq_true rfl⟩) (k_pre hE hP hD [] (by decide +kernel) rfl) rfl rfl hl.1 rfl (lv_room (Nat.le_of_ble_eq_true rfl)) dX8_file_7 ⟨Nat.le_of_ble_eq_true rfl, Nat.le_of_ble_eq_true rfl⟩) hP hD hS hA [] rfl (fun _ _ h9 => h9.2) (fun r1 H locs hw2 hP hD hS => ?_)
  obtain ⟨hw2, -⟩ := hw2
  refine lv_if_eq (tgt := 21) hx hb dX8_file_10 (by decide) (fun c3 => ?_) (fun c3 => ?_)
  · skip
    have hc3 : ¬ ((0 ≤ p0 ∧ p0 ≤ 3) ∧ 0 ≤ p1 ∧ p1 ≤ 7) := bz_0 hw2 c3
    refine lv_iconst (v := (-1)) hx hb dX8_file_21 (by decide) ?_
    refine k_iret (u := [(oX8 g 0 (nI mn) g2 g3 g4 g5 g6 g7 g8 g9 g10 (nI ml) g12 g13 gi14 g15 g16 g17 gi18 g19 g20 g21 g22 g23 g24 g25 g26 g27 g28 gi29 gi30 (nI mv) gi32 g33 g34 g35 g36 g37 g38 g39 gi40 g41 g42 gi43 g44 g45), (aIc cI g7 8 G7), (aIc cI g8 8 G8), (aIc cI g16 32 G16), (aIc cI g17 32 G17)]) hx hb hr hlk hP hD hS dX8_file_22 ?_
    exact Or.inr (Or.inl ⟨(fun q => hc3 q.1), rfl, rfl⟩)
  · skip
    have hc3 : (0 ≤ p0 ∧ p0 ≤ 3) ∧ 0 ≤ p1 ∧ p1 ≤ 7 := bz_1 hw2 c3
    refine lv_aload_n hx hb dX8_file_13 rfl (lv_at hl 0 rfl) ?_
    refine lv_iload_n hx hb dX8_file_14 rfl (lv_at hl 3 rfl) ?_
    refine k_iS (va_runV (As := [.int p2]) (rest := []) ⟨hx, hb, hml, hown, hts⟩ (m_X8_isPolicy l D cI cJ H.size g g2 g3 g4 g5 g6 g7 g8 g9 g10 g12 g13 g15 g16 g17 g19 g20 g21 g22 g23 g24 g25 g26 g27 g28 g33 g34 g35 g36 g37 g38 g39 g41 g42 g44 g45 mn ml mv 0 gi14 gi18 gi29 gi30 gi32 gi40 gi43 p2) (cwV 1 hts gX8_file_X8_isPolicy rfl rfl rfl (by decide +kernel) ⟨Nat.le_of_ble_eq_true rfl, Nat.le_of_ble_eq_true rfl⟩) (k_preV hE hP hD [0] (by decide +kernel) rfl 0 rfl rfl) rfl rfl hl.1 rfl (lv_room (Nat.le_of_ble_eq_true rfl)) dX8_file_15 ⟨Nat.le_of_ble_eq_true rfl, Nat.le_of_ble_eq_true rfl⟩) hP hD hS hA [0] rfl (fun _ _ ⟨_, h9⟩ => h9) (fun r4 H locs hw5 hP hD hS => ?_)
    obtain ⟨hb6, -⟩ := hw5
    refine lv_if_ne (tgt := 23) hx hb dX8_file_18 (by decide) (fun c7 => ?_) (fun c7 => ?_)
    · skip
      have hc7 : 0 ≤ p2 ∧ p2 ≤ nI mn - 1 := bz_1 hb6 c7
      refine lv_aload_n hx hb dX8_file_23 rfl (lv_at hl 0 rfl) ?_
      refine va_get (D := D) (ci := 8) (v := .ref g7) (C := RX8) (T := TX8) (N := 46) hx hb hts hiX8 hown hE.1 hP 0 rfl rfl 7 (by decide) (hts _ (List.mem_cons_of_mem _ wd_121)) (fun _ h9 => h9) rfl dX8_file_24 ?_
      refine lv_iload_n hx hb dX8_file_27 rfl (lv_at hl 3 rfl) ?_
      refine va_iald hx hb hE.1 hP 1 0 rfl rfl (by obtain ⟨j9, h9, e9⟩ := wi_n (by omega) hc7; rw [e9]; exact vp_in_nI (by omega) (by decide)) dX8_file_28 ?_
      refine lv_iload_n hx hb dX8_file_29 rfl (lv_at hl 1 rfl) ?_
      refine lv_icmp_eq (tgt := 36) hx hb dX8_file_30 (by decide) (fun c8 => ?_) (fun c8 => ?_)
      · skip
        refine lv_aload_n hx hb dX8_file_36 rfl (lv_at hl 0 rfl) ?_
        refine va_get (D := D) (ci := 8) (v := .ref g16) (C := RX8) (T := TX8) (N := 46) hx hb hts hiX8 hown hE.1 hP 0 rfl rfl 16 (by decide) (hts _ (List.mem_cons_of_mem _ wd_128)) (fun _ h9 => h9) rfl dX8_file_37 ?_
        refine lv_bipush (v := 8) hx hb dX8_file_40 (by decide) ?_
        refine lv_iload_n hx hb dX8_file_42 rfl (lv_at hl 1 rfl) ?_
        refine lv_imul hx hb dX8_file_43 ?_
        refine lv_iload_n hx hb dX8_file_44 rfl (lv_at hl 2 rfl) ?_
        refine lv_iadd hx hb dX8_file_45 ?_
        refine lv_iload_n hx hb dX8_file_46 rfl (lv_at hl 3 rfl) ?_
        refine lv_iconst (v := 1) hx hb dX8_file_47 (by decide) ?_
        refine lv_iadd hx hb dX8_file_48 ?_
        refine va_iast hx hb hE.1 hP hD hS 3 0 rfl rfl (vi_32m hc3) dX8_file_49 (fun H locs hP hD hS => ?_)
        refine k_re (w := [(oX8 g 0 (nI mn) g2 g3 g4 g5 g6 g7 g8 g9 g10 (nI ml) g12 g13 gi14 g15 g16 g17 gi18 g19 g20 g21 g22 g23 g24 g25 g26 g27 g28 gi29 gi30 (nI mv) gi32 g33 g34 g35 g36 g37 g38 g39 gi40 g41 g42 gi43 g44 g45), (aIc cI g7 8 G7), (aIc cI g8 8 G8), (aIc cI g16 32 (upd G16 (Int32.toNatClampNeg ((8 * p0) + p1)) (p2 + 1))), (aIc cI g17 32 G17)]) hP hD (fun hP hD => ?_)
        refine lv_aload_n hx hb dX8_file_50 rfl (lv_at hl 0 rfl) ?_
        refine va_get (D := D) (ci := 8) (v := .ref g17) (C := RX8) (T := TX8) (N := 46) hx hb hts hiX8 hown hE.1 hP 0 rfl rfl 17 (by decide) (hts _ (List.mem_cons_of_mem _ wd_129)) (fun _ h9 => h9) rfl dX8_file_51 ?_
        refine lv_bipush (v := 8) hx hb dX8_file_54 (by decide) ?_
        refine lv_iload_n hx hb dX8_file_56 rfl (lv_at hl 1 rfl) ?_
        refine lv_imul hx hb dX8_file_57 ?_
        refine lv_iload_n hx hb dX8_file_58 rfl (lv_at hl 2 rfl) ?_
        refine lv_iadd hx hb dX8_file_59 ?_
        refine lv_aload_n hx hb dX8_file_60 rfl (lv_at hl 0 rfl) ?_
        refine va_get (D := D) (ci := 8) (v := .ref g8) (C := RX8) (T := TX8) (N := 46) hx hb hts hiX8 hown hE.1 hP 0 rfl rfl 8 (by decide) (hts _ (List.mem_cons_of_mem _ wd_122)) (fun _ h9 => h9) rfl dX8_file_61 ?_
        refine lv_iload_n hx hb dX8_file_64 rfl (lv_at hl 3 rfl) ?_
        refine va_iald hx hb hE.1 hP 2 0 rfl rfl (by obtain ⟨j9, h9, e9⟩ := wi_n (by omega) hc7; rw [e9]; exact vp_in_nI (by omega) (by decide)) dX8_file_65 ?_
        refine va_iast hx hb hE.1 hP hD hS 4 0 rfl rfl (vi_32m hc3) dX8_file_66 (fun H locs hP hD hS => ?_)
        refine k_re (w := [(oX8 g 0 (nI mn) g2 g3 g4 g5 g6 g7 g8 g9 g10 (nI ml) g12 g13 gi14 g15 g16 g17 gi18 g19 g20 g21 g22 g23 g24 g25 g26 g27 g28 gi29 gi30 (nI mv) gi32 g33 g34 g35 g36 g37 g38 g39 gi40 g41 g42 gi43 g44 g45), (aIc cI g7 8 G7), (aIc cI g8 8 G8), (aIc cI g16 32 (upd G16 (Int32.toNatClampNeg ((8 * p0) + p1)) (p2 + 1))), (aIc cI g17 32 (upd G17 (Int32.toNatClampNeg ((8 * p0) + p1)) (G8 (Int32.toNatClampNeg p2))))]) hP hD (fun hP hD => ?_)
        refine lv_iconst (v := 0) hx hb dX8_file_67 (by decide) ?_
        refine k_iret (u := [(oX8 g 0 (nI mn) g2 g3 g4 g5 g6 g7 g8 g9 g10 (nI ml) g12 g13 gi14 g15 g16 g17 gi18 g19 g20 g21 g22 g23 g24 g25 g26 g27 g28 gi29 gi30 (nI mv) gi32 g33 g34 g35 g36 g37 g38 g39 gi40 g41 g42 gi43 g44 g45), (aIc cI g7 8 G7), (aIc cI g8 8 G8), (aIc cI g16 32 (upd G16 (Int32.toNatClampNeg ((8 * p0) + p1)) (p2 + 1))), (aIc cI g17 32 (upd G17 (Int32.toNatClampNeg ((8 * p0) + p1)) (G8 (Int32.toNatClampNeg p2))))]) hx hb hr hlk hP hD hS dX8_file_68 ?_
        exact Or.inl ⟨⟨⟨hc3, hc7⟩, c8⟩, rfl, rfl⟩
      · skip
        refine lv_bipush (v := (-2)) hx hb dX8_file_33 (by decide) ?_
        refine k_iret (u := [(oX8 g 0 (nI mn) g2 g3 g4 g5 g6 g7 g8 g9 g10 (nI ml) g12 g13 gi14 g15 g16 g17 gi18 g19 g20 g21 g22 g23 g24 g25 g26 g27 g28 gi29 gi30 (nI mv) gi32 g33 g34 g35 g36 g37 g38 g39 gi40 g41 g42 gi43 g44 g45), (aIc cI g7 8 G7), (aIc cI g8 8 G8), (aIc cI g16 32 G16), (aIc cI g17 32 G17)]) hx hb hr hlk hP hD hS dX8_file_35 ?_
        exact Or.inr (Or.inr ⟨⟨⟨hc3, hc7⟩, c8⟩, rfl, rfl⟩)
    · skip
      have hc7 : ¬ (0 ≤ p2 ∧ p2 ≤ nI mn - 1) := bz_0 hb6 c7
      refine lv_iconst (v := (-1)) hx hb dX8_file_21 (by decide) ?_
      refine k_iret (u := [(oX8 g 0 (nI mn) g2 g3 g4 g5 g6 g7 g8 g9 g10 (nI ml) g12 g13 gi14 g15 g16 g17 gi18 g19 g20 g21 g22 g23 g24 g25 g26 g27 g28 gi29 gi30 (nI mv) gi32 g33 g34 g35 g36 g37 g38 g39 gi40 g41 g42 gi43 g44 g45), (aIc cI g7 8 G7), (aIc cI g8 8 G8), (aIc cI g16 32 G16), (aIc cI g17 32 G17)]) hx hb hr hlk hP hD hS dX8_file_22 ?_
      exact Or.inr (Or.inl ⟨(fun q => hc7 q.2), rfl, rfl⟩)
theorem dX8_filed_0 : decode cX8_filed 0 = .ok (.aload_n 0, 1) := by decide +kernel
theorem dX8_filed_1 : decode cX8_filed 1 = .ok (.iconst 0, 1) := by decide +kernel
theorem dX8_filed_2 : decode cX8_filed 2 = .ok (.putfield 116, 3) := by decide +kernel
theorem dX8_filed_5 : decode cX8_filed 5 = .ok (.iload_n 1, 1) := by decide +kernel
theorem dX8_filed_6 : decode cX8_filed 6 = .ok (.iload_n 2, 1) := by decide +kernel
theorem dX8_filed_7 : decode cX8_filed 7 = .ok (.invokestatic 315, 3) := by decide +kernel
theorem dX8_filed_10 : decode cX8_filed 10 = .ok (.ifCond .ne 5, 3) := by decide +kernel
theorem dX8_filed_13 : decode cX8_filed 13 = .ok (.iconst (-1), 1) := by decide +kernel
theorem dX8_filed_14 : decode cX8_filed 14 = .ok (.ireturn, 1) := by decide +kernel
theorem dX8_filed_15 : decode cX8_filed 15 = .ok (.bipush 8, 2) := by decide +kernel
theorem dX8_filed_17 : decode cX8_filed 17 = .ok (.iload_n 1, 1) := by decide +kernel
theorem dX8_filed_18 : decode cX8_filed 18 = .ok (.imul, 1) := by decide +kernel
theorem dX8_filed_19 : decode cX8_filed 19 = .ok (.iload_n 2, 1) := by decide +kernel
theorem dX8_filed_20 : decode cX8_filed 20 = .ok (.iadd, 1) := by decide +kernel
theorem dX8_filed_21 : decode cX8_filed 21 = .ok (.istore 4, 2) := by decide +kernel
theorem dX8_filed_23 : decode cX8_filed 23 = .ok (.aload_n 0, 1) := by decide +kernel
theorem dX8_filed_24 : decode cX8_filed 24 = .ok (.getfield 46, 3) := by decide +kernel
theorem dX8_filed_27 : decode cX8_filed 27 = .ok (.iload 4, 2) := by decide +kernel
theorem dX8_filed_29 : decode cX8_filed 29 = .ok (.iaload, 1) := by decide +kernel
theorem dX8_filed_30 : decode cX8_filed 30 = .ok (.ifCond .ne 6, 3) := by decide +kernel
theorem dX8_filed_33 : decode cX8_filed 33 = .ok (.bipush (-2), 2) := by decide +kernel
theorem dX8_filed_35 : decode cX8_filed 35 = .ok (.ireturn, 1) := by decide +kernel
theorem dX8_filed_36 : decode cX8_filed 36 = .ok (.iload_n 3, 1) := by decide +kernel
theorem dX8_filed_37 : decode cX8_filed 37 = .ok (.ifCond .eq 13, 3) := by decide +kernel
theorem dX8_filed_40 : decode cX8_filed 40 = .ok (.aload_n 0, 1) := by decide +kernel
theorem dX8_filed_41 : decode cX8_filed 41 = .ok (.getfield 49, 3) := by decide +kernel
theorem dX8_filed_44 : decode cX8_filed 44 = .ok (.iload 4, 2) := by decide +kernel
theorem dX8_filed_46 : decode cX8_filed 46 = .ok (.iaload, 1) := by decide +kernel
theorem dX8_filed_47 : decode cX8_filed 47 = .ok (.goto 12, 3) := by decide +kernel
theorem dX8_filed_50 : decode cX8_filed 50 = .ok (.aload_n 0, 1) := by decide +kernel
theorem dX8_filed_51 : decode cX8_filed 51 = .ok (.getfield 46, 3) := by decide +kernel
theorem dX8_filed_54 : decode cX8_filed 54 = .ok (.iload 4, 2) := by decide +kernel
theorem dX8_filed_56 : decode cX8_filed 56 = .ok (.iaload, 1) := by decide +kernel
theorem dX8_filed_57 : decode cX8_filed 57 = .ok (.iconst 1, 1) := by decide +kernel
theorem dX8_filed_58 : decode cX8_filed 58 = .ok (.isub, 1) := by decide +kernel
theorem dX8_filed_59 : decode cX8_filed 59 = .ok (.ireturn, 1) := by decide +kernel
theorem gX8_filed_X8_isPlace : GoodIn wtX8_filed (va_wsS RX8 315 yX8_isPlace wtX8_isPlace) := tb_good (tb_s0 wd_948 wd_949 wd_5 wd_950)
set_option maxHeartbeats 4000000 in
set_option maxRecDepth 100000 in
theorem m_X8_filed (l : Launch) (D : va_G) (cI cJ : ClassId) (sz : Nat) (g g2 g3 g4 g5 g6 g7 g8 g9 g10 g12 g13 g15 g16 g17 g19 g20 g21 g22 g23 g24 g25 g26 g27 g28 g33 g34 g35 g36 g37 g38 g39 g41 g42 g44 g45 mn ml mv : Nat) (gi0 gi14 gi18 gi29 gi30 gi32 gi40 gi43 p0 p1 p2 : Int32) (G16 G17 : Nat → Int32) : Met l yX8_filed wtX8_filed { frames := 2, cells := 0, slots := 0, locals := 46 } (cPc D cI cJ [.ref g, .int p0, .int p1, .int p2] sz [(oX8 g gi0 (nI mn) g2 g3 g4 g5 g6 g7 g8 g9 g10 (nI ml) g12 g13 gi14 g15 g16 g17 gi18 g19 g20 g21 g22 g23 g24 g25 g26 g27 g28 gi29 gi30 (nI mv) gi32 g33 g34 g35 g36 g37 g38 g39 gi40 g41 g42 gi43 g44 g45), (aIc cI g16 32 G16), (aIc cI g17 32 G17)]) (cQi D (fun r u => ((¬ ((0 ≤ p0 ∧ p0 ≤ 3) ∧ 0 ≤ p1 ∧ p1 ≤ 7)) ∧ r = -1 ∧ u = [(oX8 g 0 (nI mn) g2 g3 g4 g5 g6 g7 g8 g9 g10 (nI ml) g12 g13 gi14 g15 g16 g17 gi18 g19 g20 g21 g22 g23 g24 g25 g26 g27 g28 gi29 gi30 (nI mv) gi32 g33 g34 g35 g36 g37 g38 g39 gi40 g41 g42 gi43 g44 g45), (aIc cI g16 32 G16), (aIc cI g17 32 G17)]) ∨ ((((0 ≤ p0 ∧ p0 ≤ 3) ∧ 0 ≤ p1 ∧ p1 ≤ 7) ∧ G16 (Int32.toNatClampNeg ((8 * p0) + p1)) = 0) ∧ r = -2 ∧ u = [(oX8 g 0 (nI mn) g2 g3 g4 g5 g6 g7 g8 g9 g10 (nI ml) g12 g13 gi14 g15 g16 g17 gi18 g19 g20 g21 g22 g23 g24 g25 g26 g27 g28 gi29 gi30 (nI mv) gi32 g33 g34 g35 g36 g37 g38 g39 gi40 g41 g42 gi43 g44 g45), (aIc cI g16 32 G16), (aIc cI g17 32 G17)]) ∨ ((((0 ≤ p0 ∧ p0 ≤ 3) ∧ 0 ≤ p1 ∧ p1 ≤ 7) ∧ ¬ G16 (Int32.toNatClampNeg ((8 * p0) + p1)) = 0 ∧ ¬ p2 = 0) ∧ r = G17 (Int32.toNatClampNeg ((8 * p0) + p1)) ∧ u = [(oX8 g 0 (nI mn) g2 g3 g4 g5 g6 g7 g8 g9 g10 (nI ml) g12 g13 gi14 g15 g16 g17 gi18 g19 g20 g21 g22 g23 g24 g25 g26 g27 g28 gi29 gi30 (nI mv) gi32 g33 g34 g35 g36 g37 g38 g39 gi40 g41 g42 gi43 g44 g45), (aIc cI g16 32 G16), (aIc cI g17 32 G17)]) ∨ ((((0 ≤ p0 ∧ p0 ≤ 3) ∧ 0 ≤ p1 ∧ p1 ≤ 7) ∧ ¬ G16 (Int32.toNatClampNeg ((8 * p0) + p1)) = 0 ∧ p2 = 0) ∧ r = (G16 (Int32.toNatClampNeg ((8 * p0) + p1))) - 1 ∧ u = [(oX8 g 0 (nI mn) g2 g3 g4 g5 g6 g7 g8 g9 g10 (nI ml) g12 g13 gi14 g15 g16 g17 gi18 g19 g20 g21 g22 g23 g24 g25 g26 g27 g28 gi29 gi30 (nI mv) gi32 g33 g34 g35 g36 g37 g38 g39 gi40 g41 g42 gi43 g44 g45), (aIc cI g16 32 G16), (aIc cI g17 32 G17)])) (va_A [(oX8 g gi0 (nI mn) g2 g3 g4 g5 g6 g7 g8 g9 g10 (nI ml) g12 g13 gi14 g15 g16 g17 gi18 g19 g20 g21 g22 g23 g24 g25 g26 g27 g28 gi29 gi30 (nI mv) gi32 g33 g34 g35 g36 g37 g38 g39 gi40 g41 g42 gi43 g44 g45), (aIc cI g16 32 G16), (aIc cI g17 32 G17)] sz)) 0 0 (va_A [(oX8 g gi0 (nI mn) g2 g3 g4 g5 g6 g7 g8 g9 g10 (nI ml) g12 g13 gi14 g15 g16 g17 gi18 g19 g20 g21 g22 g23 g24 g25 g26 g27 g28 gi29 gi30 (nI mv) gi32 g33 g34 g35 g36 g37 g38 g39 gi40 g41 g42 gi43 g44 g45), (aIc cI g16 32 G16), (aIc cI g17 32 G17)] sz) := by
  refine k_ofW (Qc := cQi D (fun r u => ((¬ ((0 ≤ p0 ∧ p0 ≤ 3) ∧ 0 ≤ p1 ∧ p1 ≤ 7)) ∧ r = -1 ∧ u = [(oX8 g 0 (nI mn) g2 g3 g4 g5 g6 g7 g8 g9 g10 (nI ml) g12 g13 gi14 g15 g16 g17 gi18 g19 g20 g21 g22 g23 g24 g25 g26 g27 g28 gi29 gi30 (nI mv) gi32 g33 g34 g35 g36 g37 g38 g39 gi40 g41 g42 gi43 g44 g45), (aIc cI g16 32 G16), (aIc cI g17 32 G17)]) ∨ ((((0 ≤ p0 ∧ p0 ≤ 3) ∧ 0 ≤ p1 ∧ p1 ≤ 7) ∧ G16 (Int32.toNatClampNeg ((8 * p0) + p1)) = 0) ∧ r = -2 ∧ u = [(oX8 g 0 (nI mn) g2 g3 g4 g5 g6 g7 g8 g9 g10 (nI ml) g12 g13 gi14 g15 g16 g17 gi18 g19 g20 g21 g22 g23 g24 g25 g26 g27 g28 gi29 gi30 (nI mv) gi32 g33 g34 g35 g36 g37 g38 g39 gi40 g41 g42 gi43 g44 g45), (aIc cI g16 32 G16), (aIc cI g17 32 G17)]) ∨ ((((0 ≤ p0 ∧ p0 ≤ 3) ∧ 0 ≤ p1 ∧ p1 ≤ 7) ∧ ¬ G16 (Int32.toNatClampNeg ((8 * p0) + p1)) = 0 ∧ ¬ p2 = 0) ∧ r = G17 (Int32.toNatClampNeg ((8 * p0) + p1)) ∧ u = [(oX8 g 0 (nI mn) g2 g3 g4 g5 g6 g7 g8 g9 g10 (nI ml) g12 g13 gi14 g15 g16 g17 gi18 g19 g20 g21 g22 g23 g24 g25 g26 g27 g28 gi29 gi30 (nI mv) gi32 g33 g34 g35 g36 g37 g38 g39 gi40 g41 g42 gi43 g44 g45), (aIc cI g16 32 G16), (aIc cI g17 32 G17)]) ∨ ((((0 ≤ p0 ∧ p0 ≤ 3) ∧ 0 ≤ p1 ∧ p1 ≤ 7) ∧ ¬ G16 (Int32.toNatClampNeg ((8 * p0) + p1)) = 0 ∧ p2 = 0) ∧ r = (G16 (Int32.toNatClampNeg ((8 * p0) + p1))) - 1 ∧ u = [(oX8 g 0 (nI mn) g2 g3 g4 g5 g6 g7 g8 g9 g10 (nI ml) g12 g13 gi14 g15 g16 g17 gi18 g19 g20 g21 g22 g23 g24 g25 g26 g27 g28 gi29 gi30 (nI mv) gi32 g33 g34 g35 g36 g37 g38 g39 gi40 g41 g42 gi43 g44 g45), (aIc cI g16 32 G16), (aIc cI g17 32 G17)]))) (by decide) rfl (Nat.le_of_ble_eq_true rfl) ?_
  intro p e s m below meth c A ls hx hb hr hml hts hown hlk hnm hsz hE hP hD hS hA hl
  have hown : s.vm.findClass RX8 = some m.cls := hown
  have hiX8 : ∀ w ∈ u_ws RX8 TX8 46, w ∈ wtX8_filed := fun w h => List.mem_cons_of_mem _ (iuX8 w h)
  have hl : lv_has ls 5 [(0, .ref g), (1, .int p0), (2, .int p1), (3, .int p2)] := hl
  refine lv_aload_n hx hb dX8_filed_0 rfl (lv_at hl 0 rfl) ?_
  refine lv_iconst (v := 0) hx hb dX8_filed_1 (by decide) ?_
  refine va_put (D := D) (ci := 8) (v := .int 0) (ty := .int) (C := RX8) (T := TX8) (N := 46) hx hb hts hiX8 tyX8 tyX8_ok nmX8 hown hE.1 hP hD hS 0 rfl rfl 0 (by decide) (hts _ (List.mem_cons_of_mem _ wd_171)) (fun _ h9 => h9) rfl (by decide +kernel) rfl rfl (Nat.le_of_ble_eq_true rfl) dX8_filed_2 (fun H locs hP hD hS => ?_)
  refine k_re (w := [(oX8 g 0 (nI mn) g2 g3 g4 g5 g6 g7 g8 g9 g10 (nI ml) g12 g13 gi14 g15 g16 g17 gi18 g19 g20 g21 g22 g23 g24 g25 g26 g27 g28 gi29 gi30 (nI mv) gi32 g33 g34 g35 g36 g37 g38 g39 gi40 g41 g42 gi43 g44 g45), (aIc cI g16 32 G16), (aIc cI g17 32 G17)]) hP hD (fun hP hD => ?_)
  refine lv_iload_n hx hb dX8_filed_5 rfl (lv_at hl 1 rfl) ?_
  refine lv_iload_n hx hb dX8_filed_6 rfl (lv_at hl 2 rfl) ?_
  refine k_iS (va_runS (As := [.int p0, .int p1]) (rest := []) ⟨hx, hb, hml, hown, hts⟩ (m_X8_isPlace l D cI cJ H.size p0 p1) (va_cwS 2 hts gX8_filed_X8_isPlace rfl rfl rfl (by decide +kernel) ⟨Nat.le_of_ble_eq_true rfl, Nat.le_of_ble_eq_true rfl⟩) (k_pre hE hP hD [] (by decide +kernel) rfl) rfl rfl hl.1 rfl (lv_room (Nat.le_of_ble_eq_true rfl)) dX8_filed_7 ⟨Nat.le_of_ble_eq_true rfl, Nat.le_of_ble_eq_true rfl⟩) hP hD hS hA [] rfl (fun _ _ h9 => h9.2) (fun r1 H locs hw2 hP hD hS => ?_)
  obtain ⟨hw2, -⟩ := hw2
  refine lv_if_ne (tgt := 15) hx hb dX8_filed_10 (by decide) (fun c3 => ?_) (fun c3 => ?_)
  · skip
    have hc3 : (0 ≤ p0 ∧ p0 ≤ 3) ∧ 0 ≤ p1 ∧ p1 ≤ 7 := bz_1 hw2 c3
    refine lv_bipush (v := 8) hx hb dX8_filed_15 (by decide) ?_
    refine lv_iload_n hx hb dX8_filed_17 rfl (lv_at hl 1 rfl) ?_
    refine lv_imul hx hb dX8_filed_18 ?_
    refine lv_iload_n hx hb dX8_filed_19 rfl (lv_at hl 2 rfl) ?_
    refine lv_iadd hx hb dX8_filed_20 ?_
    refine lv_topi (fun v4 ev4 => ?_)
    refine lv_istore (lv' := [(4, .int v4), (0, .ref g), (1, .int p0), (2, .int p1), (3, .int p2)]) hx hb dX8_filed_21 hl (by decide) rfl (fun ls hl => ?_)
    subst ev4
    refine lv_aload_n hx hb dX8_filed_23 rfl (lv_at hl 1 rfl) ?_
    refine va_get (D := D) (ci := 8) (v := .ref g16) (C := RX8) (T := TX8) (N := 46) hx hb hts hiX8 hown hE.1 hP 0 rfl rfl 16 (by decide) (hts _ (List.mem_cons_of_mem _ wd_128)) (fun _ h9 => h9) rfl dX8_filed_24 ?_
    refine lv_iload hx hb dX8_filed_27 (lv_at hl 0 rfl) ?_
    refine va_iald hx hb hE.1 hP 1 0 rfl rfl (vi_32m hc3) dX8_filed_29 ?_
    refine lv_if_ne (tgt := 36) hx hb dX8_filed_30 (by decide) (fun c5 => ?_) (fun c5 => ?_)
    · skip
      refine lv_iload_n hx hb dX8_filed_36 rfl (lv_at hl 4 rfl) ?_
      refine lv_if_eq (tgt := 50) hx hb dX8_filed_37 (by decide) (fun c6 => ?_) (fun c6 => ?_)
      · skip
        refine lv_aload_n hx hb dX8_filed_50 rfl (lv_at hl 1 rfl) ?_
        refine va_get (D := D) (ci := 8) (v := .ref g16) (C := RX8) (T := TX8) (N := 46) hx hb hts hiX8 hown hE.1 hP 0 rfl rfl 16 (by decide) (hts _ (List.mem_cons_of_mem _ wd_128)) (fun _ h9 => h9) rfl dX8_filed_51 ?_
        refine lv_iload hx hb dX8_filed_54 (lv_at hl 0 rfl) ?_
        refine va_iald hx hb hE.1 hP 1 0 rfl rfl (vi_32m hc3) dX8_filed_56 ?_
        refine lv_iconst (v := 1) hx hb dX8_filed_57 (by decide) ?_
        refine lv_isub hx hb dX8_filed_58 ?_
        refine k_iret (u := [(oX8 g 0 (nI mn) g2 g3 g4 g5 g6 g7 g8 g9 g10 (nI ml) g12 g13 gi14 g15 g16 g17 gi18 g19 g20 g21 g22 g23 g24 g25 g26 g27 g28 gi29 gi30 (nI mv) gi32 g33 g34 g35 g36 g37 g38 g39 gi40 g41 g42 gi43 g44 g45), (aIc cI g16 32 G16), (aIc cI g17 32 G17)]) hx hb hr hlk hP hD hS dX8_filed_59 ?_
        exact Or.inr (Or.inr (Or.inr ⟨⟨hc3, c5, c6⟩, rfl, rfl⟩))
      · skip
        refine lv_aload_n hx hb dX8_filed_40 rfl (lv_at hl 1 rfl) ?_
        refine va_get (D := D) (ci := 8) (v := .ref g17) (C := RX8) (T := TX8) (N := 46) hx hb hts hiX8 hown hE.1 hP 0 rfl rfl 17 (by decide) (hts _ (List.mem_cons_of_mem _ wd_129)) (fun _ h9 => h9) rfl dX8_filed_41 ?_
        refine lv_iload hx hb dX8_filed_44 (lv_at hl 0 rfl) ?_
        refine va_iald hx hb hE.1 hP 2 0 rfl rfl (vi_32m hc3) dX8_filed_46 ?_
        refine lv_goto (tgt := 59) hx hb dX8_filed_47 (by decide) ?_
        refine k_iret (u := [(oX8 g 0 (nI mn) g2 g3 g4 g5 g6 g7 g8 g9 g10 (nI ml) g12 g13 gi14 g15 g16 g17 gi18 g19 g20 g21 g22 g23 g24 g25 g26 g27 g28 gi29 gi30 (nI mv) gi32 g33 g34 g35 g36 g37 g38 g39 gi40 g41 g42 gi43 g44 g45), (aIc cI g16 32 G16), (aIc cI g17 32 G17)]) hx hb hr hlk hP hD hS dX8_filed_59 ?_
        exact Or.inr (Or.inr (Or.inl ⟨⟨hc3, c5, c6⟩, rfl, rfl⟩))
    · skip
      refine lv_bipush (v := (-2)) hx hb dX8_filed_33 (by decide) ?_
      refine k_iret (u := [(oX8 g 0 (nI mn) g2 g3 g4 g5 g6 g7 g8 g9 g10 (nI ml) g12 g13 gi14 g15 g16 g17 gi18 g19 g20 g21 g22 g23 g24 g25 g26 g27 g28 gi29 gi30 (nI mv) gi32 g33 g34 g35 g36 g37 g38 g39 gi40 g41 g42 gi43 g44 g45), (aIc cI g16 32 G16), (aIc cI g17 32 G17)]) hx hb hr hlk hP hD hS dX8_filed_35 ?_
      exact Or.inr (Or.inl ⟨⟨hc3, c5⟩, rfl, rfl⟩)
  · skip
    have hc3 : ¬ ((0 ≤ p0 ∧ p0 ≤ 3) ∧ 0 ≤ p1 ∧ p1 ≤ 7) := bz_0 hw2 c3
    refine lv_iconst (v := (-1)) hx hb dX8_filed_13 (by decide) ?_
    refine k_iret (u := [(oX8 g 0 (nI mn) g2 g3 g4 g5 g6 g7 g8 g9 g10 (nI ml) g12 g13 gi14 g15 g16 g17 gi18 g19 g20 g21 g22 g23 g24 g25 g26 g27 g28 gi29 gi30 (nI mv) gi32 g33 g34 g35 g36 g37 g38 g39 gi40 g41 g42 gi43 g44 g45), (aIc cI g16 32 G16), (aIc cI g17 32 G17)]) hx hb hr hlk hP hD hS dX8_filed_14 ?_
    exact Or.inl ⟨hc3, rfl, rfl⟩

