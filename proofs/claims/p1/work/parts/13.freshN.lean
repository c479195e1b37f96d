theorem dX8_policy_0 : decode cX8_policy 0 = .ok (.aload_n 0, 1) := by decide +kernel
theorem dX8_policy_1 : decode cX8_policy 1 = .ok (.iconst 0, 1) := by decide +kernel
theorem dX8_policy_2 : decode cX8_policy 2 = .ok (.putfield 116, 3) := by decide +kernel
theorem dX8_policy_5 : decode cX8_policy 5 = .ok (.iload_n 1, 1) := by decide +kernel
theorem dX8_policy_6 : decode cX8_policy 6 = .ok (.i2l, 1) := by decide +kernel
theorem dX8_policy_7 : decode cX8_policy 7 = .ok (.lconst 1, 1) := by decide +kernel
theorem dX8_policy_8 : decode cX8_policy 8 = .ok (.ldc2_w 132, 3) := by decide +kernel
theorem dX8_policy_11 : decode cX8_policy 11 = .ok (.invokestatic 123, 3) := by decide +kernel
theorem dX8_policy_14 : decode cX8_policy 14 = .ok (.ifCond .eq 57, 3) := by decide +kernel
theorem dX8_policy_17 : decode cX8_policy 17 = .ok (.iload_n 2, 1) := by decide +kernel
theorem dX8_policy_18 : decode cX8_policy 18 = .ok (.i2l, 1) := by decide +kernel
theorem dX8_policy_19 : decode cX8_policy 19 = .ok (.lconst 1, 1) := by decide +kernel
theorem dX8_policy_20 : decode cX8_policy 20 = .ok (.ldc2_w 134, 3) := by decide +kernel
theorem dX8_policy_23 : decode cX8_policy 23 = .ok (.invokestatic 123, 3) := by decide +kernel
theorem dX8_policy_26 : decode cX8_policy 26 = .ok (.ifCond .eq 45, 3) := by decide +kernel
theorem dX8_policy_29 : decode cX8_policy 29 = .ok (.iload_n 3, 1) := by decide +kernel
theorem dX8_policy_30 : decode cX8_policy 30 = .ok (.i2l, 1) := by decide +kernel
theorem dX8_policy_31 : decode cX8_policy 31 = .ok (.lconst 0, 1) := by decide +kernel
theorem dX8_policy_32 : decode cX8_policy 32 = .ok (.ldc2_w 136, 3) := by decide +kernel
theorem dX8_policy_35 : decode cX8_policy 35 = .ok (.invokestatic 123, 3) := by decide +kernel
theorem dX8_policy_38 : decode cX8_policy 38 = .ok (.ifCond .eq 33, 3) := by decide +kernel
theorem dX8_policy_41 : decode cX8_policy 41 = .ok (.iload 4, 2) := by decide +kernel
theorem dX8_policy_43 : decode cX8_policy 43 = .ok (.i2l, 1) := by decide +kernel
theorem dX8_policy_44 : decode cX8_policy 44 = .ok (.lconst 0, 1) := by decide +kernel
theorem dX8_policy_45 : decode cX8_policy 45 = .ok (.ldc2_w 134, 3) := by decide +kernel
theorem dX8_policy_48 : decode cX8_policy 48 = .ok (.invokestatic 123, 3) := by decide +kernel
theorem dX8_policy_51 : decode cX8_policy 51 = .ok (.ifCond .eq 20, 3) := by decide +kernel
theorem dX8_policy_54 : decode cX8_policy 54 = .ok (.iload 5, 2) := by decide +kernel
theorem dX8_policy_56 : decode cX8_policy 56 = .ok (.i2l, 1) := by decide +kernel
theorem dX8_policy_57 : decode cX8_policy 57 = .ok (.lconst 1, 1) := by decide +kernel
theorem dX8_policy_58 : decode cX8_policy 58 = .ok (.ldc2_w 138, 3) := by decide +kernel
theorem dX8_policy_61 : decode cX8_policy 61 = .ok (.invokestatic 123, 3) := by decide +kernel
theorem dX8_policy_64 : decode cX8_policy 64 = .ok (.ifCond .eq 7, 3) := by decide +kernel
theorem dX8_policy_67 : decode cX8_policy 67 = .ok (.iconst 1, 1) := by decide +kernel
theorem dX8_policy_68 : decode cX8_policy 68 = .ok (.goto 4, 3) := by decide +kernel
theorem dX8_policy_71 : decode cX8_policy 71 = .ok (.iconst 0, 1) := by decide +kernel
theorem dX8_policy_72 : decode cX8_policy 72 = .ok (.istore 6, 2) := by decide +kernel
theorem dX8_policy_74 : decode cX8_policy 74 = .ok (.iload 6, 2) := by decide +kernel
theorem dX8_policy_76 : decode cX8_policy 76 = .ok (.ifCond .eq 12, 3) := by decide +kernel
theorem dX8_policy_79 : decode cX8_policy 79 = .ok (.aload_n 0, 1) := by decide +kernel
theorem dX8_policy_80 : decode cX8_policy 80 = .ok (.getfield 120, 3) := by decide +kernel
theorem dX8_policy_83 : decode cX8_policy 83 = .ok (.bipush 8, 2) := by decide +kernel
theorem dX8_policy_85 : decode cX8_policy 85 = .ok (.if_icmp .ne 5, 3) := by decide +kernel
theorem dX8_policy_88 : decode cX8_policy 88 = .ok (.iconst (-1), 1) := by decide +kernel
theorem dX8_policy_89 : decode cX8_policy 89 = .ok (.ireturn, 1) := by decide +kernel
theorem dX8_policy_90 : decode cX8_policy 90 = .ok (.aload_n 0, 1) := by decide +kernel
theorem dX8_policy_91 : decode cX8_policy 91 = .ok (.getfield 7, 3) := by decide +kernel
theorem dX8_policy_94 : decode cX8_policy 94 = .ok (.aload_n 0, 1) := by decide +kernel
theorem dX8_policy_95 : decode cX8_policy 95 = .ok (.getfield 120, 3) := by decide +kernel
theorem dX8_policy_98 : decode cX8_policy 98 = .ok (.iload_n 1, 1) := by decide +kernel
theorem dX8_policy_99 : decode cX8_policy 99 = .ok (.iastore, 1) := by decide +kernel
theorem dX8_policy_100 : decode cX8_policy 100 = .ok (.aload_n 0, 1) := by decide +kernel
theorem dX8_policy_101 : decode cX8_policy 101 = .ok (.getfield 13, 3) := by decide +kernel
theorem dX8_policy_104 : decode cX8_policy 104 = .ok (.aload_n 0, 1) := by decide +kernel
theorem dX8_policy_105 : decode cX8_policy 105 = .ok (.getfield 120, 3) := by decide +kernel
theorem dX8_policy_108 : decode cX8_policy 108 = .ok (.iload_n 2, 1) := by decide +kernel
theorem dX8_policy_109 : decode cX8_policy 109 = .ok (.iastore, 1) := by decide +kernel
theorem dX8_policy_110 : decode cX8_policy 110 = .ok (.aload_n 0, 1) := by decide +kernel
theorem dX8_policy_111 : decode cX8_policy 111 = .ok (.getfield 16, 3) := by decide +kernel
theorem dX8_policy_114 : decode cX8_policy 114 = .ok (.aload_n 0, 1) := by decide +kernel
theorem dX8_policy_115 : decode cX8_policy 115 = .ok (.getfield 120, 3) := by decide +kernel
theorem dX8_policy_118 : decode cX8_policy 118 = .ok (.iload_n 3, 1) := by decide +kernel
theorem dX8_policy_119 : decode cX8_policy 119 = .ok (.iastore, 1) := by decide +kernel
theorem dX8_policy_120 : decode cX8_policy 120 = .ok (.aload_n 0, 1) := by decide +kernel
theorem dX8_policy_121 : decode cX8_policy 121 = .ok (.getfield 19, 3) := by decide +kernel
theorem dX8_policy_124 : decode cX8_policy 124 = .ok (.aload_n 0, 1) := by decide +kernel
theorem dX8_policy_125 : decode cX8_policy 125 = .ok (.getfield 120, 3) := by decide +kernel
theorem dX8_policy_128 : decode cX8_policy 128 = .ok (.iload 4, 2) := by decide +kernel
theorem dX8_policy_130 : decode cX8_policy 130 = .ok (.iastore, 1) := by decide +kernel
theorem dX8_policy_131 : decode cX8_policy 131 = .ok (.aload_n 0, 1) := by decide +kernel
theorem dX8_policy_132 : decode cX8_policy 132 = .ok (.getfield 22, 3) := by decide +kernel
theorem dX8_policy_135 : decode cX8_policy 135 = .ok (.aload_n 0, 1) := by decide +kernel
theorem dX8_policy_136 : decode cX8_policy 136 = .ok (.getfield 120, 3) := by decide +kernel
theorem dX8_policy_139 : decode cX8_policy 139 = .ok (.iload 5, 2) := by decide +kernel
theorem dX8_policy_141 : decode cX8_policy 141 = .ok (.iastore, 1) := by decide +kernel
theorem dX8_policy_142 : decode cX8_policy 142 = .ok (.aload_n 0, 1) := by decide +kernel
theorem dX8_policy_143 : decode cX8_policy 143 = .ok (.dup, 1) := by decide +kernel
theorem dX8_policy_144 : decode cX8_policy 144 = .ok (.getfield 120, 3) := by decide +kernel
theorem dX8_policy_147 : decode cX8_policy 147 = .ok (.iconst 1, 1) := by decide +kernel
theorem dX8_policy_148 : decode cX8_policy 148 = .ok (.iadd, 1) := by decide +kernel
theorem dX8_policy_149 : decode cX8_policy 149 = .ok (.putfield 120, 3) := by decide +kernel
theorem dX8_policy_152 : decode cX8_policy 152 = .ok (.aload_n 0, 1) := by decide +kernel
theorem dX8_policy_153 : decode cX8_policy 153 = .ok (.getfield 120, 3) := by decide +kernel
theorem dX8_policy_156 : decode cX8_policy 156 = .ok (.iconst 1, 1) := by decide +kernel
theorem dX8_policy_157 : decode cX8_policy 157 = .ok (.isub, 1) := by decide +kernel
theorem dX8_policy_158 : decode cX8_policy 158 = .ok (.ireturn, 1) := by decide +kernel
set_option maxRecDepth 20000 in
theorem ggX8_policy_X8_in : GoodIn wsX8_policy wsX8_in := goodIn_r _ [15] (by decide +kernel) (by decide +kernel)
set_option maxRecDepth 20000 in
theorem gX8_policy_X8_in : GoodIn wsX8_policy (va_wsS RX8 123 yX8_in wsX8_in) := goodIn_app (goodIn_of _ (by decide +kernel)) ggX8_policy_X8_in
set_option maxHeartbeats 4000000 in
set_option maxRecDepth 100000 in
theorem f_X8_policy (l : Launch) (D : va_G) (cI cJ : ClassId) (sz : Nat) (g g2 g3 g4 g5 g6 g7 g8 g9 g10 g12 g13 g15 g16 g17 g19 g20 g21 g22 g23 g24 g25 g26 g27 g28 g33 g34 g35 g36 g37 g38 g39 g41 g42 g44 g45 : Nat) (p0 p1 p2 p3 p4 : Int32) : Met l yX8_policy wsX8_policy { frames := 1, cells := 0, slots := 0, locals := 25 } (cPc D cI cJ [.ref g, .int p0, .int p1, .int p2, .int p3, .int p4] sz [(g, .inr (8, [.int 0, .int 0, .ref g2, .ref g3, .ref g4, .ref g5, .ref g6, .ref g7, .ref g8, .ref g9, .ref g10, .int 0, .ref g12, .ref g13, .int 0, .ref g15, .ref g16, .ref g17, .int 0, .ref g19, .ref g20, .ref g21, .ref g22, .ref g23, .ref g24, .ref g25, .ref g26, .ref g27, .ref g28, .int 0, .int 0, .int 0, .int 0, .ref g33, .ref g34, .ref g35, .ref g36, .ref g37, .ref g38, .ref g39, .int 0, .ref g41, .ref g42, .int 0, .ref g44, .ref g45])), (g2, .inl (cI, 8, .inl (fun _ => 0))), (g3, .inl (cI, 8, .inl (fun _ => 0))), (g4, .inl (cI, 8, .inl (fun _ => 0))), (g5, .inl (cI, 8, .inl (fun _ => 0))), (g6, .inl (cI, 8, .inl (fun _ => 0)))]) (cQi D (fun r u => r = pz ((1 ≤ p0 ∧ p0 ≤ 1000000) ∧ (1 ≤ p1 ∧ p1 ≤ 9000000) ∧ (0 ≤ p2 ∧ p2 ≤ 99999) ∧ (0 ≤ p3 ∧ p3 ≤ 9000000) ∧ 1 ≤ p4 ∧ p4 ≤ 255) ∧ u = []) (va_A [(g, .inr (8, [.int 0, .int 0, .ref g2, .ref g3, .ref g4, .ref g5, .ref g6, .ref g7, .ref g8, .ref g9, .ref g10, .int 0, .ref g12, .ref g13, .int 0, .ref g15, .ref g16, .ref g17, .int 0, .ref g19, .ref g20, .ref g21, .ref g22, .ref g23, .ref g24, .ref g25, .ref g26, .ref g27, .ref g28, .int 0, .int 0, .int 0, .int 0, .ref g33, .ref g34, .ref g35, .ref g36, .ref g37, .ref g38, .ref g39, .int 0, .ref g41, .ref g42, .int 0, .ref g44, .ref g45])), (g2, .inl (cI, 8, .inl (fun _ => 0))), (g3, .inl (cI, 8, .inl (fun _ => 0))), (g4, .inl (cI, 8, .inl (fun _ => 0))), (g5, .inl (cI, 8, .inl (fun _ => 0))), (g6, .inl (cI, 8, .inl (fun _ => 0)))] sz)) 0 0 (va_A [(g, .inr (8, [.int 0, .int 0, .ref g2, .ref g3, .ref g4, .ref g5, .ref g6, .ref g7, .ref g8, .ref g9, .ref g10, .int 0, .ref g12, .ref g13, .int 0, .ref g15, .ref g16, .ref g17, .int 0, .ref g19, .ref g20, .ref g21, .ref g22, .ref g23, .ref g24, .ref g25, .ref g26, .ref g27, .ref g28, .int 0, .int 0, .int 0, .int 0, .ref g33, .ref g34, .ref g35, .ref g36, .ref g37, .ref g38, .ref g39, .int 0, .ref g41, .ref g42, .int 0, .ref g44, .ref g45])), (g2, .inl (cI, 8, .inl (fun _ => 0))), (g3, .inl (cI, 8, .inl (fun _ => 0))), (g4, .inl (cI, 8, .inl (fun _ => 0))), (g5, .inl (cI, 8, .inl (fun _ => 0))), (g6, .inl (cI, 8, .inl (fun _ => 0)))] sz) := by
  refine k_ofW (Qc := cQi D (fun r u => r = pz ((1 ≤ p0 ∧ p0 ≤ 1000000) ∧ (1 ≤ p1 ∧ p1 ≤ 9000000) ∧ (0 ≤ p2 ∧ p2 ≤ 99999) ∧ (0 ≤ p3 ∧ p3 ≤ 9000000) ∧ 1 ≤ p4 ∧ p4 ≤ 255) ∧ u = [])) (by decide) rfl (Nat.le_of_ble_eq_true rfl) ?_
  intro p e s m below meth c A ls hx hb hr hml hts hown hlk hnm hsz hE hP hD hS hA hl
  have hown : s.vm.findClass RX8 = some m.cls := hown
  have hiX8 : ∀ w ∈ u_ws RX8 TX8 46, w ∈ wsX8_policy := fun w h => List.mem_cons_of_mem _ (List.mem_append_right _ h)
  have hl : lv_has ls 7 [(0, .ref g), (1, .int p0), (2, .int p1), (3, .int p2), (4, .int p3), (5, .int p4)] := hl
  refine lv_aload_n hx hb dX8_policy_0 rfl (lv_at hl 0 rfl) ?_
  refine lv_iconst (v := 0) hx hb dX8_policy_1 (by decide) ?_
  refine va_put (D := D) (ci := 8) (v := .int 0) (ty := .int) (C := RX8) (T := TX8) (N := 46) hx hb hts hiX8 tyX8 tyX8_ok nmX8 hown hE.1 hP hD hS 0 rfl rfl 0 (by decide) (hts _ (List.mem_of_getElem? (i := 1) rfl)) (fun _ h9 => h9) rfl (by decide +kernel) rfl rfl (Nat.le_of_ble_eq_true rfl) dX8_policy_2 (fun H locs hP hD hS => ?_)
  have hP : va_P D vwCl [(g, .inr (8, [.int 0, .int 0, .ref g2, .ref g3, .ref g4, .ref g5, .ref g6, .ref g7, .ref g8, .ref g9, .ref g10, .int 0, .ref g12, .ref g13, .int 0, .ref g15, .ref g16, .ref g17, .int 0, .ref g19, .ref g20, .ref g21, .ref g22, .ref g23, .ref g24, .ref g25, .ref g26, .ref g27, .ref g28, .int 0, .int 0, .int 0, .int 0, .ref g33, .ref g34, .ref g35, .ref g36, .ref g37, .ref g38, .ref g39, .int 0, .ref g41, .ref g42, .int 0, .ref g44, .ref g45])), (g2, .inl (cI, 8, .inl (fun _ => 0))), (g3, .inl (cI, 8, .inl (fun _ => 0))), (g4, .inl (cI, 8, .inl (fun _ => 0))), (g5, .inl (cI, 8, .inl (fun _ => 0))), (g6, .inl (cI, 8, .inl (fun _ => 0)))] H := hP
  have hD : va_D A [(g, .inr (8, [.int 0, .int 0, .ref g2, .ref g3, .ref g4, .ref g5, .ref g6, .ref g7, .ref g8, .ref g9, .ref g10, .int 0, .ref g12, .ref g13, .int 0, .ref g15, .ref g16, .ref g17, .int 0, .ref g19, .ref g20, .ref g21, .ref g22, .ref g23, .ref g24, .ref g25, .ref g26, .ref g27, .ref g28, .int 0, .int 0, .int 0, .int 0, .ref g33, .ref g34, .ref g35, .ref g36, .ref g37, .ref g38, .ref g39, .int 0, .ref g41, .ref g42, .int 0, .ref g44, .ref g45])), (g2, .inl (cI, 8, .inl (fun _ => 0))), (g3, .inl (cI, 8, .inl (fun _ => 0))), (g4, .inl (cI, 8, .inl (fun _ => 0))), (g5, .inl (cI, 8, .inl (fun _ => 0))), (g6, .inl (cI, 8, .inl (fun _ => 0)))] := hD
  refine lv_iload_n hx hb dX8_policy_5 rfl (lv_at hl 1 rfl) ?_
  refine lv_i2l hx hb dX8_policy_6 rfl ?_
  refine lv_lconst (v := 1) hx hb dX8_policy_7 (by decide) ?_
  refine lv_ldc2 (v := 1000000) hx hb hown (hts _ (List.mem_of_getElem? (i := 2) rfl)) dX8_policy_8 ?_
  refine k_i (va_runS (As := [.long (Int32.toInt64 p0), .long 1, .long 1000000]) (rest := []) ⟨hx, hb, hml, hown, hts⟩ (m_X8_in l D cI cJ H.size (Int32.toInt64 p0) 1 1000000) (va_cwS 3 hts gX8_policy_X8_in rfl rfl rfl (by decide +kernel) ⟨Nat.le_of_ble_eq_true rfl, Nat.le_of_ble_eq_true rfl⟩) (k_pre hE hP hD [] (by decide) rfl) rfl rfl hl.1 rfl (lv_room (Nat.le_of_ble_eq_true rfl)) dX8_policy_11 ⟨Nat.le_of_ble_eq_true rfl, Nat.le_of_ble_eq_true rfl⟩) hP hD hS hA [] [0, 1, 2, 3, 4, 5] rfl (wr := [(g, .inr (8, [.int 0, .int 0, .ref g2, .ref g3, .ref g4, .ref g5, .ref g6, .ref g7, .ref g8, .ref g9, .ref g10, .int 0, .ref g12, .ref g13, .int 0, .ref g15, .ref g16, .ref g17, .int 0, .ref g19, .ref g20, .ref g21, .ref g22, .ref g23, .ref g24, .ref g25, .ref g26, .ref g27, .ref g28, .int 0, .int 0, .int 0, .int 0, .ref g33, .ref g34, .ref g35, .ref g36, .ref g37, .ref g38, .ref g39, .int 0, .ref g41, .ref g42, .int 0, .ref g44, .ref g45])), (g2, .inl (cI, 8, .inl (fun _ => 0))), (g3, .inl (cI, 8, .inl (fun _ => 0))), (g4, .inl (cI, 8, .inl (fun _ => 0))), (g5, .inl (cI, 8, .inl (fun _ => 0))), (g6, .inl (cI, 8, .inl (fun _ => 0)))]) rfl (by decide) (by decide) (fun r1 u H locs hw2 hP hD hS => ?_)
  obtain ⟨hw2, rfl⟩ := hw2
  have hw3 : r1 = bz (1 ≤ p0 ∧ p0 ≤ 1000000) := by rw [hw2]; exact bz_c (w3 (lo := 1) (hi := 1000000) (by decide) (by decide))
  have hP : va_P D vwCl [(g, .inr (8, [.int 0, .int 0, .ref g2, .ref g3, .ref g4, .ref g5, .ref g6, .ref g7, .ref g8, .ref g9, .ref g10, .int 0, .ref g12, .ref g13, .int 0, .ref g15, .ref g16, .ref g17, .int 0, .ref g19, .ref g20, .ref g21, .ref g22, .ref g23, .ref g24, .ref g25, .ref g26, .ref g27, .ref g28, .int 0, .int 0, .int 0, .int 0, .ref g33, .ref g34, .ref g35, .ref g36, .ref g37, .ref g38, .ref g39, .int 0, .ref g41, .ref g42, .int 0, .ref g44, .ref g45])), (g2, .inl (cI, 8, .inl (fun _ => 0))), (g3, .inl (cI, 8, .inl (fun _ => 0))), (g4, .inl (cI, 8, .inl (fun _ => 0))), (g5, .inl (cI, 8, .inl (fun _ => 0))), (g6, .inl (cI, 8, .inl (fun _ => 0)))] H := hP
  have hD : va_D A [(g, .inr (8, [.int 0, .int 0, .ref g2, .ref g3, .ref g4, .ref g5, .ref g6, .ref g7, .ref g8, .ref g9, .ref g10, .int 0, .ref g12, .ref g13, .int 0, .ref g15, .ref g16, .ref g17, .int 0, .ref g19, .ref g20, .ref g21, .ref g22, .ref g23, .ref g24, .ref g25, .ref g26, .ref g27, .ref g28, .int 0, .int 0, .int 0, .int 0, .ref g33, .ref g34, .ref g35, .ref g36, .ref g37, .ref g38, .ref g39, .int 0, .ref g41, .ref g42, .int 0, .ref g44, .ref g45])), (g2, .inl (cI, 8, .inl (fun _ => 0))), (g3, .inl (cI, 8, .inl (fun _ => 0))), (g4, .inl (cI, 8, .inl (fun _ => 0))), (g5, .inl (cI, 8, .inl (fun _ => 0))), (g6, .inl (cI, 8, .inl (fun _ => 0)))] := hD
  refine lv_if_eq (tgt := 71) hx hb dX8_policy_14 (by decide) (fun c4 => ?_) (fun c4 => ?_)
  · skip
    have hc4 : ¬ (1 ≤ p0 ∧ p0 ≤ 1000000) := bz_0 hw3 c4
    refine lv_iconst (v := 0) hx hb dX8_policy_71 (by decide) ?_
    refine lv_istore (lv' := [(6, .int 0), (0, .ref g), (1, .int p0), (2, .int p1), (3, .int p2), (4, .int p3), (5, .int p4)]) hx hb dX8_policy_72 hl (by decide) rfl (fun ls hl => ?_)
    refine lv_iload hx hb dX8_policy_74 (lv_at hl 0 rfl) ?_
    refine lv_if_eq (tgt := 88) hx hb dX8_policy_76 (by decide) (fun _ => ?_) (fun c5 => absurd (by decide) c5)
    refine lv_iconst (v := (-1)) hx hb dX8_policy_88 (by decide) ?_
    refine k_iret (u := []) hx hb hr hlk (k_sub hP [] rfl) (hD.sub [] (by decide) rfl) hS dX8_policy_89 ?_
    exact ⟨pz_f (fun q => hc4 q.1), rfl⟩
  · skip
    have hc4 : 1 ≤ p0 ∧ p0 ≤ 1000000 := bz_1 hw3 c4
    refine lv_iload_n hx hb dX8_policy_17 rfl (lv_at hl 2 rfl) ?_
    refine lv_i2l hx hb dX8_policy_18 rfl ?_
    refine lv_lconst (v := 1) hx hb dX8_policy_19 (by decide) ?_
    refine lv_ldc2 (v := 9000000) hx hb hown (hts _ (List.mem_of_getElem? (i := 3) rfl)) dX8_policy_20 ?_
    refine k_i (va_runS (As := [.long (Int32.toInt64 p1), .long 1, .long 9000000]) (rest := []) ⟨hx, hb, hml, hown, hts⟩ (m_X8_in l D cI cJ H.size (Int32.toInt64 p1) 1 9000000) (va_cwS 3 hts gX8_policy_X8_in rfl rfl rfl (by decide +kernel) ⟨Nat.le_of_ble_eq_true rfl, Nat.le_of_ble_eq_true rfl⟩) (k_pre hE hP hD [] (by decide) rfl) rfl rfl hl.1 rfl (lv_room (Nat.le_of_ble_eq_true rfl)) dX8_policy_23 ⟨Nat.le_of_ble_eq_true rfl, Nat.le_of_ble_eq_true rfl⟩) hP hD hS hA [] [0, 1, 2, 3, 4, 5] rfl (wr := [(g, .inr (8, [.int 0, .int 0, .ref g2, .ref g3, .ref g4, .ref g5, .ref g6, .ref g7, .ref g8, .ref g9, .ref g10, .int 0, .ref g12, .ref g13, .int 0, .ref g15, .ref g16, .ref g17, .int 0, .ref g19, .ref g20, .ref g21, .ref g22, .ref g23, .ref g24, .ref g25, .ref g26, .ref g27, .ref g28, .int 0, .int 0, .int 0, .int 0, .ref g33, .ref g34, .ref g35, .ref g36, .ref g37, .ref g38, .ref g39, .int 0, .ref g41, .ref g42, .int 0, .ref g44, .ref g45])), (g2, .inl (cI, 8, .inl (fun _ => 0))), (g3, .inl (cI, 8, .inl (fun _ => 0))), (g4, .inl (cI, 8, .inl (fun _ => 0))), (g5, .inl (cI, 8, .inl (fun _ => 0))), (g6, .inl (cI, 8, .inl (fun _ => 0)))]) rfl (by decide) (by decide) (fun r6 u H locs hw7 hP hD hS => ?_)
    obtain ⟨hw7, rfl⟩ := hw7
    have hw8 : r6 = bz (1 ≤ p1 ∧ p1 ≤ 9000000) := by rw [hw7]; exact bz_c (w3 (lo := 1) (hi := 9000000) (by decide) (by decide))
    have hP : va_P D vwCl [(g, .inr (8, [.int 0, .int 0, .ref g2, .ref g3, .ref g4, .ref g5, .ref g6, .ref g7, .ref g8, .ref g9, .ref g10, .int 0, .ref g12, .ref g13, .int 0, .ref g15, .ref g16, .ref g17, .int 0, .ref g19, .ref g20, .ref g21, .ref g22, .ref g23, .ref g24, .ref g25, .ref g26, .ref g27, .ref g28, .int 0, .int 0, .int 0, .int 0, .ref g33, .ref g34, .ref g35, .ref g36, .ref g37, .ref g38, .ref g39, .int 0, .ref g41, .ref g42, .int 0, .ref g44, .ref g45])), (g2, .inl (cI, 8, .inl (fun _ => 0))), (g3, .inl (cI, 8, .inl (fun _ => 0))), (g4, .inl (cI, 8, .inl (fun _ => 0))), (g5, .inl (cI, 8, .inl (fun _ => 0))), (g6, .inl (cI, 8, .inl (fun _ => 0)))] H := hP
    have hD : va_D A [(g, .inr (8, [.int 0, .int 0, .ref g2, .ref g3, .ref g4, .ref g5, .ref g6, .ref g7, .ref g8, .ref g9, .ref g10, .int 0, .ref g12, .ref g13, .int 0, .ref g15, .ref g16, .ref g17, .int 0, .ref g19, .ref g20, .ref g21, .ref g22, .ref g23, .ref g24, .ref g25, .ref g26, .ref g27, .ref g28, .int 0, .int 0, .int 0, .int 0, .ref g33, .ref g34, .ref g35, .ref g36, .ref g37, .ref g38, .ref g39, .int 0, .ref g41, .ref g42, .int 0, .ref g44, .ref g45])), (g2, .inl (cI, 8, .inl (fun _ => 0))), (g3, .inl (cI, 8, .inl (fun _ => 0))), (g4, .inl (cI, 8, .inl (fun _ => 0))), (g5, .inl (cI, 8, .inl (fun _ => 0))), (g6, .inl (cI, 8, .inl (fun _ => 0)))] := hD
    refine lv_if_eq (tgt := 71) hx hb dX8_policy_26 (by decide) (fun c9 => ?_) (fun c9 => ?_)
    · skip
      have hc9 : ¬ (1 ≤ p1 ∧ p1 ≤ 9000000) := bz_0 hw8 c9
      refine lv_iconst (v := 0) hx hb dX8_policy_71 (by decide) ?_
      refine lv_istore (lv' := [(6, .int 0), (0, .ref g), (1, .int p0), (2, .int p1), (3, .int p2), (4, .int p3), (5, .int p4)]) hx hb dX8_policy_72 hl (by decide) rfl (fun ls hl => ?_)
      refine lv_iload hx hb dX8_policy_74 (lv_at hl 0 rfl) ?_
      refine lv_if_eq (tgt := 88) hx hb dX8_policy_76 (by decide) (fun _ => ?_) (fun c10 => absurd (by decide) c10)
      refine lv_iconst (v := (-1)) hx hb dX8_policy_88 (by decide) ?_
      refine k_iret (u := []) hx hb hr hlk (k_sub hP [] rfl) (hD.sub [] (by decide) rfl) hS dX8_policy_89 ?_
      exact ⟨pz_f (fun q => hc9 q.2.1), rfl⟩
    · skip
      have hc9 : 1 ≤ p1 ∧ p1 ≤ 9000000 := bz_1 hw8 c9
      refine lv_iload_n hx hb dX8_policy_29 rfl (lv_at hl 3 rfl) ?_
      refine lv_i2l hx hb dX8_policy_30 rfl ?_
      refine lv_lconst (v := 0) hx hb dX8_policy_31 (by decide) ?_
      refine lv_ldc2 (v := 99999) hx hb hown (hts _ (List.mem_of_getElem? (i := 4) rfl)) dX8_policy_32 ?_
      refine k_i (va_runS (As := [.long (Int32.toInt64 p2), .long 0, .long 99999]) (rest := []) ⟨hx, hb, hml, hown, hts⟩ (m_X8_in l D cI cJ H.size (Int32.toInt64 p2) 0 99999) (va_cwS 3 hts gX8_policy_X8_in rfl rfl rfl (by decide +kernel) ⟨Nat.le_of_ble_eq_true rfl, Nat.le_of_ble_eq_true rfl⟩) (k_pre hE hP hD [] (by decide) rfl) rfl rfl hl.1 rfl (lv_room (Nat.le_of_ble_eq_true rfl)) dX8_policy_35 ⟨Nat.le_of_ble_eq_true rfl, Nat.le_of_ble_eq_true rfl⟩) hP hD hS hA [] [0, 1, 2, 3, 4, 5] rfl (wr := [(g, .inr (8, [.int 0, .int 0, .ref g2, .ref g3, .ref g4, .ref g5, .ref g6, .ref g7, .ref g8, .ref g9, .ref g10, .int 0, .ref g12, .ref g13, .int 0, .ref g15, .ref g16, .ref g17, .int 0, .ref g19, .ref g20, .ref g21, .ref g22, .ref g23, .ref g24, .ref g25, .ref g26, .ref g27, .ref g28, .int 0, .int 0, .int 0, .int 0, .ref g33, .ref g34, .ref g35, .ref g36, .ref g37, .ref g38, .ref g39, .int 0, .ref g41, .ref g42, .int 0, .ref g44, .ref g45])), (g2, .inl (cI, 8, .inl (fun _ => 0))), (g3, .inl (cI, 8, .inl (fun _ => 0))), (g4, .inl (cI, 8, .inl (fun _ => 0))), (g5, .inl (cI, 8, .inl (fun _ => 0))), (g6, .inl (cI, 8, .inl (fun _ => 0)))]) rfl (by decide) (by decide) (fun r11 u H locs hw12 hP hD hS => ?_)
      obtain ⟨hw12, rfl⟩ := hw12
      have hw13 : r11 = bz (0 ≤ p2 ∧ p2 ≤ 99999) := by rw [hw12]; exact bz_c (w3 (lo := 0) (hi := 99999) (by decide) (by decide))
      have hP : va_P D vwCl [(g, .inr (8, [.int 0, .int 0, .ref g2, .ref g3, .ref g4, .ref g5, .ref g6, .ref g7, .ref g8, .ref g9, .ref g10, .int 0, .ref g12, .ref g13, .int 0, .ref g15, .ref g16, .ref g17, .int 0, .ref g19, .ref g20, .ref g21, .ref g22, .ref g23, .ref g24, .ref g25, .ref g26, .ref g27, .ref g28, .int 0, .int 0, .int 0, .int 0, .ref g33, .ref g34, .ref g35, .ref g36, .ref g37, .ref g38, .ref g39, .int 0, .ref g41, .ref g42, .int 0, .ref g44, .ref g45])), (g2, .inl (cI, 8, .inl (fun _ => 0))), (g3, .inl (cI, 8, .inl (fun _ => 0))), (g4, .inl (cI, 8, .inl (fun _ => 0))), (g5, .inl (cI, 8, .inl (fun _ => 0))), (g6, .inl (cI, 8, .inl (fun _ => 0)))] H := hP
      have hD : va_D A [(g, .inr (8, [.int 0, .int 0, .ref g2, .ref g3, .ref g4, .ref g5, .ref g6, .ref g7, .ref g8, .ref g9, .ref g10, .int 0, .ref g12, .ref g13, .int 0, .ref g15, .ref g16, .ref g17, .int 0, .ref g19, .ref g20, .ref g21, .ref g22, .ref g23, .ref g24, .ref g25, .ref g26, .ref g27, .ref g28, .int 0, .int 0, .int 0, .int 0, .ref g33, .ref g34, .ref g35, .ref g36, .ref g37, .ref g38, .ref g39, .int 0, .ref g41, .ref g42, .int 0, .ref g44, .ref g45])), (g2, .inl (cI, 8, .inl (fun _ => 0))), (g3, .inl (cI, 8, .inl (fun _ => 0))), (g4, .inl (cI, 8, .inl (fun _ => 0))), (g5, .inl (cI, 8, .inl (fun _ => 0))), (g6, .inl (cI, 8, .inl (fun _ => 0)))] := hD
      refine lv_if_eq (tgt := 71) hx hb dX8_policy_38 (by decide) (fun c14 => ?_) (fun c14 => ?_)
      · skip
        have hc14 : ¬ (0 ≤ p2 ∧ p2 ≤ 99999) := bz_0 hw13 c14
        refine lv_iconst (v := 0) hx hb dX8_policy_71 (by decide) ?_
        refine lv_istore (lv' := [(6, .int 0), (0, .ref g), (1, .int p0), (2, .int p1), (3, .int p2), (4, .int p3), (5, .int p4)]) hx hb dX8_policy_72 hl (by decide) rfl (fun ls hl => ?_)
        refine lv_iload hx hb dX8_policy_74 (lv_at hl 0 rfl) ?_
        refine lv_if_eq (tgt := 88) hx hb dX8_policy_76 (by decide) (fun _ => ?_) (fun c15 => absurd (by decide) c15)
        refine lv_iconst (v := (-1)) hx hb dX8_policy_88 (by decide) ?_
        refine k_iret (u := []) hx hb hr hlk (k_sub hP [] rfl) (hD.sub [] (by decide) rfl) hS dX8_policy_89 ?_
        exact ⟨pz_f (fun q => hc14 q.2.2.1), rfl⟩
      · skip
        have hc14 : 0 ≤ p2 ∧ p2 ≤ 99999 := bz_1 hw13 c14
        refine lv_iload hx hb dX8_policy_41 (lv_at hl 4 rfl) ?_
        refine lv_i2l hx hb dX8_policy_43 rfl ?_
        refine lv_lconst (v := 0) hx hb dX8_policy_44 (by decide) ?_
        refine lv_ldc2 (v := 9000000) hx hb hown (hts _ (List.mem_of_getElem? (i := 3) rfl)) dX8_policy_45 ?_
        refine k_i (va_runS (As := [.long (Int32.toInt64 p3), .long 0, .long 9000000]) (rest := []) ⟨hx, hb, hml, hown, hts⟩ (m_X8_in l D cI cJ H.size (Int32.toInt64 p3) 0 9000000) (va_cwS 3 hts gX8_policy_X8_in rfl rfl rfl (by decide +kernel) ⟨Nat.le_of_ble_eq_true rfl, Nat.le_of_ble_eq_true rfl⟩) (k_pre hE hP hD [] (by decide) rfl) rfl rfl hl.1 rfl (lv_room (Nat.le_of_ble_eq_true rfl)) dX8_policy_48 ⟨Nat.le_of_ble_eq_true rfl, Nat.le_of_ble_eq_true rfl⟩) hP hD hS hA [] [0, 1, 2, 3, 4, 5] rfl (wr := [(g, .inr (8, [.int 0, .int 0, .ref g2, .ref g3, .ref g4, .ref g5, .ref g6, .ref g7, .ref g8, .ref g9, .ref g10, .int 0, .ref g12, .ref g13, .int 0, .ref g15, .ref g16, .ref g17, .int 0, .ref g19, .ref g20, .ref g21, .ref g22, .ref g23, .ref g24, .ref g25, .ref g26, .ref g27, .ref g28, .int 0, .int 0, .int 0, .int 0, .ref g33, .ref g34, .ref g35, .ref g36, .ref g37, .ref g38, .ref g39, .int 0, .ref g41, .ref g42, .int 0, .ref g44, .ref g45])), (g2, .inl (cI, 8, .inl (fun _ => 0))), (g3, .inl (cI, 8, .inl (fun _ => 0))), (g4, .inl (cI, 8, .inl (fun _ => 0))), (g5, .inl (cI, 8, .inl (fun _ => 0))), (g6, .inl (cI, 8, .inl (fun _ => 0)))]) rfl (by decide) (by decide) (fun r16 u H locs hw17 hP hD hS => ?_)
        obtain ⟨hw17, rfl⟩ := hw17
        have hw18 : r16 = bz (0 ≤ p3 ∧ p3 ≤ 9000000) := by rw [hw17]; exact bz_c (w3 (lo := 0) (hi := 9000000) (by decide) (by decide))
        have hP : va_P D vwCl [(g, .inr (8, [.int 0, .int 0, .ref g2, .ref g3, .ref g4, .ref g5, .ref g6, .ref g7, .ref g8, .ref g9, .ref g10, .int 0, .ref g12, .ref g13, .int 0, .ref g15, .ref g16, .ref g17, .int 0, .ref g19, .ref g20, .ref g21, .ref g22, .ref g23, .ref g24, .ref g25, .ref g26, .ref g27, .ref g28, .int 0, .int 0, .int 0, .int 0, .ref g33, .ref g34, .ref g35, .ref g36, .ref g37, .ref g38, .ref g39, .int 0, .ref g41, .ref g42, .int 0, .ref g44, .ref g45])), (g2, .inl (cI, 8, .inl (fun _ => 0))), (g3, .inl (cI, 8, .inl (fun _ => 0))), (g4, .inl (cI, 8, .inl (fun _ => 0))), (g5, .inl (cI, 8, .inl (fun _ => 0))), (g6, .inl (cI, 8, .inl (fun _ => 0)))] H := hP
        have hD : va_D A [(g, .inr (8, [.int 0, .int 0, .ref g2, .ref g3, .ref g4, .ref g5, .ref g6, .ref g7, .ref g8, .ref g9, .ref g10, .int 0, .ref g12, .ref g13, .int 0, .ref g15, .ref g16, .ref g17, .int 0, .ref g19, .ref g20, .ref g21, .ref g22, .ref g23, .ref g24, .ref g25, .ref g26, .ref g27, .ref g28, .int 0, .int 0, .int 0, .int 0, .ref g33, .ref g34, .ref g35, .ref g36, .ref g37, .ref g38, .ref g39, .int 0, .ref g41, .ref g42, .int 0, .ref g44, .ref g45])), (g2, .inl (cI, 8, .inl (fun _ => 0))), (g3, .inl (cI, 8, .inl (fun _ => 0))), (g4, .inl (cI, 8, .inl (fun _ => 0))), (g5, .inl (cI, 8, .inl (fun _ => 0))), (g6, .inl (cI, 8, .inl (fun _ => 0)))] := hD
        refine lv_if_eq (tgt := 71) hx hb dX8_policy_51 (by decide) (fun c19 => ?_) (fun c19 => ?_)
        · skip
          have hc19 : ¬ (0 ≤ p3 ∧ p3 ≤ 9000000) := bz_0 hw18 c19
          refine lv_iconst (v := 0) hx hb dX8_policy_71 (by decide) ?_
          refine lv_istore (lv' := [(6, .int 0), (0, .ref g), (1, .int p0), (2, .int p1), (3, .int p2), (4, .int p3), (5, .int p4)]) hx hb dX8_policy_72 hl (by decide) rfl (fun ls hl => ?_)
          refine lv_iload hx hb dX8_policy_74 (lv_at hl 0 rfl) ?_
          refine lv_if_eq (tgt := 88) hx hb dX8_policy_76 (by decide) (fun _ => ?_) (fun c20 => absurd (by decide) c20)
          refine lv_iconst (v := (-1)) hx hb dX8_policy_88 (by decide) ?_
          refine k_iret (u := []) hx hb hr hlk (k_sub hP [] rfl) (hD.sub [] (by decide) rfl) hS dX8_policy_89 ?_
          exact ⟨pz_f (fun q => hc19 q.2.2.2.1), rfl⟩
        · skip
          have hc19 : 0 ≤ p3 ∧ p3 ≤ 9000000 := bz_1 hw18 c19
          refine lv_iload hx hb dX8_policy_54 (lv_at hl 5 rfl) ?_
          refine lv_i2l hx hb dX8_policy_56 rfl ?_
          refine lv_lconst (v := 1) hx hb dX8_policy_57 (by decide) ?_
          refine lv_ldc2 (v := 255) hx hb hown (hts _ (List.mem_of_getElem? (i := 5) rfl)) dX8_policy_58 ?_
          refine k_i (va_runS (As := [.long (Int32.toInt64 p4), .long 1, .long 255]) (rest := []) ⟨hx, hb, hml, hown, hts⟩ (m_X8_in l D cI cJ H.size (Int32.toInt64 p4) 1 255) (va_cwS 3 hts gX8_policy_X8_in rfl rfl rfl (by decide +kernel) ⟨Nat.le_of_ble_eq_true rfl, Nat.le_of_ble_eq_true rfl⟩) (k_pre hE hP hD [] (by decide) rfl) rfl rfl hl.1 rfl (lv_room (Nat.le_of_ble_eq_true rfl)) dX8_policy_61 ⟨Nat.le_of_ble_eq_true rfl, Nat.le_of_ble_eq_true rfl⟩) hP hD hS hA [] [0, 1, 2, 3, 4, 5] rfl (wr := [(g, .inr (8, [.int 0, .int 0, .ref g2, .ref g3, .ref g4, .ref g5, .ref g6, .ref g7, .ref g8, .ref g9, .ref g10, .int 0, .ref g12, .ref g13, .int 0, .ref g15, .ref g16, .ref g17, .int 0, .ref g19, .ref g20, .ref g21, .ref g22, .ref g23, .ref g24, .ref g25, .ref g26, .ref g27, .ref g28, .int 0, .int 0, .int 0, .int 0, .ref g33, .ref g34, .ref g35, .ref g36, .ref g37, .ref g38, .ref g39, .int 0, .ref g41, .ref g42, .int 0, .ref g44, .ref g45])), (g2, .inl (cI, 8, .inl (fun _ => 0))), (g3, .inl (cI, 8, .inl (fun _ => 0))), (g4, .inl (cI, 8, .inl (fun _ => 0))), (g5, .inl (cI, 8, .inl (fun _ => 0))), (g6, .inl (cI, 8, .inl (fun _ => 0)))]) rfl (by decide) (by decide) (fun r21 u H locs hw22 hP hD hS => ?_)
          obtain ⟨hw22, rfl⟩ := hw22
          have hw23 : r21 = bz (1 ≤ p4 ∧ p4 ≤ 255) := by rw [hw22]; exact bz_c (w3 (lo := 1) (hi := 255) (by decide) (by decide))
          have hP : va_P D vwCl [(g, .inr (8, [.int 0, .int 0, .ref g2, .ref g3, .ref g4, .ref g5, .ref g6, .ref g7, .ref g8, .ref g9, .ref g10, .int 0, .ref g12, .ref g13, .int 0, .ref g15, .ref g16, .ref g17, .int 0, .ref g19, .ref g20, .ref g21, .ref g22, .ref g23, .ref g24, .ref g25, .ref g26, .ref g27, .ref g28, .int 0, .int 0, .int 0, .int 0, .ref g33, .ref g34, .ref g35, .ref g36, .ref g37, .ref g38, .ref g39, .int 0, .ref g41, .ref g42, .int 0, .ref g44, .ref g45])), (g2, .inl (cI, 8, .inl (fun _ => 0))), (g3, .inl (cI, 8, .inl (fun _ => 0))), (g4, .inl (cI, 8, .inl (fun _ => 0))), (g5, .inl (cI, 8, .inl (fun _ => 0))), (g6, .inl (cI, 8, .inl (fun _ => 0)))] H := hP
          have hD : va_D A [(g, .inr (8, [.int 0, .int 0, .ref g2, .ref g3, .ref g4, .ref g5, .ref g6, .ref g7, .ref g8, .ref g9, .ref g10, .int 0, .ref g12, .ref g13, .int 0, .ref g15, .ref g16, .ref g17, .int 0, .ref g19, .ref g20, .ref g21, .ref g22, .ref g23, .ref g24, .ref g25, .ref g26, .ref g27, .ref g28, .int 0, .int 0, .int 0, .int 0, .ref g33, .ref g34, .ref g35, .ref g36, .ref g37, .ref g38, .ref g39, .int 0, .ref g41, .ref g42, .int 0, .ref g44, .ref g45])), (g2, .inl (cI, 8, .inl (fun _ => 0))), (g3, .inl (cI, 8, .inl (fun _ => 0))), (g4, .inl (cI, 8, .inl (fun _ => 0))), (g5, .inl (cI, 8, .inl (fun _ => 0))), (g6, .inl (cI, 8, .inl (fun _ => 0)))] := hD
          refine lv_if_eq (tgt := 71) hx hb dX8_policy_64 (by decide) (fun c24 => ?_) (fun c24 => ?_)
          · skip
            have hc24 : ¬ (1 ≤ p4 ∧ p4 ≤ 255) := bz_0 hw23 c24
            refine lv_iconst (v := 0) hx hb dX8_policy_71 (by decide) ?_
            refine lv_istore (lv' := [(6, .int 0), (0, .ref g), (1, .int p0), (2, .int p1), (3, .int p2), (4, .int p3), (5, .int p4)]) hx hb dX8_policy_72 hl (by decide) rfl (fun ls hl => ?_)
            refine lv_iload hx hb dX8_policy_74 (lv_at hl 0 rfl) ?_
            refine lv_if_eq (tgt := 88) hx hb dX8_policy_76 (by decide) (fun _ => ?_) (fun c25 => absurd (by decide) c25)
            refine lv_iconst (v := (-1)) hx hb dX8_policy_88 (by decide) ?_
            refine k_iret (u := []) hx hb hr hlk (k_sub hP [] rfl) (hD.sub [] (by decide) rfl) hS dX8_policy_89 ?_
            exact ⟨pz_f (fun q => hc24 q.2.2.2.2), rfl⟩
          · skip
            have hc24 : 1 ≤ p4 ∧ p4 ≤ 255 := bz_1 hw23 c24
            refine lv_iconst (v := 1) hx hb dX8_policy_67 (by decide) ?_
            refine lv_goto (tgt := 72) hx hb dX8_policy_68 (by decide) ?_
            refine lv_istore (lv' := [(6, .int 1), (0, .ref g), (1, .int p0), (2, .int p1), (3, .int p2), (4, .int p3), (5, .int p4)]) hx hb dX8_policy_72 hl (by decide) rfl (fun ls hl => ?_)
            refine lv_iload hx hb dX8_policy_74 (lv_at hl 0 rfl) ?_
            refine lv_if_eq (tgt := 88) hx hb dX8_policy_76 (by decide) (fun c26 => absurd c26 (by decide)) (fun _ => ?_)
            refine lv_aload_n hx hb dX8_policy_79 rfl (lv_at hl 1 rfl) ?_
            refine va_get (D := D) (ci := 8) (v := .int 0) (C := RX8) (T := TX8) (N := 46) hx hb hts hiX8 hown hE.1 hP 0 rfl rfl 1 (by decide) (hts _ (List.mem_of_getElem? (i := 6) rfl)) (fun _ h9 => h9) rfl dX8_policy_80 ?_
            refine lv_bipush (v := 8) hx hb dX8_policy_83 (by decide) ?_
            refine lv_icmp_ne (tgt := 90) hx hb dX8_policy_85 (by decide) (fun _ => ?_) (fun c27 => absurd c27 (by decide))
            refine lv_aload_n hx hb dX8_policy_90 rfl (lv_at hl 1 rfl) ?_
            refine va_get (D := D) (ci := 8) (v := .ref g2) (C := RX8) (T := TX8) (N := 46) hx hb hts hiX8 hown hE.1 hP 0 rfl rfl 2 (by decide) (hts _ (List.mem_of_getElem? (i := 7) rfl)) (fun _ h9 => h9) rfl dX8_policy_91 ?_
            refine lv_aload_n hx hb dX8_policy_94 rfl (lv_at hl 1 rfl) ?_
            refine va_get (D := D) (ci := 8) (v := .int 0) (C := RX8) (T := TX8) (N := 46) hx hb hts hiX8 hown hE.1 hP 0 rfl rfl 1 (by decide) (hts _ (List.mem_of_getElem? (i := 6) rfl)) (fun _ h9 => h9) rfl dX8_policy_95 ?_
            refine lv_iload_n hx hb dX8_policy_98 rfl (lv_at hl 2 rfl) ?_
            refine va_iast hx hb hE.1 hP hD hS 1 0 rfl rfl (by unfold vp_in; decide) dX8_policy_99 (fun H locs hP hD hS => ?_)
            have hP : va_P D vwCl [(g, .inr (8, [.int 0, .int 0, .ref g2, .ref g3, .ref g4, .ref g5, .ref g6, .ref g7, .ref g8, .ref g9, .ref g10, .int 0, .ref g12, .ref g13, .int 0, .ref g15, .ref g16, .ref g17, .int 0, .ref g19, .ref g20, .ref g21, .ref g22, .ref g23, .ref g24, .ref g25, .ref g26, .ref g27, .ref g28, .int 0, .int 0, .int 0, .int 0, .ref g33, .ref g34, .ref g35, .ref g36, .ref g37, .ref g38, .ref g39, .int 0, .ref g41, .ref g42, .int 0, .ref g44, .ref g45])), (g2, .inl (cI, 8, .inl (upd (fun _ => 0) (Int32.toNatClampNeg 0) p0))), (g3, .inl (cI, 8, .inl (fun _ => 0))), (g4, .inl (cI, 8, .inl (fun _ => 0))), (g5, .inl (cI, 8, .inl (fun _ => 0))), (g6, .inl (cI, 8, .inl (fun _ => 0)))] H := hP
            have hD : va_D A [(g, .inr (8, [.int 0, .int 0, .ref g2, .ref g3, .ref g4, .ref g5, .ref g6, .ref g7, .ref g8, .ref g9, .ref g10, .int 0, .ref g12, .ref g13, .int 0, .ref g15, .ref g16, .ref g17, .int 0, .ref g19, .ref g20, .ref g21, .ref g22, .ref g23, .ref g24, .ref g25, .ref g26, .ref g27, .ref g28, .int 0, .int 0, .int 0, .int 0, .ref g33, .ref g34, .ref g35, .ref g36, .ref g37, .ref g38, .ref g39, .int 0, .ref g41, .ref g42, .int 0, .ref g44, .ref g45])), (g2, .inl (cI, 8, .inl (upd (fun _ => 0) (Int32.toNatClampNeg 0) p0))), (g3, .inl (cI, 8, .inl (fun _ => 0))), (g4, .inl (cI, 8, .inl (fun _ => 0))), (g5, .inl (cI, 8, .inl (fun _ => 0))), (g6, .inl (cI, 8, .inl (fun _ => 0)))] := hD
            refine lv_aload_n hx hb dX8_policy_100 rfl (lv_at hl 1 rfl) ?_
            refine va_get (D := D) (ci := 8) (v := .ref g3) (C := RX8) (T := TX8) (N := 46) hx hb hts hiX8 hown hE.1 hP 0 rfl rfl 3 (by decide) (hts _ (List.mem_of_getElem? (i := 8) rfl)) (fun _ h9 => h9) rfl dX8_policy_101 ?_
            refine lv_aload_n hx hb dX8_policy_104 rfl (lv_at hl 1 rfl) ?_
            refine va_get (D := D) (ci := 8) (v := .int 0) (C := RX8) (T := TX8) (N := 46) hx hb hts hiX8 hown hE.1 hP 0 rfl rfl 1 (by decide) (hts _ (List.mem_of_getElem? (i := 6) rfl)) (fun _ h9 => h9) rfl dX8_policy_105 ?_
            refine lv_iload_n hx hb dX8_policy_108 rfl (lv_at hl 3 rfl) ?_
            refine va_iast hx hb hE.1 hP hD hS 2 0 rfl rfl (by unfold vp_in; decide) dX8_policy_109 (fun H locs hP hD hS => ?_)
            have hP : va_P D vwCl [(g, .inr (8, [.int 0, .int 0, .ref g2, .ref g3, .ref g4, .ref g5, .ref g6, .ref g7, .ref g8, .ref g9, .ref g10, .int 0, .ref g12, .ref g13, .int 0, .ref g15, .ref g16, .ref g17, .int 0, .ref g19, .ref g20, .ref g21, .ref g22, .ref g23, .ref g24, .ref g25, .ref g26, .ref g27, .ref g28, .int 0, .int 0, .int 0, .int 0, .ref g33, .ref g34, .ref g35, .ref g36, .ref g37, .ref g38, .ref g39, .int 0, .ref g41, .ref g42, .int 0, .ref g44, .ref g45])), (g2, .inl (cI, 8, .inl (upd (fun _ => 0) (Int32.toNatClampNeg 0) p0))), (g3, .inl (cI, 8, .inl (upd (fun _ => 0) (Int32.toNatClampNeg 0) p1))), (g4, .inl (cI, 8, .inl (fun _ => 0))), (g5, .inl (cI, 8, .inl (fun _ => 0))), (g6, .inl (cI, 8, .inl (fun _ => 0)))] H := hP
            have hD : va_D A [(g, .inr (8, [.int 0, .int 0, .ref g2, .ref g3, .ref g4, .ref g5, .ref g6, .ref g7, .ref g8, .ref g9, .ref g10, .int 0, .ref g12, .ref g13, .int 0, .ref g15, .ref g16, .ref g17, .int 0, .ref g19, .ref g20, .ref g21, .ref g22, .ref g23, .ref g24, .ref g25, .ref g26, .ref g27, .ref g28, .int 0, .int 0, .int 0, .int 0, .ref g33, .ref g34, .ref g35, .ref g36, .ref g37, .ref g38, .ref g39, .int 0, .ref g41, .ref g42, .int 0, .ref g44, .ref g45])), (g2, .inl (cI, 8, .inl (upd (fun _ => 0) (Int32.toNatClampNeg 0) p0))), (g3, .inl (cI, 8, .inl (upd (fun _ => 0) (Int32.toNatClampNeg 0) p1))), (g4, .inl (cI, 8, .inl (fun _ => 0))), (g5, .inl (cI, 8, .inl (fun _ => 0))), (g6, .inl (cI, 8, .inl (fun _ => 0)))] := hD
            refine lv_aload_n hx hb dX8_policy_110 rfl (lv_at hl 1 rfl) ?_
            refine va_get (D := D) (ci := 8) (v := .ref g4) (C := RX8) (T := TX8) (N := 46) hx hb hts hiX8 hown hE.1 hP 0 rfl rfl 4 (by decide) (hts _ (List.mem_of_getElem? (i := 9) rfl)) (fun _ h9 => h9) rfl dX8_policy_111 ?_
            refine lv_aload_n hx hb dX8_policy_114 rfl (lv_at hl 1 rfl) ?_
            refine va_get (D := D) (ci := 8) (v := .int 0) (C := RX8) (T := TX8) (N := 46) hx hb hts hiX8 hown hE.1 hP 0 rfl rfl 1 (by decide) (hts _ (List.mem_of_getElem? (i := 6) rfl)) (fun _ h9 => h9) rfl dX8_policy_115 ?_
            refine lv_iload_n hx hb dX8_policy_118 rfl (lv_at hl 4 rfl) ?_
            refine va_iast hx hb hE.1 hP hD hS 3 0 rfl rfl (by unfold vp_in; decide) dX8_policy_119 (fun H locs hP hD hS => ?_)
            have hP : va_P D vwCl [(g, .inr (8, [.int 0, .int 0, .ref g2, .ref g3, .ref g4, .ref g5, .ref g6, .ref g7, .ref g8, .ref g9, .ref g10, .int 0, .ref g12, .ref g13, .int 0, .ref g15, .ref g16, .ref g17, .int 0, .ref g19, .ref g20, .ref g21, .ref g22, .ref g23, .ref g24, .ref g25, .ref g26, .ref g27, .ref g28, .int 0, .int 0, .int 0, .int 0, .ref g33, .ref g34, .ref g35, .ref g36, .ref g37, .ref g38, .ref g39, .int 0, .ref g41, .ref g42, .int 0, .ref g44, .ref g45])), (g2, .inl (cI, 8, .inl (upd (fun _ => 0) (Int32.toNatClampNeg 0) p0))), (g3, .inl (cI, 8, .inl (upd (fun _ => 0) (Int32.toNatClampNeg 0) p1))), (g4, .inl (cI, 8, .inl (upd (fun _ => 0) (Int32.toNatClampNeg 0) p2))), (g5, .inl (cI, 8, .inl (fun _ => 0))), (g6, .inl (cI, 8, .inl (fun _ => 0)))] H := hP
            have hD : va_D A [(g, .inr (8, [.int 0, .int 0, .ref g2, .ref g3, .ref g4, .ref g5, .ref g6, .ref g7, .ref g8, .ref g9, .ref g10, .int 0, .ref g12, .ref g13, .int 0, .ref g15, .ref g16, .ref g17, .int 0, .ref g19, .ref g20, .ref g21, .ref g22, .ref g23, .ref g24, .ref g25, .ref g26, .ref g27, .ref g28, .int 0, .int 0, .int 0, .int 0, .ref g33, .ref g34, .ref g35, .ref g36, .ref g37, .ref g38, .ref g39, .int 0, .ref g41, .ref g42, .int 0, .ref g44, .ref g45])), (g2, .inl (cI, 8, .inl (upd (fun _ => 0) (Int32.toNatClampNeg 0) p0))), (g3, .inl (cI, 8, .inl (upd (fun _ => 0) (Int32.toNatClampNeg 0) p1))), (g4, .inl (cI, 8, .inl (upd (fun _ => 0) (Int32.toNatClampNeg 0) p2))), (g5, .inl (cI, 8, .inl (fun _ => 0))), (g6, .inl (cI, 8, .inl (fun _ => 0)))] := hD
            refine lv_aload_n hx hb dX8_policy_120 rfl (lv_at hl 1 rfl) ?_
            refine va_get (D := D) (ci := 8) (v := .ref g5) (C := RX8) (T := TX8) (N := 46) hx hb hts hiX8 hown hE.1 hP 0 rfl rfl 5 (by decide) (hts _ (List.mem_of_getElem? (i := 10) rfl)) (fun _ h9 => h9) rfl dX8_policy_121 ?_
            refine lv_aload_n hx hb dX8_policy_124 rfl (lv_at hl 1 rfl) ?_
            refine va_get (D := D) (ci := 8) (v := .int 0) (C := RX8) (T := TX8) (N := 46) hx hb hts hiX8 hown hE.1 hP 0 rfl rfl 1 (by decide) (hts _ (List.mem_of_getElem? (i := 6) rfl)) (fun _ h9 => h9) rfl dX8_policy_125 ?_
            refine lv_iload hx hb dX8_policy_128 (lv_at hl 5 rfl) ?_
            refine va_iast hx hb hE.1 hP hD hS 4 0 rfl rfl (by unfold vp_in; decide) dX8_policy_130 (fun H locs hP hD hS => ?_)
            have hP : va_P D vwCl [(g, .inr (8, [.int 0, .int 0, .ref g2, .ref g3, .ref g4, .ref g5, .ref g6, .ref g7, .ref g8, .ref g9, .ref g10, .int 0, .ref g12, .ref g13, .int 0, .ref g15, .ref g16, .ref g17, .int 0, .ref g19, .ref g20, .ref g21, .ref g22, .ref g23, .ref g24, .ref g25, .ref g26, .ref g27, .ref g28, .int 0, .int 0, .int 0, .int 0, .ref g33, .ref g34, .ref g35, .ref g36, .ref g37, .ref g38, .ref g39, .int 0, .ref g41, .ref g42, .int 0, .ref g44, .ref g45])), (g2, .inl (cI, 8, .inl (upd (fun _ => 0) (Int32.toNatClampNeg 0) p0))), (g3, .inl (cI, 8, .inl (upd (fun _ => 0) (Int32.toNatClampNeg 0) p1))), (g4, .inl (cI, 8, .inl (upd (fun _ => 0) (Int32.toNatClampNeg 0) p2))), (g5, .inl (cI, 8, .inl (upd (fun _ => 0) (Int32.toNatClampNeg 0) p3))), (g6, .inl (cI, 8, .inl (fun _ => 0)))] H := hP
            have hD : va_D A [(g, .inr (8, [.int 0, .int 0, .ref g2, .ref g3, .ref g4, .ref g5, .ref g6, .ref g7, .ref g8, .ref g9, .ref g10, .int 0, .ref g12, .ref g13, .int 0, .ref g15, .ref g16, .ref g17, .int 0, .ref g19, .ref g20, .ref g21, .ref g22, .ref g23, .ref g24, .ref g25, .ref g26, .ref g27, .ref g28, .int 0, .int 0, .int 0, .int 0, .ref g33, .ref g34, .ref g35, .ref g36, .ref g37, .ref g38, .ref g39, .int 0, .ref g41, .ref g42, .int 0, .ref g44, .ref g45])), (g2, .inl (cI, 8, .inl (upd (fun _ => 0) (Int32.toNatClampNeg 0) p0))), (g3, .inl (cI, 8, .inl (upd (fun _ => 0) (Int32.toNatClampNeg 0) p1))), (g4, .inl (cI, 8, .inl (upd (fun _ => 0) (Int32.toNatClampNeg 0) p2))), (g5, .inl (cI, 8, .inl (upd (fun _ => 0) (Int32.toNatClampNeg 0) p3))), (g6, .inl (cI, 8, .inl (fun _ => 0)))] := hD
            refine lv_aload_n hx hb dX8_policy_131 rfl (lv_at hl 1 rfl) ?_
            refine va_get (D := D) (ci := 8) (v := .ref g6) (C := RX8) (T := TX8) (N := 46) hx hb hts hiX8 hown hE.1 hP 0 rfl rfl 6 (by decide) (hts _ (List.mem_of_getElem? (i := 11) rfl)) (fun _ h9 => h9) rfl dX8_policy_132 ?_
            refine lv_aload_n hx hb dX8_policy_135 rfl (lv_at hl 1 rfl) ?_
            refine va_get (D := D) (ci := 8) (v := .int 0) (C := RX8) (T := TX8) (N := 46) hx hb hts hiX8 hown hE.1 hP 0 rfl rfl 1 (by decide) (hts _ (List.mem_of_getElem? (i := 6) rfl)) (fun _ h9 => h9) rfl dX8_policy_136 ?_
            refine lv_iload hx hb dX8_policy_139 (lv_at hl 6 rfl) ?_
            refine va_iast hx hb hE.1 hP hD hS 5 0 rfl rfl (by unfold vp_in; decide) dX8_policy_141 (fun H locs hP hD hS => ?_)
            have hP : va_P D vwCl [(g, .inr (8, [.int 0, .int 0, .ref g2, .ref g3, .ref g4, .ref g5, .ref g6, .ref g7, .ref g8, .ref g9, .ref g10, .int 0, .ref g12, .ref g13, .int 0, .ref g15, .ref g16, .ref g17, .int 0, .ref g19, .ref g20, .ref g21, .ref g22, .ref g23, .ref g24, .ref g25, .ref g26, .ref g27, .ref g28, .int 0, .int 0, .int 0, .int 0, .ref g33, .ref g34, .ref g35, .ref g36, .ref g37, .ref g38, .ref g39, .int 0, .ref g41, .ref g42, .int 0, .ref g44, .ref g45])), (g2, .inl (cI, 8, .inl (upd (fun _ => 0) (Int32.toNatClampNeg 0) p0))), (g3, .inl (cI, 8, .inl (upd (fun _ => 0) (Int32.toNatClampNeg 0) p1))), (g4, .inl (cI, 8, .inl (upd (fun _ => 0) (Int32.toNatClampNeg 0) p2))), (g5, .inl (cI, 8, .inl (upd (fun _ => 0) (Int32.toNatClampNeg 0) p3))), (g6, .inl (cI, 8, .inl (upd (fun _ => 0) (Int32.toNatClampNeg 0) p4)))] H := hP
            have hD : va_D A [(g, .inr (8, [.int 0, .int 0, .ref g2, .ref g3, .ref g4, .ref g5, .ref g6, .ref g7, .ref g8, .ref g9, .ref g10, .int 0, .ref g12, .ref g13, .int 0, .ref g15, .ref g16, .ref g17, .int 0, .ref g19, .ref g20, .ref g21, .ref g22, .ref g23, .ref g24, .ref g25, .ref g26, .ref g27, .ref g28, .int 0, .int 0, .int 0, .int 0, .ref g33, .ref g34, .ref g35, .ref g36, .ref g37, .ref g38, .ref g39, .int 0, .ref g41, .ref g42, .int 0, .ref g44, .ref g45])), (g2, .inl (cI, 8, .inl (upd (fun _ => 0) (Int32.toNatClampNeg 0) p0))), (g3, .inl (cI, 8, .inl (upd (fun _ => 0) (Int32.toNatClampNeg 0) p1))), (g4, .inl (cI, 8, .inl (upd (fun _ => 0) (Int32.toNatClampNeg 0) p2))), (g5, .inl (cI, 8, .inl (upd (fun _ => 0) (Int32.toNatClampNeg 0) p3))), (g6, .inl (cI, 8, .inl (upd (fun _ => 0) (Int32.toNatClampNeg 0) p4)))] := hD
            refine lv_aload_n hx hb dX8_policy_142 rfl (lv_at hl 1 rfl) ?_
            refine lv_dup hx hb dX8_policy_143 rfl ?_
            refine va_get (D := D) (ci := 8) (v := .int 0) (C := RX8) (T := TX8) (N := 46) hx hb hts hiX8 hown hE.1 hP 0 rfl rfl 1 (by decide) (hts _ (List.mem_of_getElem? (i := 6) rfl)) (fun _ h9 => h9) rfl dX8_policy_144 ?_
            refine lv_iconst (v := 1) hx hb dX8_policy_147 (by decide) ?_
            refine lv_iadd hx hb dX8_policy_148 ?_
            refine lv_topi (fun v28 ev28 => ?_)
            obtain rfl : v28 = 1 := by rw [ev28]; decide
            refine va_put (D := D) (ci := 8) (v := .int 1) (ty := .int) (C := RX8) (T := TX8) (N := 46) hx hb hts hiX8 tyX8 tyX8_ok nmX8 hown hE.1 hP hD hS 0 rfl rfl 1 (by decide) (hts _ (List.mem_of_getElem? (i := 6) rfl)) (fun _ h9 => h9) rfl (by decide +kernel) rfl rfl (Nat.le_of_ble_eq_true rfl) dX8_policy_149 (fun H locs hP hD hS => ?_)
            have hP : va_P D vwCl [(g, .inr (8, [.int 0, .int 1, .ref g2, .ref g3, .ref g4, .ref g5, .ref g6, .ref g7, .ref g8, .ref g9, .ref g10, .int 0, .ref g12, .ref g13, .int 0, .ref g15, .ref g16, .ref g17, .int 0, .ref g19, .ref g20, .ref g21, .ref g22, .ref g23, .ref g24, .ref g25, .ref g26, .ref g27, .ref g28, .int 0, .int 0, .int 0, .int 0, .ref g33, .ref g34, .ref g35, .ref g36, .ref g37, .ref g38, .ref g39, .int 0, .ref g41, .ref g42, .int 0, .ref g44, .ref g45])), (g2, .inl (cI, 8, .inl (upd (fun _ => 0) (Int32.toNatClampNeg 0) p0))), (g3, .inl (cI, 8, .inl (upd (fun _ => 0) (Int32.toNatClampNeg 0) p1))), (g4, .inl (cI, 8, .inl (upd (fun _ => 0) (Int32.toNatClampNeg 0) p2))), (g5, .inl (cI, 8, .inl (upd (fun _ => 0) (Int32.toNatClampNeg 0) p3))), (g6, .inl (cI, 8, .inl (upd (fun _ => 0) (Int32.toNatClampNeg 0) p4)))] H := hP
            have hD : va_D A [(g, .inr (8, [.int 0, .int 1, .ref g2, .ref g3, .ref g4, .ref g5, .ref g6, .ref g7, .ref g8, .ref g9, .ref g10, .int 0, .ref g12, .ref g13, .int 0, .ref g15, .ref g16, .ref g17, .int 0, .ref g19, .ref g20, .ref g21, .ref g22, .ref g23, .ref g24, .ref g25, .ref g26, .ref g27, .ref g28, .int 0, .int 0, .int 0, .int 0, .ref g33, .ref g34, .ref g35, .ref g36, .ref g37, .ref g38, .ref g39, .int 0, .ref g41, .ref g42, .int 0, .ref g44, .ref g45])), (g2, .inl (cI, 8, .inl (upd (fun _ => 0) (Int32.toNatClampNeg 0) p0))), (g3, .inl (cI, 8, .inl (upd (fun _ => 0) (Int32.toNatClampNeg 0) p1))), (g4, .inl (cI, 8, .inl (upd (fun _ => 0) (Int32.toNatClampNeg 0) p2))), (g5, .inl (cI, 8, .inl (upd (fun _ => 0) (Int32.toNatClampNeg 0) p3))), (g6, .inl (cI, 8, .inl (upd (fun _ => 0) (Int32.toNatClampNeg 0) p4)))] := hD
            refine lv_aload_n hx hb dX8_policy_152 rfl (lv_at hl 1 rfl) ?_
            refine va_get (D := D) (ci := 8) (v := .int 1) (C := RX8) (T := TX8) (N := 46) hx hb hts hiX8 hown hE.1 hP 0 rfl rfl 1 (by decide) (hts _ (List.mem_of_getElem? (i := 6) rfl)) (fun _ h9 => h9) rfl dX8_policy_153 ?_
            refine lv_iconst (v := 1) hx hb dX8_policy_156 (by decide) ?_
            refine lv_isub hx hb dX8_policy_157 ?_
            refine lv_topi (fun v29 ev29 => ?_)
            obtain rfl : v29 = 0 := by rw [ev29]; decide
            refine k_iret (u := []) hx hb hr hlk (k_sub hP [] rfl) (hD.sub [] (by decide) rfl) hS dX8_policy_158 ?_
            exact ⟨pz_t ⟨hc4, hc9, hc14, hc19, hc24⟩, rfl⟩
theorem dX8_loss_0 : decode cX8_loss 0 = .ok (.aload_n 0, 1) := by decide +kernel
theorem dX8_loss_1 : decode cX8_loss 1 = .ok (.iconst 0, 1) := by decide +kernel
theorem dX8_loss_2 : decode cX8_loss 2 = .ok (.putfield 116, 3) := by decide +kernel
theorem dX8_loss_5 : decode cX8_loss 5 = .ok (.iload_n 1, 1) := by decide +kernel
theorem dX8_loss_6 : decode cX8_loss 6 = .ok (.invokestatic 146, 3) := by decide +kernel
theorem dX8_loss_9 : decode cX8_loss 9 = .ok (.ifCond .eq 24, 3) := by decide +kernel
theorem dX8_loss_12 : decode cX8_loss 12 = .ok (.iload_n 2, 1) := by decide +kernel
theorem dX8_loss_13 : decode cX8_loss 13 = .ok (.i2l, 1) := by decide +kernel
theorem dX8_loss_14 : decode cX8_loss 14 = .ok (.lconst 1, 1) := by decide +kernel
theorem dX8_loss_15 : decode cX8_loss 15 = .ok (.ldc2_w 132, 3) := by decide +kernel
theorem dX8_loss_18 : decode cX8_loss 18 = .ok (.invokestatic 123, 3) := by decide +kernel
theorem dX8_loss_21 : decode cX8_loss 21 = .ok (.ifCond .eq 12, 3) := by decide +kernel
theorem dX8_loss_24 : decode cX8_loss 24 = .ok (.aload_n 0, 1) := by decide +kernel
theorem dX8_loss_25 : decode cX8_loss 25 = .ok (.getfield 127, 3) := by decide +kernel
theorem dX8_loss_28 : decode cX8_loss 28 = .ok (.bipush 10, 2) := by decide +kernel
theorem dX8_loss_30 : decode cX8_loss 30 = .ok (.if_icmp .ne 5, 3) := by decide +kernel
theorem dX8_loss_33 : decode cX8_loss 33 = .ok (.iconst (-1), 1) := by decide +kernel
theorem dX8_loss_34 : decode cX8_loss 34 = .ok (.ireturn, 1) := by decide +kernel
theorem dX8_loss_35 : decode cX8_loss 35 = .ok (.aload_n 0, 1) := by decide +kernel
theorem dX8_loss_36 : decode cX8_loss 36 = .ok (.getfield 37, 3) := by decide +kernel
theorem dX8_loss_39 : decode cX8_loss 39 = .ok (.aload_n 0, 1) := by decide +kernel
theorem dX8_loss_40 : decode cX8_loss 40 = .ok (.getfield 127, 3) := by decide +kernel
theorem dX8_loss_43 : decode cX8_loss 43 = .ok (.iload_n 1, 1) := by decide +kernel
theorem dX8_loss_44 : decode cX8_loss 44 = .ok (.iastore, 1) := by decide +kernel
theorem dX8_loss_45 : decode cX8_loss 45 = .ok (.aload_n 0, 1) := by decide +kernel
theorem dX8_loss_46 : decode cX8_loss 46 = .ok (.getfield 40, 3) := by decide +kernel
theorem dX8_loss_49 : decode cX8_loss 49 = .ok (.aload_n 0, 1) := by decide +kernel
theorem dX8_loss_50 : decode cX8_loss 50 = .ok (.getfield 127, 3) := by decide +kernel
theorem dX8_loss_53 : decode cX8_loss 53 = .ok (.iload_n 2, 1) := by decide +kernel
theorem dX8_loss_54 : decode cX8_loss 54 = .ok (.iastore, 1) := by decide +kernel
theorem dX8_loss_55 : decode cX8_loss 55 = .ok (.aload_n 0, 1) := by decide +kernel
theorem dX8_loss_56 : decode cX8_loss 56 = .ok (.dup, 1) := by decide +kernel
theorem dX8_loss_57 : decode cX8_loss 57 = .ok (.getfield 127, 3) := by decide +kernel
theorem dX8_loss_60 : decode cX8_loss 60 = .ok (.iconst 1, 1) := by decide +kernel
theorem dX8_loss_61 : decode cX8_loss 61 = .ok (.iadd, 1) := by decide +kernel
theorem dX8_loss_62 : decode cX8_loss 62 = .ok (.putfield 127, 3) := by decide +kernel
theorem dX8_loss_65 : decode cX8_loss 65 = .ok (.aload_n 0, 1) := by decide +kernel
theorem dX8_loss_66 : decode cX8_loss 66 = .ok (.getfield 127, 3) := by decide +kernel
theorem dX8_loss_69 : decode cX8_loss 69 = .ok (.iconst 1, 1) := by decide +kernel
theorem dX8_loss_70 : decode cX8_loss 70 = .ok (.isub, 1) := by decide +kernel
theorem dX8_loss_71 : decode cX8_loss 71 = .ok (.ireturn, 1) := by decide +kernel
set_option maxRecDepth 20000 in
theorem ggX8_loss_X8_in : GoodIn wsX8_loss wsX8_in := goodIn_r _ [13] (by decide +kernel) (by decide +kernel)
set_option maxRecDepth 20000 in
theorem gX8_loss_X8_in : GoodIn wsX8_loss (va_wsS RX8 123 yX8_in wsX8_in) := goodIn_app (goodIn_of _ (by decide +kernel)) ggX8_loss_X8_in
set_option maxRecDepth 20000 in
theorem ggX8_loss_X8_isItem : GoodIn wsX8_loss wsX8_isItem := goodIn_r _ [9, 10, 11, 12, 8, 13] (by decide +kernel) (by decide +kernel)
set_option maxRecDepth 20000 in
theorem gX8_loss_X8_isItem : GoodIn wsX8_loss (va_wsS RX8 146 yX8_isItem wsX8_isItem) := goodIn_app (goodIn_of _ (by decide +kernel)) ggX8_loss_X8_isItem
set_option maxHeartbeats 4000000 in
set_option maxRecDepth 100000 in
theorem f_X8_loss (l : Launch) (D : va_G) (cI cJ : ClassId) (sz : Nat) (g g2 g3 g4 g5 g6 g7 g8 g9 g10 g12 g13 g15 g16 g17 g19 g20 g21 g22 g23 g24 g25 g26 g27 g28 g33 g34 g35 g36 g37 g38 g39 g41 g42 g44 g45 : Nat) (p0 p1 : Int32) : Met l yX8_loss wsX8_loss { frames := 2, cells := 0, slots := 0, locals := 45 } (cPc D cI cJ [.ref g, .int p0, .int p1] sz [(g, .inr (8, [.int 0, .int 0, .ref g2, .ref g3, .ref g4, .ref g5, .ref g6, .ref g7, .ref g8, .ref g9, .ref g10, .int 0, .ref g12, .ref g13, .int 0, .ref g15, .ref g16, .ref g17, .int 0, .ref g19, .ref g20, .ref g21, .ref g22, .ref g23, .ref g24, .ref g25, .ref g26, .ref g27, .ref g28, .int 0, .int 0, .int 0, .int 0, .ref g33, .ref g34, .ref g35, .ref g36, .ref g37, .ref g38, .ref g39, .int 0, .ref g41, .ref g42, .int 0, .ref g44, .ref g45])), (g12, .inl (cI, 10, .inl (fun _ => 0))), (g13, .inl (cI, 10, .inl (fun _ => 0)))]) (cQi D (fun r u => r = pz ((0 ≤ p0 ∧ p0 ≤ 7) ∧ 1 ≤ p1 ∧ p1 ≤ 1000000) ∧ u = []) (va_A [(g, .inr (8, [.int 0, .int 0, .ref g2, .ref g3, .ref g4, .ref g5, .ref g6, .ref g7, .ref g8, .ref g9, .ref g10, .int 0, .ref g12, .ref g13, .int 0, .ref g15, .ref g16, .ref g17, .int 0, .ref g19, .ref g20, .ref g21, .ref g22, .ref g23, .ref g24, .ref g25, .ref g26, .ref g27, .ref g28, .int 0, .int 0, .int 0, .int 0, .ref g33, .ref g34, .ref g35, .ref g36, .ref g37, .ref g38, .ref g39, .int 0, .ref g41, .ref g42, .int 0, .ref g44, .ref g45])), (g12, .inl (cI, 10, .inl (fun _ => 0))), (g13, .inl (cI, 10, .inl (fun _ => 0)))] sz)) 0 0 (va_A [(g, .inr (8, [.int 0, .int 0, .ref g2, .ref g3, .ref g4, .ref g5, .ref g6, .ref g7, .ref g8, .ref g9, .ref g10, .int 0, .ref g12, .ref g13, .int 0, .ref g15, .ref g16, .ref g17, .int 0, .ref g19, .ref g20, .ref g21, .ref g22, .ref g23, .ref g24, .ref g25, .ref g26, .ref g27, .ref g28, .int 0, .int 0, .int 0, .int 0, .ref g33, .ref g34, .ref g35, .ref g36, .ref g37, .ref g38, .ref g39, .int 0, .ref g41, .ref g42, .int 0, .ref g44, .ref g45])), (g12, .inl (cI, 10, .inl (fun _ => 0))), (g13, .inl (cI, 10, .inl (fun _ => 0)))] sz) := by
  refine k_ofW (Qc := cQi D (fun r u => r = pz ((0 ≤ p0 ∧ p0 ≤ 7) ∧ 1 ≤ p1 ∧ p1 ≤ 1000000) ∧ u = [])) (by decide) rfl (Nat.le_of_ble_eq_true rfl) ?_
  intro p e s m below meth c A ls hx hb hr hml hts hown hlk hnm hsz hE hP hD hS hA hl
  have hown : s.vm.findClass RX8 = some m.cls := hown
  have hiX8 : ∀ w ∈ u_ws RX8 TX8 46, w ∈ wsX8_loss := fun w h => List.mem_cons_of_mem _ (List.mem_append_right _ h)
  have hl : lv_has ls 3 [(0, .ref g), (1, .int p0), (2, .int p1)] := hl
  refine lv_aload_n hx hb dX8_loss_0 rfl (lv_at hl 0 rfl) ?_
  refine lv_iconst (v := 0) hx hb dX8_loss_1 (by decide) ?_
  refine va_put (D := D) (ci := 8) (v := .int 0) (ty := .int) (C := RX8) (T := TX8) (N := 46) hx hb hts hiX8 tyX8 tyX8_ok nmX8 hown hE.1 hP hD hS 0 rfl rfl 0 (by decide) (hts _ (List.mem_of_getElem? (i := 1) rfl)) (fun _ h9 => h9) rfl (by decide +kernel) rfl rfl (Nat.le_of_ble_eq_true rfl) dX8_loss_2 (fun H locs hP hD hS => ?_)
  have hP : va_P D vwCl [(g, .inr (8, [.int 0, .int 0, .ref g2, .ref g3, .ref g4, .ref g5, .ref g6, .ref g7, .ref g8, .ref g9, .ref g10, .int 0, .ref g12, .ref g13, .int 0, .ref g15, .ref g16, .ref g17, .int 0, .ref g19, .ref g20, .ref g21, .ref g22, .ref g23, .ref g24, .ref g25, .ref g26, .ref g27, .ref g28, .int 0, .int 0, .int 0, .int 0, .ref g33, .ref g34, .ref g35, .ref g36, .ref g37, .ref g38, .ref g39, .int 0, .ref g41, .ref g42, .int 0, .ref g44, .ref g45])), (g12, .inl (cI, 10, .inl (fun _ => 0))), (g13, .inl (cI, 10, .inl (fun _ => 0)))] H := hP
  have hD : va_D A [(g, .inr (8, [.int 0, .int 0, .ref g2, .ref g3, .ref g4, .ref g5, .ref g6, .ref g7, .ref g8, .ref g9, .ref g10, .int 0, .ref g12, .ref g13, .int 0, .ref g15, .ref g16, .ref g17, .int 0, .ref g19, .ref g20, .ref g21, .ref g22, .ref g23, .ref g24, .ref g25, .ref g26, .ref g27, .ref g28, .int 0, .int 0, .int 0, .int 0, .ref g33, .ref g34, .ref g35, .ref g36, .ref g37, .ref g38, .ref g39, .int 0, .ref g41, .ref g42, .int 0, .ref g44, .ref g45])), (g12, .inl (cI, 10, .inl (fun _ => 0))), (g13, .inl (cI, 10, .inl (fun _ => 0)))] := hD
  refine lv_iload_n hx hb dX8_loss_5 rfl (lv_at hl 1 rfl) ?_
  refine k_i (va_runS (As := [.int p0]) (rest := []) ⟨hx, hb, hml, hown, hts⟩ (m_X8_isItem l D cI cJ H.size p0) (va_cwS 1 hts gX8_loss_X8_isItem rfl rfl rfl (by decide +kernel) ⟨Nat.le_of_ble_eq_true rfl, Nat.le_of_ble_eq_true rfl⟩) (k_pre hE hP hD [] (by decide) rfl) rfl rfl hl.1 rfl (lv_room (Nat.le_of_ble_eq_true rfl)) dX8_loss_6 ⟨Nat.le_of_ble_eq_true rfl, Nat.le_of_ble_eq_true rfl⟩) hP hD hS hA [] [0, 1, 2] rfl (wr := [(g, .inr (8, [.int 0, .int 0, .ref g2, .ref g3, .ref g4, .ref g5, .ref g6, .ref g7, .ref g8, .ref g9, .ref g10, .int 0, .ref g12, .ref g13, .int 0, .ref g15, .ref g16, .ref g17, .int 0, .ref g19, .ref g20, .ref g21, .ref g22, .ref g23, .ref g24, .ref g25, .ref g26, .ref g27, .ref g28, .int 0, .int 0, .int 0, .int 0, .ref g33, .ref g34, .ref g35, .ref g36, .ref g37, .ref g38, .ref g39, .int 0, .ref g41, .ref g42, .int 0, .ref g44, .ref g45])), (g12, .inl (cI, 10, .inl (fun _ => 0))), (g13, .inl (cI, 10, .inl (fun _ => 0)))]) rfl (by decide) (by decide) (fun r1 u H locs hw2 hP hD hS => ?_)
  obtain ⟨hw2, rfl⟩ := hw2
  have hP : va_P D vwCl [(g, .inr (8, [.int 0, .int 0, .ref g2, .ref g3, .ref g4, .ref g5, .ref g6, .ref g7, .ref g8, .ref g9, .ref g10, .int 0, .ref g12, .ref g13, .int 0, .ref g15, .ref g16, .ref g17, .int 0, .ref g19, .ref g20, .ref g21, .ref g22, .ref g23, .ref g24, .ref g25, .ref g26, .ref g27, .ref g28, .int 0, .int 0, .int 0, .int 0, .ref g33, .ref g34, .ref g35, .ref g36, .ref g37, .ref g38, .ref g39, .int 0, .ref g41, .ref g42, .int 0, .ref g44, .ref g45])), (g12, .inl (cI, 10, .inl (fun _ => 0))), (g13, .inl (cI, 10, .inl (fun _ => 0)))] H := hP
  have hD : va_D A [(g, .inr (8, [.int 0, .int 0, .ref g2, .ref g3, .ref g4, .ref g5, .ref g6, .ref g7, .ref g8, .ref g9, .ref g10, .int 0, .ref g12, .ref g13, .int 0, .ref g15, .ref g16, .ref g17, .int 0, .ref g19, .ref g20, .ref g21, .ref g22, .ref g23, .ref g24, .ref g25, .ref g26, .ref g27, .ref g28, .int 0, .int 0, .int 0, .int 0, .ref g33, .ref g34, .ref g35, .ref g36, .ref g37, .ref g38, .ref g39, .int 0, .ref g41, .ref g42, .int 0, .ref g44, .ref g45])), (g12, .inl (cI, 10, .inl (fun _ => 0))), (g13, .inl (cI, 10, .inl (fun _ => 0)))] := hD
  refine lv_if_eq (tgt := 33) hx hb dX8_loss_9 (by decide) (fun c3 => ?_) (fun c3 => ?_)
  · skip
    have hc3 : ¬ (0 ≤ p0 ∧ p0 ≤ 7) := bz_0 hw2 c3
    refine lv_iconst (v := (-1)) hx hb dX8_loss_33 (by decide) ?_
    refine k_iret (u := []) hx hb hr hlk (k_sub hP [] rfl) (hD.sub [] (by decide) rfl) hS dX8_loss_34 ?_
    exact ⟨pz_f (fun q => hc3 q.1), rfl⟩
  · skip
    have hc3 : 0 ≤ p0 ∧ p0 ≤ 7 := bz_1 hw2 c3
    refine lv_iload_n hx hb dX8_loss_12 rfl (lv_at hl 2 rfl) ?_
    refine lv_i2l hx hb dX8_loss_13 rfl ?_
    refine lv_lconst (v := 1) hx hb dX8_loss_14 (by decide) ?_
    refine lv_ldc2 (v := 1000000) hx hb hown (hts _ (List.mem_of_getElem? (i := 2) rfl)) dX8_loss_15 ?_
    refine k_i (va_runS (As := [.long (Int32.toInt64 p1), .long 1, .long 1000000]) (rest := []) ⟨hx, hb, hml, hown, hts⟩ (m_X8_in l D cI cJ H.size (Int32.toInt64 p1) 1 1000000) (va_cwS 3 hts gX8_loss_X8_in rfl rfl rfl (by decide +kernel) ⟨Nat.le_of_ble_eq_true rfl, Nat.le_of_ble_eq_true rfl⟩) (k_pre hE hP hD [] (by decide) rfl) rfl rfl hl.1 rfl (lv_room (Nat.le_of_ble_eq_true rfl)) dX8_loss_18 ⟨Nat.le_of_ble_eq_true rfl, Nat.le_of_ble_eq_true rfl⟩) hP hD hS hA [] [0, 1, 2] rfl (wr := [(g, .inr (8, [.int 0, .int 0, .ref g2, .ref g3, .ref g4, .ref g5, .ref g6, .ref g7, .ref g8, .ref g9, .ref g10, .int 0, .ref g12, .ref g13, .int 0, .ref g15, .ref g16, .ref g17, .int 0, .ref g19, .ref g20, .ref g21, .ref g22, .ref g23, .ref g24, .ref g25, .ref g26, .ref g27, .ref g28, .int 0, .int 0, .int 0, .int 0, .ref g33, .ref g34, .ref g35, .ref g36, .ref g37, .ref g38, .ref g39, .int 0, .ref g41, .ref g42, .int 0, .ref g44, .ref g45])), (g12, .inl (cI, 10, .inl (fun _ => 0))), (g13, .inl (cI, 10, .inl (fun _ => 0)))]) rfl (by decide) (by decide) (fun r4 u H locs hw5 hP hD hS => ?_)
    obtain ⟨hw5, rfl⟩ := hw5
    have hw6 : r4 = bz (1 ≤ p1 ∧ p1 ≤ 1000000) := by rw [hw5]; exact bz_c (w3 (lo := 1) (hi := 1000000) (by decide) (by decide))
    have hP : va_P D vwCl [(g, .inr (8, [.int 0, .int 0, .ref g2, .ref g3, .ref g4, .ref g5, .ref g6, .ref g7, .ref g8, .ref g9, .ref g10, .int 0, .ref g12, .ref g13, .int 0, .ref g15, .ref g16, .ref g17, .int 0, .ref g19, .ref g20, .ref g21, .ref g22, .ref g23, .ref g24, .ref g25, .ref g26, .ref g27, .ref g28, .int 0, .int 0, .int 0, .int 0, .ref g33, .ref g34, .ref g35, .ref g36, .ref g37, .ref g38, .ref g39, .int 0, .ref g41, .ref g42, .int 0, .ref g44, .ref g45])), (g12, .inl (cI, 10, .inl (fun _ => 0))), (g13, .inl (cI, 10, .inl (fun _ => 0)))] H := hP
    have hD : va_D A [(g, .inr (8, [.int 0, .int 0, .ref g2, .ref g3, .ref g4, .ref g5, .ref g6, .ref g7, .ref g8, .ref g9, .ref g10, .int 0, .ref g12, .ref g13, .int 0, .ref g15, .ref g16, .ref g17, .int 0, .ref g19, .ref g20, .ref g21, .ref g22, .ref g23, .ref g24, .ref g25, .ref g26, .ref g27, .ref g28, .int 0, .int 0, .int 0, .int 0, .ref g33, .ref g34, .ref g35, .ref g36, .ref g37, .ref g38, .ref g39, .int 0, .ref g41, .ref g42, .int 0, .ref g44, .ref g45])), (g12, .inl (cI, 10, .inl (fun _ => 0))), (g13, .inl (cI, 10, .inl (fun _ => 0)))] := hD
    refine lv_if_eq (tgt := 33) hx hb dX8_loss_21 (by decide) (fun c7 => ?_) (fun c7 => ?_)
    · skip
      have hc7 : ¬ (1 ≤ p1 ∧ p1 ≤ 1000000) := bz_0 hw6 c7
      refine lv_iconst (v := (-1)) hx hb dX8_loss_33 (by decide) ?_
      refine k_iret (u := []) hx hb hr hlk (k_sub hP [] rfl) (hD.sub [] (by decide) rfl) hS dX8_loss_34 ?_
      exact ⟨pz_f (fun q => hc7 q.2), rfl⟩
    · skip
      have hc7 : 1 ≤ p1 ∧ p1 ≤ 1000000 := bz_1 hw6 c7
      refine lv_aload_n hx hb dX8_loss_24 rfl (lv_at hl 0 rfl) ?_
      refine va_get (D := D) (ci := 8) (v := .int 0) (C := RX8) (T := TX8) (N := 46) hx hb hts hiX8 hown hE.1 hP 0 rfl rfl 11 (by decide) (hts _ (List.mem_of_getElem? (i := 3) rfl)) (fun _ h9 => h9) rfl dX8_loss_25 ?_
      refine lv_bipush (v := 10) hx hb dX8_loss_28 (by decide) ?_
      refine lv_icmp_ne (tgt := 35) hx hb dX8_loss_30 (by decide) (fun _ => ?_) (fun c8 => absurd c8 (by decide))
      refine lv_aload_n hx hb dX8_loss_35 rfl (lv_at hl 0 rfl) ?_
      refine va_get (D := D) (ci := 8) (v := .ref g12) (C := RX8) (T := TX8) (N := 46) hx hb hts hiX8 hown hE.1 hP 0 rfl rfl 12 (by decide) (hts _ (List.mem_of_getElem? (i := 4) rfl)) (fun _ h9 => h9) rfl dX8_loss_36 ?_
      refine lv_aload_n hx hb dX8_loss_39 rfl (lv_at hl 0 rfl) ?_
      refine va_get (D := D) (ci := 8) (v := .int 0) (C := RX8) (T := TX8) (N := 46) hx hb hts hiX8 hown hE.1 hP 0 rfl rfl 11 (by decide) (hts _ (List.mem_of_getElem? (i := 3) rfl)) (fun _ h9 => h9) rfl dX8_loss_40 ?_
      refine lv_iload_n hx hb dX8_loss_43 rfl (lv_at hl 1 rfl) ?_
      refine va_iast hx hb hE.1 hP hD hS 1 0 rfl rfl (by unfold vp_in; decide) dX8_loss_44 (fun H locs hP hD hS => ?_)
      have hP : va_P D vwCl [(g, .inr (8, [.int 0, .int 0, .ref g2, .ref g3, .ref g4, .ref g5, .ref g6, .ref g7, .ref g8, .ref g9, .ref g10, .int 0, .ref g12, .ref g13, .int 0, .ref g15, .ref g16, .ref g17, .int 0, .ref g19, .ref g20, .ref g21, .ref g22, .ref g23, .ref g24, .ref g25, .ref g26, .ref g27, .ref g28, .int 0, .int 0, .int 0, .int 0, .ref g33, .ref g34, .ref g35, .ref g36, .ref g37, .ref g38, .ref g39, .int 0, .ref g41, .ref g42, .int 0, .ref g44, .ref g45])), (g12, .inl (cI, 10, .inl (upd (fun _ => 0) (Int32.toNatClampNeg 0) p0))), (g13, .inl (cI, 10, .inl (fun _ => 0)))] H := hP
      have hD : va_D A [(g, .inr (8, [.int 0, .int 0, .ref g2, .ref g3, .ref g4, .ref g5, .ref g6, .ref g7, .ref g8, .ref g9, .ref g10, .int 0, .ref g12, .ref g13, .int 0, .ref g15, .ref g16, .ref g17, .int 0, .ref g19, .ref g20, .ref g21, .ref g22, .ref g23, .ref g24, .ref g25, .ref g26, .ref g27, .ref g28, .int 0, .int 0, .int 0, .int 0, .ref g33, .ref g34, .ref g35, .ref g36, .ref g37, .ref g38, .ref g39, .int 0, .ref g41, .ref g42, .int 0, .ref g44, .ref g45])), (g12, .inl (cI, 10, .inl (upd (fun _ => 0) (Int32.toNatClampNeg 0) p0))), (g13, .inl (cI, 10, .inl (fun _ => 0)))] := hD
      refine lv_aload_n hx hb dX8_loss_45 rfl (lv_at hl 0 rfl) ?_
      refine va_get (D := D) (ci := 8) (v := .ref g13) (C := RX8) (T := TX8) (N := 46) hx hb hts hiX8 hown hE.1 hP 0 rfl rfl 13 (by decide) (hts _ (List.mem_of_getElem? (i := 5) rfl)) (fun _ h9 => h9) rfl dX8_loss_46 ?_
      refine lv_aload_n hx hb dX8_loss_49 rfl (lv_at hl 0 rfl) ?_
      refine va_get (D := D) (ci := 8) (v := .int 0) (C := RX8) (T := TX8) (N := 46) hx hb hts hiX8 hown hE.1 hP 0 rfl rfl 11 (by decide) (hts _ (List.mem_of_getElem? (i := 3) rfl)) (fun _ h9 => h9) rfl dX8_loss_50 ?_
      refine lv_iload_n hx hb dX8_loss_53 rfl (lv_at hl 2 rfl) ?_
      refine va_iast hx hb hE.1 hP hD hS 2 0 rfl rfl (by unfold vp_in; decide) dX8_loss_54 (fun H locs hP hD hS => ?_)
      have hP : va_P D vwCl [(g, .inr (8, [.int 0, .int 0, .ref g2, .ref g3, .ref g4, .ref g5, .ref g6, .ref g7, .ref g8, .ref g9, .ref g10, .int 0, .ref g12, .ref g13, .int 0, .ref g15, .ref g16, .ref g17, .int 0, .ref g19, .ref g20, .ref g21, .ref g22, .ref g23, .ref g24, .ref g25, .ref g26, .ref g27, .ref g28, .int 0, .int 0, .int 0, .int 0, .ref g33, .ref g34, .ref g35, .ref g36, .ref g37, .ref g38, .ref g39, .int 0, .ref g41, .ref g42, .int 0, .ref g44, .ref g45])), (g12, .inl (cI, 10, .inl (upd (fun _ => 0) (Int32.toNatClampNeg 0) p0))), (g13, .inl (cI, 10, .inl (upd (fun _ => 0) (Int32.toNatClampNeg 0) p1)))] H := hP
      have hD : va_D A [(g, .inr (8, [.int 0, .int 0, .ref g2, .ref g3, .ref g4, .ref g5, .ref g6, .ref g7, .ref g8, .ref g9, .ref g10, .int 0, .ref g12, .ref g13, .int 0, .ref g15, .ref g16, .ref g17, .int 0, .ref g19, .ref g20, .ref g21, .ref g22, .ref g23, .ref g24, .ref g25, .ref g26, .ref g27, .ref g28, .int 0, .int 0, .int 0, .int 0, .ref g33, .ref g34, .ref g35, .ref g36, .ref g37, .ref g38, .ref g39, .int 0, .ref g41, .ref g42, .int 0, .ref g44, .ref g45])), (g12, .inl (cI, 10, .inl (upd (fun _ => 0) (Int32.toNatClampNeg 0) p0))), (g13, .inl (cI, 10, .inl (upd (fun _ => 0) (Int32.toNatClampNeg 0) p1)))] := hD
      refine lv_aload_n hx hb dX8_loss_55 rfl (lv_at hl 0 rfl) ?_
      refine lv_dup hx hb dX8_loss_56 rfl ?_
      refine va_get (D := D) (ci := 8) (v := .int 0) (C := RX8) (T := TX8) (N := 46) hx hb hts hiX8 hown hE.1 hP 0 rfl rfl 11 (by decide) (hts _ (List.mem_of_getElem? (i := 3) rfl)) (fun _ h9 => h9) rfl dX8_loss_57 ?_
      refine lv_iconst (v := 1) hx hb dX8_loss_60 (by decide) ?_
      refine lv_iadd hx hb dX8_loss_61 ?_
      refine lv_topi (fun v9 ev9 => ?_)
      obtain rfl : v9 = 1 := by rw [ev9]; decide
      refine va_put (D := D) (ci := 8) (v := .int 1) (ty := .int) (C := RX8) (T := TX8) (N := 46) hx hb hts hiX8 tyX8 tyX8_ok nmX8 hown hE.1 hP hD hS 0 rfl rfl 11 (by decide) (hts _ (List.mem_of_getElem? (i := 3) rfl)) (fun _ h9 => h9) rfl (by decide +kernel) rfl rfl (Nat.le_of_ble_eq_true rfl) dX8_loss_62 (fun H locs hP hD hS => ?_)
      have hP : va_P D vwCl [(g, .inr (8, [.int 0, .int 0, .ref g2, .ref g3, .ref g4, .ref g5, .ref g6, .ref g7, .ref g8, .ref g9, .ref g10, .int 1, .ref g12, .ref g13, .int 0, .ref g15, .ref g16, .ref g17, .int 0, .ref g19, .ref g20, .ref g21, .ref g22, .ref g23, .ref g24, .ref g25, .ref g26, .ref g27, .ref g28, .int 0, .int 0, .int 0, .int 0, .ref g33, .ref g34, .ref g35, .ref g36, .ref g37, .ref g38, .ref g39, .int 0, .ref g41, .ref g42, .int 0, .ref g44, .ref g45])), (g12, .inl (cI, 10, .inl (upd (fun _ => 0) (Int32.toNatClampNeg 0) p0))), (g13, .inl (cI, 10, .inl (upd (fun _ => 0) (Int32.toNatClampNeg 0) p1)))] H := hP
      have hD : va_D A [(g, .inr (8, [.int 0, .int 0, .ref g2, .ref g3, .ref g4, .ref g5, .ref g6, .ref g7, .ref g8, .ref g9, .ref g10, .int 1, .ref g12, .ref g13, .int 0, .ref g15, .ref g16, .ref g17, .int 0, .ref g19, .ref g20, .ref g21, .ref g22, .ref g23, .ref g24, .ref g25, .ref g26, .ref g27, .ref g28, .int 0, .int 0, .int 0, .int 0, .ref g33, .ref g34, .ref g35, .ref g36, .ref g37, .ref g38, .ref g39, .int 0, .ref g41, .ref g42, .int 0, .ref g44, .ref g45])), (g12, .inl (cI, 10, .inl (upd (fun _ => 0) (Int32.toNatClampNeg 0) p0))), (g13, .inl (cI, 10, .inl (upd (fun _ => 0) (Int32.toNatClampNeg 0) p1)))] := hD
      refine lv_aload_n hx hb dX8_loss_65 rfl (lv_at hl 0 rfl) ?_
      refine va_get (D := D) (ci := 8) (v := .int 1) (C := RX8) (T := TX8) (N := 46) hx hb hts hiX8 hown hE.1 hP 0 rfl rfl 11 (by decide) (hts _ (List.mem_of_getElem? (i := 3) rfl)) (fun _ h9 => h9) rfl dX8_loss_66 ?_
      refine lv_iconst (v := 1) hx hb dX8_loss_69 (by decide) ?_
      refine lv_isub hx hb dX8_loss_70 ?_
      refine lv_topi (fun v10 ev10 => ?_)
      obtain rfl : v10 = 0 := by rw [ev10]; decide
      refine k_iret (u := []) hx hb hr hlk (k_sub hP [] rfl) (hD.sub [] (by decide) rfl) hS dX8_loss_71 ?_
      exact ⟨pz_t ⟨hc3, hc7⟩, rfl⟩
theorem dX8_value_0 : decode cX8_value 0 = .ok (.aload_n 0, 1) := by decide +kernel
theorem dX8_value_1 : decode cX8_value 1 = .ok (.iconst 0, 1) := by decide +kernel
theorem dX8_value_2 : decode cX8_value 2 = .ok (.putfield 116, 3) := by decide +kernel
theorem dX8_value_5 : decode cX8_value 5 = .ok (.iload_n 1, 1) := by decide +kernel
theorem dX8_value_6 : decode cX8_value 6 = .ok (.ifCond .eq 43, 3) := by decide +kernel
theorem dX8_value_9 : decode cX8_value 9 = .ok (.iload_n 2, 1) := by decide +kernel
theorem dX8_value_10 : decode cX8_value 10 = .ok (.invokestatic 146, 3) := by decide +kernel
theorem dX8_value_13 : decode cX8_value 13 = .ok (.ifCond .eq 25, 3) := by decide +kernel
theorem dX8_value_16 : decode cX8_value 16 = .ok (.iload_n 3, 1) := by decide +kernel
theorem dX8_value_17 : decode cX8_value 17 = .ok (.i2l, 1) := by decide +kernel
theorem dX8_value_18 : decode cX8_value 18 = .ok (.lconst 0, 1) := by decide +kernel
theorem dX8_value_19 : decode cX8_value 19 = .ok (.ldc2_w 134, 3) := by decide +kernel
theorem dX8_value_22 : decode cX8_value 22 = .ok (.invokestatic 123, 3) := by decide +kernel
theorem dX8_value_25 : decode cX8_value 25 = .ok (.ifCond .eq 13, 3) := by decide +kernel
theorem dX8_value_28 : decode cX8_value 28 = .ok (.aload_n 0, 1) := by decide +kernel
theorem dX8_value_29 : decode cX8_value 29 = .ok (.getfield 43, 3) := by decide +kernel
theorem dX8_value_32 : decode cX8_value 32 = .ok (.iload_n 2, 1) := by decide +kernel
theorem dX8_value_33 : decode cX8_value 33 = .ok (.iaload, 1) := by decide +kernel
theorem dX8_value_34 : decode cX8_value 34 = .ok (.iload_n 3, 1) := by decide +kernel
theorem dX8_value_35 : decode cX8_value 35 = .ok (.if_icmp .ne 5, 3) := by decide +kernel
theorem dX8_value_38 : decode cX8_value 38 = .ok (.iconst 0, 1) := by decide +kernel
theorem dX8_value_39 : decode cX8_value 39 = .ok (.ireturn, 1) := by decide +kernel
theorem dX8_value_40 : decode cX8_value 40 = .ok (.aload_n 0, 1) := by decide +kernel
theorem dX8_value_41 : decode cX8_value 41 = .ok (.getfield 43, 3) := by decide +kernel
theorem dX8_value_44 : decode cX8_value 44 = .ok (.iload_n 2, 1) := by decide +kernel
theorem dX8_value_45 : decode cX8_value 45 = .ok (.iload_n 3, 1) := by decide +kernel
theorem dX8_value_46 : decode cX8_value 46 = .ok (.iastore, 1) := by decide +kernel
theorem dX8_value_47 : decode cX8_value 47 = .ok (.iconst 1, 1) := by decide +kernel
theorem dX8_value_48 : decode cX8_value 48 = .ok (.ireturn, 1) := by decide +kernel
theorem dX8_value_49 : decode cX8_value 49 = .ok (.aload_n 0, 1) := by decide +kernel
theorem dX8_value_50 : decode cX8_value 50 = .ok (.iload_n 2, 1) := by decide +kernel
theorem dX8_value_51 : decode cX8_value 51 = .ok (.invokevirtual 140, 3) := by decide +kernel
theorem dX8_value_54 : decode cX8_value 54 = .ok (.ifCond .eq 25, 3) := by decide +kernel
theorem dX8_value_79 : decode cX8_value 79 = .ok (.iconst 0, 1) := by decide +kernel
theorem dX8_value_80 : decode cX8_value 80 = .ok (.ireturn, 1) := by decide +kernel
set_option maxRecDepth 20000 in
theorem ggX8_value_X8_in : GoodIn wsX8_value wsX8_in := goodIn_r _ [13] (by decide +kernel) (by decide +kernel)
set_option maxRecDepth 20000 in
theorem gX8_value_X8_in : GoodIn wsX8_value (va_wsS RX8 123 yX8_in wsX8_in) := goodIn_app (goodIn_of _ (by decide +kernel)) ggX8_value_X8_in
set_option maxRecDepth 20000 in
theorem ggX8_value_X8_isItem : GoodIn wsX8_value wsX8_isItem := goodIn_r _ [9, 10, 11, 12, 8, 13] (by decide +kernel) (by decide +kernel)
set_option maxRecDepth 20000 in
theorem gX8_value_X8_isItem : GoodIn wsX8_value (va_wsS RX8 146 yX8_isItem wsX8_isItem) := goodIn_app (goodIn_of _ (by decide +kernel)) ggX8_value_X8_isItem
set_option maxRecDepth 20000 in
theorem ggX8_value_X8_isPolicy : GoodIn wsX8_value wsX8_isPolicy := goodIn_r _ [17, 18, 11, 12, 8, 13, 19, 20, 21, 22, 23, 24, 25, 26, 27, 28, 29, 30, 31, 32, 33, 34, 35, 36, 37, 38, 39, 40, 41, 42, 43, 44, 45, 46, 47, 48, 49, 50, 51, 52, 53, 54, 55, 56, 57, 58, 59, 60, 61, 62, 63, 64] (by decide +kernel) (by decide +kernel)
set_option maxRecDepth 20000 in
theorem gX8_value_X8_isPolicy : GoodIn wsX8_value (wsV RX8 140 RX8 yX8_isPolicy wsX8_isPolicy) := goodIn_app (goodIn_of _ (by decide +kernel)) ggX8_value_X8_isPolicy
set_option maxHeartbeats 4000000 in
set_option maxRecDepth 100000 in
theorem f_X8_value (l : Launch) (D : va_G) (cI cJ : ClassId) (sz : Nat) (g g2 g3 g4 g5 g6 g7 g8 g9 g10 g12 g13 g15 g16 g17 g19 g20 g21 g22 g23 g24 g25 g26 g27 g28 g33 g34 g35 g36 g37 g38 g39 g41 g42 g44 g45 : Nat) (p0 p1 p2 : Int32) : Met l yX8_value wsX8_value { frames := 2, cells := 0, slots := 0, locals := 46 } (cPc D cI cJ [.ref g, .int p0, .int p1, .int p2] sz [(g, .inr (8, [.int 0, .int 0, .ref g2, .ref g3, .ref g4, .ref g5, .ref g6, .ref g7, .ref g8, .ref g9, .ref g10, .int 0, .ref g12, .ref g13, .int 0, .ref g15, .ref g16, .ref g17, .int 0, .ref g19, .ref g20, .ref g21, .ref g22, .ref g23, .ref g24, .ref g25, .ref g26, .ref g27, .ref g28, .int 0, .int 0, .int 0, .int 0, .ref g33, .ref g34, .ref g35, .ref g36, .ref g37, .ref g38, .ref g39, .int 0, .ref g41, .ref g42, .int 0, .ref g44, .ref g45])), (g15, .inl (cI, 8, .inl (fun _ => 0)))]) (cQi D (fun r u => r = (if p0 = 0 then 0 else bz ((0 ≤ p1 ∧ p1 ≤ 7) ∧ (0 ≤ p2 ∧ p2 ≤ 9000000) ∧ ¬ p2 = 0)) ∧ u = []) (va_A [(g, .inr (8, [.int 0, .int 0, .ref g2, .ref g3, .ref g4, .ref g5, .ref g6, .ref g7, .ref g8, .ref g9, .ref g10, .int 0, .ref g12, .ref g13, .int 0, .ref g15, .ref g16, .ref g17, .int 0, .ref g19, .ref g20, .ref g21, .ref g22, .ref g23, .ref g24, .ref g25, .ref g26, .ref g27, .ref g28, .int 0, .int 0, .int 0, .int 0, .ref g33, .ref g34, .ref g35, .ref g36, .ref g37, .ref g38, .ref g39, .int 0, .ref g41, .ref g42, .int 0, .ref g44, .ref g45])), (g15, .inl (cI, 8, .inl (fun _ => 0)))] sz)) 0 0 (va_A [(g, .inr (8, [.int 0, .int 0, .ref g2, .ref g3, .ref g4, .ref g5, .ref g6, .ref g7, .ref g8, .ref g9, .ref g10, .int 0, .ref g12, .ref g13, .int 0, .ref g15, .ref g16, .ref g17, .int 0, .ref g19, .ref g20, .ref g21, .ref g22, .ref g23, .ref g24, .ref g25, .ref g26, .ref g27, .ref g28, .int 0, .int 0, .int 0, .int 0, .ref g33, .ref g34, .ref g35, .ref g36, .ref g37, .ref g38, .ref g39, .int 0, .ref g41, .ref g42, .int 0, .ref g44, .ref g45])), (g15, .inl (cI, 8, .inl (fun _ => 0)))] sz) := by
  refine k_ofW (Qc := cQi D (fun r u => r = (if p0 = 0 then 0 else bz ((0 ≤ p1 ∧ p1 ≤ 7) ∧ (0 ≤ p2 ∧ p2 ≤ 9000000) ∧ ¬ p2 = 0)) ∧ u = [])) (by decide) rfl (Nat.le_of_ble_eq_true rfl) ?_
  intro p e s m below meth c A ls hx hb hr hml hts hown hlk hnm hsz hE hP hD hS hA hl
  have hown : s.vm.findClass RX8 = some m.cls := hown
  have hiX8 : ∀ w ∈ u_ws RX8 TX8 46, w ∈ wsX8_value := fun w h => List.mem_cons_of_mem _ (List.mem_append_right _ h)
  have hl : lv_has ls 4 [(0, .ref g), (1, .int p0), (2, .int p1), (3, .int p2)] := hl
  refine lv_aload_n hx hb dX8_value_0 rfl (lv_at hl 0 rfl) ?_
  refine lv_iconst (v := 0) hx hb dX8_value_1 (by decide) ?_
  refine va_put (D := D) (ci := 8) (v := .int 0) (ty := .int) (C := RX8) (T := TX8) (N := 46) hx hb hts hiX8 tyX8 tyX8_ok nmX8 hown hE.1 hP hD hS 0 rfl rfl 0 (by decide) (hts _ (List.mem_of_getElem? (i := 1) rfl)) (fun _ h9 => h9) rfl (by decide +kernel) rfl rfl (Nat.le_of_ble_eq_true rfl) dX8_value_2 (fun H locs hP hD hS => ?_)
  have hP : va_P D vwCl [(g, .inr (8, [.int 0, .int 0, .ref g2, .ref g3, .ref g4, .ref g5, .ref g6, .ref g7, .ref g8, .ref g9, .ref g10, .int 0, .ref g12, .ref g13, .int 0, .ref g15, .ref g16, .ref g17, .int 0, .ref g19, .ref g20, .ref g21, .ref g22, .ref g23, .ref g24, .ref g25, .ref g26, .ref g27, .ref g28, .int 0, .int 0, .int 0, .int 0, .ref g33, .ref g34, .ref g35, .ref g36, .ref g37, .ref g38, .ref g39, .int 0, .ref g41, .ref g42, .int 0, .ref g44, .ref g45])), (g15, .inl (cI, 8, .inl (fun _ => 0)))] H := hP
  have hD : va_D A [(g, .inr (8, [.int 0, .int 0, .ref g2, .ref g3, .ref g4, .ref g5, .ref g6, .ref g7, .ref g8, .ref g9, .ref g10, .int 0, .ref g12, .ref g13, .int 0, .ref g15, .ref g16, .ref g17, .int 0, .ref g19, .ref g20, .ref g21, .ref g22, .ref g23, .ref g24, .ref g25, .ref g26, .ref g27, .ref g28, .int 0, .int 0, .int 0, .int 0, .ref g33, .ref g34, .ref g35, .ref g36, .ref g37, .ref g38, .ref g39, .int 0, .ref g41, .ref g42, .int 0, .ref g44, .ref g45])), (g15, .inl (cI, 8, .inl (fun _ => 0)))] := hD
  refine lv_iload_n hx hb dX8_value_5 rfl (lv_at hl 1 rfl) ?_
  refine lv_if_eq (tgt := 49) hx hb dX8_value_6 (by decide) (fun c1 => ?_) (fun c1 => ?_)
  · skip
    refine lv_aload_n hx hb dX8_value_49 rfl (lv_at hl 0 rfl) ?_
    refine lv_iload_n hx hb dX8_value_50 rfl (lv_at hl 2 rfl) ?_
    refine k_i (va_runV (As := [.int p1]) (rest := []) ⟨hx, hb, hml, hown, hts⟩ (f_X8_isPolicy l D cI cJ H.size g g2 g3 g4 g5 g6 g7 g8 g9 g10 g12 g13 g15 g16 g17 g19 g20 g21 g22 g23 g24 g25 g26 g27 g28 g33 g34 g35 g36 g37 g38 g39 g41 g42 g44 g45 p1) (cwV 1 hts gX8_value_X8_isPolicy rfl rfl rfl (by decide +kernel) ⟨Nat.le_of_ble_eq_true rfl, Nat.le_of_ble_eq_true rfl⟩) (k_preV hE hP hD [0] (by decide) rfl 0 rfl rfl) rfl rfl hl.1 rfl (lv_room (Nat.le_of_ble_eq_true rfl)) dX8_value_51 ⟨Nat.le_of_ble_eq_true rfl, Nat.le_of_ble_eq_true rfl⟩) hP hD hS hA [0] [1] rfl (wr := [(g15, .inl (cI, 8, .inl (fun _ => 0)))]) rfl (by decide) (by decide) (fun r2 u H locs hw3 hP hD hS => ?_)
    obtain ⟨rfl, rfl⟩ := hw3
    have hP : va_P D vwCl [(g15, .inl (cI, 8, .inl (fun _ => 0))), (g, .inr (8, [.int 0, .int 0, .ref g2, .ref g3, .ref g4, .ref g5, .ref g6, .ref g7, .ref g8, .ref g9, .ref g10, .int 0, .ref g12, .ref g13, .int 0, .ref g15, .ref g16, .ref g17, .int 0, .ref g19, .ref g20, .ref g21, .ref g22, .ref g23, .ref g24, .ref g25, .ref g26, .ref g27, .ref g28, .int 0, .int 0, .int 0, .int 0, .ref g33, .ref g34, .ref g35, .ref g36, .ref g37, .ref g38, .ref g39, .int 0, .ref g41, .ref g42, .int 0, .ref g44, .ref g45]))] H := hP
    have hD : va_D A [(g15, .inl (cI, 8, .inl (fun _ => 0))), (g, .inr (8, [.int 0, .int 0, .ref g2, .ref g3, .ref g4, .ref g5, .ref g6, .ref g7, .ref g8, .ref g9, .ref g10, .int 0, .ref g12, .ref g13, .int 0, .ref g15, .ref g16, .ref g17, .int 0, .ref g19, .ref g20, .ref g21, .ref g22, .ref g23, .ref g24, .ref g25, .ref g26, .ref g27, .ref g28, .int 0, .int 0, .int 0, .int 0, .ref g33, .ref g34, .ref g35, .ref g36, .ref g37, .ref g38, .ref g39, .int 0, .ref g41, .ref g42, .int 0, .ref g44, .ref g45]))] := hD
    refine lv_if_eq (tgt := 79) hx hb dX8_value_54 (by decide) (fun _ => ?_) (fun c4 => absurd (by decide) c4)
    refine lv_iconst (v := 0) hx hb dX8_value_79 (by decide) ?_
    refine k_zret (u := []) hx hb hr (by decide) hlk (k_sub hP [] rfl) (hD.sub [] (by decide) rfl) hS dX8_value_80 ?_
    exact ⟨by rw [if_pos c1], rfl⟩
  · skip
    refine lv_iload_n hx hb dX8_value_9 rfl (lv_at hl 2 rfl) ?_
    refine k_i (va_runS (As := [.int p1]) (rest := []) ⟨hx, hb, hml, hown, hts⟩ (m_X8_isItem l D cI cJ H.size p1) (va_cwS 1 hts gX8_value_X8_isItem rfl rfl rfl (by decide +kernel) ⟨Nat.le_of_ble_eq_true rfl, Nat.le_of_ble_eq_true rfl⟩) (k_pre hE hP hD [] (by decide) rfl) rfl rfl hl.1 rfl (lv_room (Nat.le_of_ble_eq_true rfl)) dX8_value_10 ⟨Nat.le_of_ble_eq_true rfl, Nat.le_of_ble_eq_true rfl⟩) hP hD hS hA [] [0, 1] rfl (wr := [(g, .inr (8, [.int 0, .int 0, .ref g2, .ref g3, .ref g4, .ref g5, .ref g6, .ref g7, .ref g8, .ref g9, .ref g10, .int 0, .ref g12, .ref g13, .int 0, .ref g15, .ref g16, .ref g17, .int 0, .ref g19, .ref g20, .ref g21, .ref g22, .ref g23, .ref g24, .ref g25, .ref g26, .ref g27, .ref g28, .int 0, .int 0, .int 0, .int 0, .ref g33, .ref g34, .ref g35, .ref g36, .ref g37, .ref g38, .ref g39, .int 0, .ref g41, .ref g42, .int 0, .ref g44, .ref g45])), (g15, .inl (cI, 8, .inl (fun _ => 0)))]) rfl (by decide) (by decide) (fun r5 u H locs hw6 hP hD hS => ?_)
    obtain ⟨hw6, rfl⟩ := hw6
    have hP : va_P D vwCl [(g, .inr (8, [.int 0, .int 0, .ref g2, .ref g3, .ref g4, .ref g5, .ref g6, .ref g7, .ref g8, .ref g9, .ref g10, .int 0, .ref g12, .ref g13, .int 0, .ref g15, .ref g16, .ref g17, .int 0, .ref g19, .ref g20, .ref g21, .ref g22, .ref g23, .ref g24, .ref g25, .ref g26, .ref g27, .ref g28, .int 0, .int 0, .int 0, .int 0, .ref g33, .ref g34, .ref g35, .ref g36, .ref g37, .ref g38, .ref g39, .int 0, .ref g41, .ref g42, .int 0, .ref g44, .ref g45])), (g15, .inl (cI, 8, .inl (fun _ => 0)))] H := hP
    have hD : va_D A [(g, .inr (8, [.int 0, .int 0, .ref g2, .ref g3, .ref g4, .ref g5, .ref g6, .ref g7, .ref g8, .ref g9, .ref g10, .int 0, .ref g12, .ref g13, .int 0, .ref g15, .ref g16, .ref g17, .int 0, .ref g19, .ref g20, .ref g21, .ref g22, .ref g23, .ref g24, .ref g25, .ref g26, .ref g27, .ref g28, .int 0, .int 0, .int 0, .int 0, .ref g33, .ref g34, .ref g35, .ref g36, .ref g37, .ref g38, .ref g39, .int 0, .ref g41, .ref g42, .int 0, .ref g44, .ref g45])), (g15, .inl (cI, 8, .inl (fun _ => 0)))] := hD
    refine lv_if_eq (tgt := 38) hx hb dX8_value_13 (by decide) (fun c7 => ?_) (fun c7 => ?_)
    · skip
      have hc7 : ¬ (0 ≤ p1 ∧ p1 ≤ 7) := bz_0 hw6 c7
      refine lv_iconst (v := 0) hx hb dX8_value_38 (by decide) ?_
      refine k_zret (u := []) hx hb hr (by decide) hlk (k_sub hP [] rfl) (hD.sub [] (by decide) rfl) hS dX8_value_39 ?_
      exact ⟨by rw [if_neg c1]; exact bz_f (fun q => hc7 q.1), rfl⟩
    · skip
      have hc7 : 0 ≤ p1 ∧ p1 ≤ 7 := bz_1 hw6 c7
      refine lv_iload_n hx hb dX8_value_16 rfl (lv_at hl 3 rfl) ?_
      refine lv_i2l hx hb dX8_value_17 rfl ?_
      refine lv_lconst (v := 0) hx hb dX8_value_18 (by decide) ?_
      refine lv_ldc2 (v := 9000000) hx hb hown (hts _ (List.mem_of_getElem? (i := 2) rfl)) dX8_value_19 ?_
      refine k_i (va_runS (As := [.long (Int32.toInt64 p2), .long 0, .long 9000000]) (rest := []) ⟨hx, hb, hml, hown, hts⟩ (m_X8_in l D cI cJ H.size (Int32.toInt64 p2) 0 9000000) (va_cwS 3 hts gX8_value_X8_in rfl rfl rfl (by decide +kernel) ⟨Nat.le_of_ble_eq_true rfl, Nat.le_of_ble_eq_true rfl⟩) (k_pre hE hP hD [] (by decide) rfl) rfl rfl hl.1 rfl (lv_room (Nat.le_of_ble_eq_true rfl)) dX8_value_22 ⟨Nat.le_of_ble_eq_true rfl, Nat.le_of_ble_eq_true rfl⟩) hP hD hS hA [] [0, 1] rfl (wr := [(g, .inr (8, [.int 0, .int 0, .ref g2, .ref g3, .ref g4, .ref g5, .ref g6, .ref g7, .ref g8, .ref g9, .ref g10, .int 0, .ref g12, .ref g13, .int 0, .ref g15, .ref g16, .ref g17, .int 0, .ref g19, .ref g20, .ref g21, .ref g22, .ref g23, .ref g24, .ref g25, .ref g26, .ref g27, .ref g28, .int 0, .int 0, .int 0, .int 0, .ref g33, .ref g34, .ref g35, .ref g36, .ref g37, .ref g38, .ref g39, .int 0, .ref g41, .ref g42, .int 0, .ref g44, .ref g45])), (g15, .inl (cI, 8, .inl (fun _ => 0)))]) rfl (by decide) (by decide) (fun r8 u H locs hw9 hP hD hS => ?_)
      obtain ⟨hw9, rfl⟩ := hw9
      have hw10 : r8 = bz (0 ≤ p2 ∧ p2 ≤ 9000000) := by rw [hw9]; exact bz_c (w3 (lo := 0) (hi := 9000000) (by decide) (by decide))
      have hP : va_P D vwCl [(g, .inr (8, [.int 0, .int 0, .ref g2, .ref g3, .ref g4, .ref g5, .ref g6, .ref g7, .ref g8, .ref g9, .ref g10, .int 0, .ref g12, .ref g13, .int 0, .ref g15, .ref g16, .ref g17, .int 0, .ref g19, .ref g20, .ref g21, .ref g22, .ref g23, .ref g24, .ref g25, .ref g26, .ref g27, .ref g28, .int 0, .int 0, .int 0, .int 0, .ref g33, .ref g34, .ref g35, .ref g36, .ref g37, .ref g38, .ref g39, .int 0, .ref g41, .ref g42, .int 0, .ref g44, .ref g45])), (g15, .inl (cI, 8, .inl (fun _ => 0)))] H := hP
      have hD : va_D A [(g, .inr (8, [.int 0, .int 0, .ref g2, .ref g3, .ref g4, .ref g5, .ref g6, .ref g7, .ref g8, .ref g9, .ref g10, .int 0, .ref g12, .ref g13, .int 0, .ref g15, .ref g16, .ref g17, .int 0, .ref g19, .ref g20, .ref g21, .ref g22, .ref g23, .ref g24, .ref g25, .ref g26, .ref g27, .ref g28, .int 0, .int 0, .int 0, .int 0, .ref g33, .ref g34, .ref g35, .ref g36, .ref g37, .ref g38, .ref g39, .int 0, .ref g41, .ref g42, .int 0, .ref g44, .ref g45])), (g15, .inl (cI, 8, .inl (fun _ => 0)))] := hD
      refine lv_if_eq (tgt := 38) hx hb dX8_value_25 (by decide) (fun c11 => ?_) (fun c11 => ?_)
      · skip
        have hc11 : ¬ (0 ≤ p2 ∧ p2 ≤ 9000000) := bz_0 hw10 c11
        refine lv_iconst (v := 0) hx hb dX8_value_38 (by decide) ?_
        refine k_zret (u := []) hx hb hr (by decide) hlk (k_sub hP [] rfl) (hD.sub [] (by decide) rfl) hS dX8_value_39 ?_
        exact ⟨by rw [if_neg c1]; exact bz_f (fun q => hc11 q.2.1), rfl⟩
      · skip
        have hc11 : 0 ≤ p2 ∧ p2 ≤ 9000000 := bz_1 hw10 c11
        refine lv_aload_n hx hb dX8_value_28 rfl (lv_at hl 0 rfl) ?_
        refine va_get (D := D) (ci := 8) (v := .ref g15) (C := RX8) (T := TX8) (N := 46) hx hb hts hiX8 hown hE.1 hP 0 rfl rfl 15 (by decide) (hts _ (List.mem_of_getElem? (i := 3) rfl)) (fun _ h9 => h9) rfl dX8_value_29 ?_
        refine lv_iload_n hx hb dX8_value_32 rfl (lv_at hl 2 rfl) ?_
        refine va_iald hx hb hE.1 hP 1 0 rfl rfl (vi_8 hc7) dX8_value_33 ?_
        refine W.eq (g2 := F0 m 34 ls [.int 0]) rfl ?_
        refine lv_iload_n hx hb dX8_value_34 rfl (lv_at hl 3 rfl) ?_
        refine lv_icmp_ne (tgt := 40) hx hb dX8_value_35 (by decide) (fun c12 => ?_) (fun c12 => ?_)
        · skip
          refine lv_aload_n hx hb dX8_value_40 rfl (lv_at hl 0 rfl) ?_
          refine va_get (D := D) (ci := 8) (v := .ref g15) (C := RX8) (T := TX8) (N := 46) hx hb hts hiX8 hown hE.1 hP 0 rfl rfl 15 (by decide) (hts _ (List.mem_of_getElem? (i := 3) rfl)) (fun _ h9 => h9) rfl dX8_value_41 ?_
          refine lv_iload_n hx hb dX8_value_44 rfl (lv_at hl 2 rfl) ?_
          refine lv_iload_n hx hb dX8_value_45 rfl (lv_at hl 3 rfl) ?_
          refine va_iast hx hb hE.1 hP hD hS 1 0 rfl rfl (vi_8 hc7) dX8_value_46 (fun H locs hP hD hS => ?_)
          have hP : va_P D vwCl [(g, .inr (8, [.int 0, .int 0, .ref g2, .ref g3, .ref g4, .ref g5, .ref g6, .ref g7, .ref g8, .ref g9, .ref g10, .int 0, .ref g12, .ref g13, .int 0, .ref g15, .ref g16, .ref g17, .int 0, .ref g19, .ref g20, .ref g21, .ref g22, .ref g23, .ref g24, .ref g25, .ref g26, .ref g27, .ref g28, .int 0, .int 0, .int 0, .int 0, .ref g33, .ref g34, .ref g35, .ref g36, .ref g37, .ref g38, .ref g39, .int 0, .ref g41, .ref g42, .int 0, .ref g44, .ref g45])), (g15, .inl (cI, 8, .inl (upd (fun _ => 0) (Int32.toNatClampNeg p1) p2)))] H := hP
          have hD : va_D A [(g, .inr (8, [.int 0, .int 0, .ref g2, .ref g3, .ref g4, .ref g5, .ref g6, .ref g7, .ref g8, .ref g9, .ref g10, .int 0, .ref g12, .ref g13, .int 0, .ref g15, .ref g16, .ref g17, .int 0, .ref g19, .ref g20, .ref g21, .ref g22, .ref g23, .ref g24, .ref g25, .ref g26, .ref g27, .ref g28, .int 0, .int 0, .int 0, .int 0, .ref g33, .ref g34, .ref g35, .ref g36, .ref g37, .ref g38, .ref g39, .int 0, .ref g41, .ref g42, .int 0, .ref g44, .ref g45])), (g15, .inl (cI, 8, .inl (upd (fun _ => 0) (Int32.toNatClampNeg p1) p2)))] := hD
          refine lv_iconst (v := 1) hx hb dX8_value_47 (by decide) ?_
          refine k_zret (u := []) hx hb hr (by decide) hlk (k_sub hP [] rfl) (hD.sub [] (by decide) rfl) hS dX8_value_48 ?_
          exact ⟨by rw [if_neg c1]; exact bz_t ⟨hc7, hc11, fun q => c12 q.symm⟩, rfl⟩
        · skip
          refine lv_iconst (v := 0) hx hb dX8_value_38 (by decide) ?_
          refine k_zret (u := []) hx hb hr (by decide) hlk (k_sub hP [] rfl) (hD.sub [] (by decide) rfl) hS dX8_value_39 ?_
          exact ⟨by rw [if_neg c1]; exact bz_f (fun q => q.2.2 c12.symm), rfl⟩
theorem dX8_returned_0 : decode cX8_returned 0 = .ok (.aload_n 0, 1) := by decide +kernel
theorem dX8_returned_1 : decode cX8_returned 1 = .ok (.iconst 0, 1) := by decide +kernel
theorem dX8_returned_2 : decode cX8_returned 2 = .ok (.putfield 116, 3) := by decide +kernel
theorem dX8_returned_5 : decode cX8_returned 5 = .ok (.iload_n 2, 1) := by decide +kernel
theorem dX8_returned_6 : decode cX8_returned 6 = .ok (.invokestatic 146, 3) := by decide +kernel
theorem dX8_returned_9 : decode cX8_returned 9 = .ok (.ifCond .eq 38, 3) := by decide +kernel
theorem dX8_returned_12 : decode cX8_returned 12 = .ok (.aload_n 0, 1) := by decide +kernel
theorem dX8_returned_13 : decode cX8_returned 13 = .ok (.getfield 43, 3) := by decide +kernel
theorem dX8_returned_16 : decode cX8_returned 16 = .ok (.iload_n 2, 1) := by decide +kernel
theorem dX8_returned_17 : decode cX8_returned 17 = .ok (.iaload, 1) := by decide +kernel
theorem dX8_returned_18 : decode cX8_returned 18 = .ok (.ifCond .eq 29, 3) := by decide +kernel
theorem dX8_returned_47 : decode cX8_returned 47 = .ok (.iconst (-1), 1) := by decide +kernel
theorem dX8_returned_48 : decode cX8_returned 48 = .ok (.ireturn, 1) := by decide +kernel
set_option maxRecDepth 20000 in
theorem ggX8_returned_X8_isItem : GoodIn wsX8_returned wsX8_isItem := goodIn_r _ [8, 9, 10, 11, 7, 12] (by decide +kernel) (by decide +kernel)
set_option maxRecDepth 20000 in
theorem gX8_returned_X8_isItem : GoodIn wsX8_returned (va_wsS RX8 146 yX8_isItem wsX8_isItem) := goodIn_app (goodIn_of _ (by decide +kernel)) ggX8_returned_X8_isItem
set_option maxHeartbeats 4000000 in
set_option maxRecDepth 100000 in
theorem f_X8_returned (l : Launch) (D : va_G) (cI cJ : ClassId) (sz : Nat) (g g2 g3 g4 g5 g6 g7 g8 g9 g10 g12 g13 g15 g16 g17 g19 g20 g21 g22 g23 g24 g25 g26 g27 g28 g33 g34 g35 g36 g37 g38 g39 g41 g42 g44 g45 : Nat) (p0 p1 : Int32) : Met l yX8_returned wsX8_returned { frames := 2, cells := 0, slots := 0, locals := 45 } (cPc D cI cJ [.ref g, .int p0, .int p1] sz [(g, .inr (8, [.int 0, .int 0, .ref g2, .ref g3, .ref g4, .ref g5, .ref g6, .ref g7, .ref g8, .ref g9, .ref g10, .int 0, .ref g12, .ref g13, .int 0, .ref g15, .ref g16, .ref g17, .int 0, .ref g19, .ref g20, .ref g21, .ref g22, .ref g23, .ref g24, .ref g25, .ref g26, .ref g27, .ref g28, .int 0, .int 0, .int 0, .int 0, .ref g33, .ref g34, .ref g35, .ref g36, .ref g37, .ref g38, .ref g39, .int 0, .ref g41, .ref g42, .int 0, .ref g44, .ref g45])), (g15, .inl (cI, 8, .inl (fun _ => 0)))]) (cQi D (fun r u => r = -1 ∧ u = []) (va_A [(g, .inr (8, [.int 0, .int 0, .ref g2, .ref g3, .ref g4, .ref g5, .ref g6, .ref g7, .ref g8, .ref g9, .ref g10, .int 0, .ref g12, .ref g13, .int 0, .ref g15, .ref g16, .ref g17, .int 0, .ref g19, .ref g20, .ref g21, .ref g22, .ref g23, .ref g24, .ref g25, .ref g26, .ref g27, .ref g28, .int 0, .int 0, .int 0, .int 0, .ref g33, .ref g34, .ref g35, .ref g36, .ref g37, .ref g38, .ref g39, .int 0, .ref g41, .ref g42, .int 0, .ref g44, .ref g45])), (g15, .inl (cI, 8, .inl (fun _ => 0)))] sz)) 0 0 (va_A [(g, .inr (8, [.int 0, .int 0, .ref g2, .ref g3, .ref g4, .ref g5, .ref g6, .ref g7, .ref g8, .ref g9, .ref g10, .int 0, .ref g12, .ref g13, .int 0, .ref g15, .ref g16, .ref g17, .int 0, .ref g19, .ref g20, .ref g21, .ref g22, .ref g23, .ref g24, .ref g25, .ref g26, .ref g27, .ref g28, .int 0, .int 0, .int 0, .int 0, .ref g33, .ref g34, .ref g35, .ref g36, .ref g37, .ref g38, .ref g39, .int 0, .ref g41, .ref g42, .int 0, .ref g44, .ref g45])), (g15, .inl (cI, 8, .inl (fun _ => 0)))] sz) := by
  refine k_ofW (Qc := cQi D (fun r u => r = -1 ∧ u = [])) (by decide) rfl (Nat.le_of_ble_eq_true rfl) ?_
  intro p e s m below meth c A ls hx hb hr hml hts hown hlk hnm hsz hE hP hD hS hA hl
  have hown : s.vm.findClass RX8 = some m.cls := hown
  have hiX8 : ∀ w ∈ u_ws RX8 TX8 46, w ∈ wsX8_returned := fun w h => List.mem_cons_of_mem _ (List.mem_append_right _ h)
  have hl : lv_has ls 7 [(0, .ref g), (1, .int p0), (2, .int p1)] := hl
  refine lv_aload_n hx hb dX8_returned_0 rfl (lv_at hl 0 rfl) ?_
  refine lv_iconst (v := 0) hx hb dX8_returned_1 (by decide) ?_
  refine va_put (D := D) (ci := 8) (v := .int 0) (ty := .int) (C := RX8) (T := TX8) (N := 46) hx hb hts hiX8 tyX8 tyX8_ok nmX8 hown hE.1 hP hD hS 0 rfl rfl 0 (by decide) (hts _ (List.mem_of_getElem? (i := 1) rfl)) (fun _ h9 => h9) rfl (by decide +kernel) rfl rfl (Nat.le_of_ble_eq_true rfl) dX8_returned_2 (fun H locs hP hD hS => ?_)
  have hP : va_P D vwCl [(g, .inr (8, [.int 0, .int 0, .ref g2, .ref g3, .ref g4, .ref g5, .ref g6, .ref g7, .ref g8, .ref g9, .ref g10, .int 0, .ref g12, .ref g13, .int 0, .ref g15, .ref g16, .ref g17, .int 0, .ref g19, .ref g20, .ref g21, .ref g22, .ref g23, .ref g24, .ref g25, .ref g26, .ref g27, .ref g28, .int 0, .int 0, .int 0, .int 0, .ref g33, .ref g34, .ref g35, .ref g36, .ref g37, .ref g38, .ref g39, .int 0, .ref g41, .ref g42, .int 0, .ref g44, .ref g45])), (g15, .inl (cI, 8, .inl (fun _ => 0)))] H := hP
  have hD : va_D A [(g, .inr (8, [.int 0, .int 0, .ref g2, .ref g3, .ref g4, .ref g5, .ref g6, .ref g7, .ref g8, .ref g9, .ref g10, .int 0, .ref g12, .ref g13, .int 0, .ref g15, .ref g16, .ref g17, .int 0, .ref g19, .ref g20, .ref g21, .ref g22, .ref g23, .ref g24, .ref g25, .ref g26, .ref g27, .ref g28, .int 0, .int 0, .int 0, .int 0, .ref g33, .ref g34, .ref g35, .ref g36, .ref g37, .ref g38, .ref g39, .int 0, .ref g41, .ref g42, .int 0, .ref g44, .ref g45])), (g15, .inl (cI, 8, .inl (fun _ => 0)))] := hD
  refine lv_iload_n hx hb dX8_returned_5 rfl (lv_at hl 2 rfl) ?_
  refine k_i (va_runS (As := [.int p1]) (rest := []) ⟨hx, hb, hml, hown, hts⟩ (m_X8_isItem l D cI cJ H.size p1) (va_cwS 1 hts gX8_returned_X8_isItem rfl rfl rfl (by decide +kernel) ⟨Nat.le_of_ble_eq_true rfl, Nat.le_of_ble_eq_true rfl⟩) (k_pre hE hP hD [] (by decide) rfl) rfl rfl hl.1 rfl (lv_room (Nat.le_of_ble_eq_true rfl)) dX8_returned_6 ⟨Nat.le_of_ble_eq_true rfl, Nat.le_of_ble_eq_true rfl⟩) hP hD hS hA [] [0, 1] rfl (wr := [(g, .inr (8, [.int 0, .int 0, .ref g2, .ref g3, .ref g4, .ref g5, .ref g6, .ref g7, .ref g8, .ref g9, .ref g10, .int 0, .ref g12, .ref g13, .int 0, .ref g15, .ref g16, .ref g17, .int 0, .ref g19, .ref g20, .ref g21, .ref g22, .ref g23, .ref g24, .ref g25, .ref g26, .ref g27, .ref g28, .int 0, .int 0, .int 0, .int 0, .ref g33, .ref g34, .ref g35, .ref g36, .ref g37, .ref g38, .ref g39, .int 0, .ref g41, .ref g42, .int 0, .ref g44, .ref g45])), (g15, .inl (cI, 8, .inl (fun _ => 0)))]) rfl (by decide) (by decide) (fun r1 u H locs hw2 hP hD hS => ?_)
  obtain ⟨hw2, rfl⟩ := hw2
  have hP : va_P D vwCl [(g, .inr (8, [.int 0, .int 0, .ref g2, .ref g3, .ref g4, .ref g5, .ref g6, .ref g7, .ref g8, .ref g9, .ref g10, .int 0, .ref g12, .ref g13, .int 0, .ref g15, .ref g16, .ref g17, .int 0, .ref g19, .ref g20, .ref g21, .ref g22, .ref g23, .ref g24, .ref g25, .ref g26, .ref g27, .ref g28, .int 0, .int 0, .int 0, .int 0, .ref g33, .ref g34, .ref g35, .ref g36, .ref g37, .ref g38, .ref g39, .int 0, .ref g41, .ref g42, .int 0, .ref g44, .ref g45])), (g15, .inl (cI, 8, .inl (fun _ => 0)))] H := hP
  have hD : va_D A [(g, .inr (8, [.int 0, .int 0, .ref g2, .ref g3, .ref g4, .ref g5, .ref g6, .ref g7, .ref g8, .ref g9, .ref g10, .int 0, .ref g12, .ref g13, .int 0, .ref g15, .ref g16, .ref g17, .int 0, .ref g19, .ref g20, .ref g21, .ref g22, .ref g23, .ref g24, .ref g25, .ref g26, .ref g27, .ref g28, .int 0, .int 0, .int 0, .int 0, .ref g33, .ref g34, .ref g35, .ref g36, .ref g37, .ref g38, .ref g39, .int 0, .ref g41, .ref g42, .int 0, .ref g44, .ref g45])), (g15, .inl (cI, 8, .inl (fun _ => 0)))] := hD
  refine lv_if_eq (tgt := 47) hx hb dX8_returned_9 (by decide) (fun c3 => ?_) (fun c3 => ?_)
  · skip
    have hc3 : ¬ (0 ≤ p1 ∧ p1 ≤ 7) := bz_0 hw2 c3
    refine lv_iconst (v := (-1)) hx hb dX8_returned_47 (by decide) ?_
    refine k_iret (u := []) hx hb hr hlk (k_sub hP [] rfl) (hD.sub [] (by decide) rfl) hS dX8_returned_48 ?_
    exact ⟨rfl, rfl⟩
  · skip
    have hc3 : 0 ≤ p1 ∧ p1 ≤ 7 := bz_1 hw2 c3
    refine lv_aload_n hx hb dX8_returned_12 rfl (lv_at hl 0 rfl) ?_
    refine va_get (D := D) (ci := 8) (v := .ref g15) (C := RX8) (T := TX8) (N := 46) hx hb hts hiX8 hown hE.1 hP 0 rfl rfl 15 (by decide) (hts _ (List.mem_of_getElem? (i := 2) rfl)) (fun _ h9 => h9) rfl dX8_returned_13 ?_
    refine lv_iload_n hx hb dX8_returned_16 rfl (lv_at hl 2 rfl) ?_
    refine va_iald hx hb hE.1 hP 1 0 rfl rfl (vi_8 hc3) dX8_returned_17 ?_
    refine W.eq (g2 := F0 m 18 ls [.int 0]) rfl ?_
    refine lv_if_eq (tgt := 47) hx hb dX8_returned_18 (by decide) (fun _ => ?_) (fun c4 => absurd (by decide) c4)
    refine lv_iconst (v := (-1)) hx hb dX8_returned_47 (by decide) ?_
    refine k_iret (u := []) hx hb hr hlk (k_sub hP [] rfl) (hD.sub [] (by decide) rfl) hS dX8_returned_48 ?_
    exact ⟨rfl, rfl⟩
theorem dX8_filed_0 : decode cX8_filed 0 = .ok (.aload_n 0, 1) := by decide +kernel
theorem dX8_filed_1 : decode cX8_filed 1 = .ok (.iconst 0, 1) := by decide +kernel
theorem dX8_filed_2 : decode cX8_filed 2 = .ok (.putfield 116, 3) := by decide +kernel
theorem dX8_filed_5 : decode cX8_filed 5 = .ok (.iload_n 1, 1) := by decide +kernel
theorem dX8_filed_6 : decode cX8_filed 6 = .ok (.iload_n 2, 1) := by decide +kernel
theorem dX8_filed_7 : decode cX8_filed 7 = .ok (.invokestatic 315, 3) := by decide +kernel
theorem dX8_filed_10 : decode cX8_filed 10 = .ok (.ifCond .ne 5, 3) := by decide +kernel
theorem dX8_filed_13 : decode cX8_filed 13 = .ok (.iconst (-1), 1) := by decide +kernel
theorem dX8_filed_14 : decode cX8_filed 14 = .ok (.ireturn, 1) := by decide +kernel
theorem dX8_filed_15 : decode cX8_filed 15 = .ok (.bipush 8, 2) := by decide +kernel
theorem dX8_filed_17 : decode cX8_filed 17 = .ok (.iload_n 1, 1) := by decide +kernel
theorem dX8_filed_18 : decode cX8_filed 18 = .ok (.imul, 1) := by decide +kernel
theorem dX8_filed_19 : decode cX8_filed 19 = .ok (.iload_n 2, 1) := by decide +kernel
theorem dX8_filed_20 : decode cX8_filed 20 = .ok (.iadd, 1) := by decide +kernel
theorem dX8_filed_21 : decode cX8_filed 21 = .ok (.istore 4, 2) := by decide +kernel
theorem dX8_filed_23 : decode cX8_filed 23 = .ok (.aload_n 0, 1) := by decide +kernel
theorem dX8_filed_24 : decode cX8_filed 24 = .ok (.getfield 46, 3) := by decide +kernel
theorem dX8_filed_27 : decode cX8_filed 27 = .ok (.iload 4, 2) := by decide +kernel
theorem dX8_filed_29 : decode cX8_filed 29 = .ok (.iaload, 1) := by decide +kernel
theorem dX8_filed_30 : decode cX8_filed 30 = .ok (.ifCond .ne 6, 3) := by decide +kernel
theorem dX8_filed_33 : decode cX8_filed 33 = .ok (.bipush (-2), 2) := by decide +kernel
theorem dX8_filed_35 : decode cX8_filed 35 = .ok (.ireturn, 1) := by decide +kernel
set_option maxRecDepth 20000 in
theorem ggX8_filed_X8_isPlace : GoodIn wsX8_filed wsX8_isPlace := goodIn_r _ [7, 8, 9, 10, 11, 6, 12] (by decide +kernel) (by decide +kernel)
set_option maxRecDepth 20000 in
theorem gX8_filed_X8_isPlace : GoodIn wsX8_filed (va_wsS RX8 315 yX8_isPlace wsX8_isPlace) := goodIn_app (goodIn_of _ (by decide +kernel)) ggX8_filed_X8_isPlace
set_option maxHeartbeats 4000000 in
set_option maxRecDepth 100000 in
theorem f_X8_filed (l : Launch) (D : va_G) (cI cJ : ClassId) (sz : Nat) (g g2 g3 g4 g5 g6 g7 g8 g9 g10 g12 g13 g15 g16 g17 g19 g20 g21 g22 g23 g24 g25 g26 g27 g28 g33 g34 g35 g36 g37 g38 g39 g41 g42 g44 g45 : Nat) (p0 p1 p2 : Int32) : Met l yX8_filed wsX8_filed { frames := 2, cells := 0, slots := 0, locals := 46 } (cPc D cI cJ [.ref g, .int p0, .int p1, .int p2] sz [(g, .inr (8, [.int 0, .int 0, .ref g2, .ref g3, .ref g4, .ref g5, .ref g6, .ref g7, .ref g8, .ref g9, .ref g10, .int 0, .ref g12, .ref g13, .int 0, .ref g15, .ref g16, .ref g17, .int 0, .ref g19, .ref g20, .ref g21, .ref g22, .ref g23, .ref g24, .ref g25, .ref g26, .ref g27, .ref g28, .int 0, .int 0, .int 0, .int 0, .ref g33, .ref g34, .ref g35, .ref g36, .ref g37, .ref g38, .ref g39, .int 0, .ref g41, .ref g42, .int 0, .ref g44, .ref g45])), (g16, .inl (cI, 32, .inl (fun _ => 0)))]) (cQi D (fun r u => r = fz ((0 ≤ p0 ∧ p0 ≤ 3) ∧ 0 ≤ p1 ∧ p1 ≤ 7) ∧ u = []) (va_A [(g, .inr (8, [.int 0, .int 0, .ref g2, .ref g3, .ref g4, .ref g5, .ref g6, .ref g7, .ref g8, .ref g9, .ref g10, .int 0, .ref g12, .ref g13, .int 0, .ref g15, .ref g16, .ref g17, .int 0, .ref g19, .ref g20, .ref g21, .ref g22, .ref g23, .ref g24, .ref g25, .ref g26, .ref g27, .ref g28, .int 0, .int 0, .int 0, .int 0, .ref g33, .ref g34, .ref g35, .ref g36, .ref g37, .ref g38, .ref g39, .int 0, .ref g41, .ref g42, .int 0, .ref g44, .ref g45])), (g16, .inl (cI, 32, .inl (fun _ => 0)))] sz)) 0 0 (va_A [(g, .inr (8, [.int 0, .int 0, .ref g2, .ref g3, .ref g4, .ref g5, .ref g6, .ref g7, .ref g8, .ref g9, .ref g10, .int 0, .ref g12, .ref g13, .int 0, .ref g15, .ref g16, .ref g17, .int 0, .ref g19, .ref g20, .ref g21, .ref g22, .ref g23, .ref g24, .ref g25, .ref g26, .ref g27, .ref g28, .int 0, .int 0, .int 0, .int 0, .ref g33, .ref g34, .ref g35, .ref g36, .ref g37, .ref g38, .ref g39, .int 0, .ref g41, .ref g42, .int 0, .ref g44, .ref g45])), (g16, .inl (cI, 32, .inl (fun _ => 0)))] sz) := by
  refine k_ofW (Qc := cQi D (fun r u => r = fz ((0 ≤ p0 ∧ p0 ≤ 3) ∧ 0 ≤ p1 ∧ p1 ≤ 7) ∧ u = [])) (by decide) rfl (Nat.le_of_ble_eq_true rfl) ?_
  intro p e s m below meth c A ls hx hb hr hml hts hown hlk hnm hsz hE hP hD hS hA hl
  have hown : s.vm.findClass RX8 = some m.cls := hown
  have hiX8 : ∀ w ∈ u_ws RX8 TX8 46, w ∈ wsX8_filed := fun w h => List.mem_cons_of_mem _ (List.mem_append_right _ h)
  have hl : lv_has ls 5 [(0, .ref g), (1, .int p0), (2, .int p1), (3, .int p2)] := hl
  refine lv_aload_n hx hb dX8_filed_0 rfl (lv_at hl 0 rfl) ?_
  refine lv_iconst (v := 0) hx hb dX8_filed_1 (by decide) ?_
  refine va_put (D := D) (ci := 8) (v := .int 0) (ty := .int) (C := RX8) (T := TX8) (N := 46) hx hb hts hiX8 tyX8 tyX8_ok nmX8 hown hE.1 hP hD hS 0 rfl rfl 0 (by decide) (hts _ (List.mem_of_getElem? (i := 1) rfl)) (fun _ h9 => h9) rfl (by decide +kernel) rfl rfl (Nat.le_of_ble_eq_true rfl) dX8_filed_2 (fun H locs hP hD hS => ?_)
  have hP : va_P D vwCl [(g, .inr (8, [.int 0, .int 0, .ref g2, .ref g3, .ref g4, .ref g5, .ref g6, .ref g7, .ref g8, .ref g9, .ref g10, .int 0, .ref g12, .ref g13, .int 0, .ref g15, .ref g16, .ref g17, .int 0, .ref g19, .ref g20, .ref g21, .ref g22, .ref g23, .ref g24, .ref g25, .ref g26, .ref g27, .ref g28, .int 0, .int 0, .int 0, .int 0, .ref g33, .ref g34, .ref g35, .ref g36, .ref g37, .ref g38, .ref g39, .int 0, .ref g41, .ref g42, .int 0, .ref g44, .ref g45])), (g16, .inl (cI, 32, .inl (fun _ => 0)))] H := hP
  have hD : va_D A [(g, .inr (8, [.int 0, .int 0, .ref g2, .ref g3, .ref g4, .ref g5, .ref g6, .ref g7, .ref g8, .ref g9, .ref g10, .int 0, .ref g12, .ref g13, .int 0, .ref g15, .ref g16, .ref g17, .int 0, .ref g19, .ref g20, .ref g21, .ref g22, .ref g23, .ref g24, .ref g25, .ref g26, .ref g27, .ref g28, .int 0, .int 0, .int 0, .int 0, .ref g33, .ref g34, .ref g35, .ref g36, .ref g37, .ref g38, .ref g39, .int 0, .ref g41, .ref g42, .int 0, .ref g44, .ref g45])), (g16, .inl (cI, 32, .inl (fun _ => 0)))] := hD
  refine lv_iload_n hx hb dX8_filed_5 rfl (lv_at hl 1 rfl) ?_
  refine lv_iload_n hx hb dX8_filed_6 rfl (lv_at hl 2 rfl) ?_
  refine k_i (va_runS (As := [.int p0, .int p1]) (rest := []) ⟨hx, hb, hml, hown, hts⟩ (m_X8_isPlace l D cI cJ H.size p0 p1) (va_cwS 2 hts gX8_filed_X8_isPlace rfl rfl rfl (by decide +kernel) ⟨Nat.le_of_ble_eq_true rfl, Nat.le_of_ble_eq_true rfl⟩) (k_pre hE hP hD [] (by decide) rfl) rfl rfl hl.1 rfl (lv_room (Nat.le_of_ble_eq_true rfl)) dX8_filed_7 ⟨Nat.le_of_ble_eq_true rfl, Nat.le_of_ble_eq_true rfl⟩) hP hD hS hA [] [0, 1] rfl (wr := [(g, .inr (8, [.int 0, .int 0, .ref g2, .ref g3, .ref g4, .ref g5, .ref g6, .ref g7, .ref g8, .ref g9, .ref g10, .int 0, .ref g12, .ref g13, .int 0, .ref g15, .ref g16, .ref g17, .int 0, .ref g19, .ref g20, .ref g21, .ref g22, .ref g23, .ref g24, .ref g25, .ref g26, .ref g27, .ref g28, .int 0, .int 0, .int 0, .int 0, .ref g33, .ref g34, .ref g35, .ref g36, .ref g37, .ref g38, .ref g39, .int 0, .ref g41, .ref g42, .int 0, .ref g44, .ref g45])), (g16, .inl (cI, 32, .inl (fun _ => 0)))]) rfl (by decide) (by decide) (fun r1 u H locs hw2 hP hD hS => ?_)
  obtain ⟨hw2, rfl⟩ := hw2
  have hP : va_P D vwCl [(g, .inr (8, [.int 0, .int 0, .ref g2, .ref g3, .ref g4, .ref g5, .ref g6, .ref g7, .ref g8, .ref g9, .ref g10, .int 0, .ref g12, .ref g13, .int 0, .ref g15, .ref g16, .ref g17, .int 0, .ref g19, .ref g20, .ref g21, .ref g22, .ref g23, .ref g24, .ref g25, .ref g26, .ref g27, .ref g28, .int 0, .int 0, .int 0, .int 0, .ref g33, .ref g34, .ref g35, .ref g36, .ref g37, .ref g38, .ref g39, .int 0, .ref g41, .ref g42, .int 0, .ref g44, .ref g45])), (g16, .inl (cI, 32, .inl (fun _ => 0)))] H := hP
  have hD : va_D A [(g, .inr (8, [.int 0, .int 0, .ref g2, .ref g3, .ref g4, .ref g5, .ref g6, .ref g7, .ref g8, .ref g9, .ref g10, .int 0, .ref g12, .ref g13, .int 0, .ref g15, .ref g16, .ref g17, .int 0, .ref g19, .ref g20, .ref g21, .ref g22, .ref g23, .ref g24, .ref g25, .ref g26, .ref g27, .ref g28, .int 0, .int 0, .int 0, .int 0, .ref g33, .ref g34, .ref g35, .ref g36, .ref g37, .ref g38, .ref g39, .int 0, .ref g41, .ref g42, .int 0, .ref g44, .ref g45])), (g16, .inl (cI, 32, .inl (fun _ => 0)))] := hD
  refine lv_if_ne (tgt := 15) hx hb dX8_filed_10 (by decide) (fun c3 => ?_) (fun c3 => ?_)
  · skip
    have hc3 : (0 ≤ p0 ∧ p0 ≤ 3) ∧ 0 ≤ p1 ∧ p1 ≤ 7 := bz_1 hw2 c3
    refine lv_bipush (v := 8) hx hb dX8_filed_15 (by decide) ?_
    refine lv_iload_n hx hb dX8_filed_17 rfl (lv_at hl 1 rfl) ?_
    refine lv_imul hx hb dX8_filed_18 ?_
    refine lv_iload_n hx hb dX8_filed_19 rfl (lv_at hl 2 rfl) ?_
    refine lv_iadd hx hb dX8_filed_20 ?_
    refine lv_topi (fun v4 ev4 => ?_)
    refine lv_istore (lv' := [(4, .int v4), (0, .ref g), (1, .int p0), (2, .int p1), (3, .int p2)]) hx hb dX8_filed_21 hl (by decide) rfl (fun ls hl => ?_)
    refine lv_aload_n hx hb dX8_filed_23 rfl (lv_at hl 1 rfl) ?_
    refine va_get (D := D) (ci := 8) (v := .ref g16) (C := RX8) (T := TX8) (N := 46) hx hb hts hiX8 hown hE.1 hP 0 rfl rfl 16 (by decide) (hts _ (List.mem_of_getElem? (i := 2) rfl)) (fun _ h9 => h9) rfl dX8_filed_24 ?_
    refine lv_iload hx hb dX8_filed_27 (lv_at hl 0 rfl) ?_
    refine va_iald hx hb hE.1 hP 1 0 rfl rfl (by rw [ev4]; exact vi_32' hc3) dX8_filed_29 ?_
    refine W.eq (g2 := F0 m 30 ls [.int 0]) rfl ?_
    refine lv_if_ne (tgt := 36) hx hb dX8_filed_30 (by decide) (fun c5 => absurd rfl c5) (fun _ => ?_)
    refine lv_bipush (v := (-2)) hx hb dX8_filed_33 (by decide) ?_
    refine k_iret (u := []) hx hb hr hlk (k_sub hP [] rfl) (hD.sub [] (by decide) rfl) hS dX8_filed_35 ?_
    exact ⟨fz_t hc3, rfl⟩
  · skip
    have hc3 : ¬ ((0 ≤ p0 ∧ p0 ≤ 3) ∧ 0 ≤ p1 ∧ p1 ≤ 7) := bz_0 hw2 c3
    refine lv_iconst (v := (-1)) hx hb dX8_filed_13 (by decide) ?_
    refine k_iret (u := []) hx hb hr hlk (k_sub hP [] rfl) (hD.sub [] (by decide) rfl) hS dX8_filed_14 ?_
    exact ⟨fz_f hc3, rfl⟩
