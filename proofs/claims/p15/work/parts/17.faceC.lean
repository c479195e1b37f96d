theorem dX7_policy_0 : decode cX7_policy 0 = .ok (.iload_n 1, 1) := by decide +kernel
theorem dX7_policy_1 : decode cX7_policy 1 = .ok (.iconst 1, 1) := by decide +kernel
theorem dX7_policy_2 : decode cX7_policy 2 = .ok (.ldc 46, 2) := by decide +kernel
theorem dX7_policy_4 : decode cX7_policy 4 = .ok (.invokestatic 47, 3) := by decide +kernel
theorem dX7_policy_7 : decode cX7_policy 7 = .ok (.ifCond .eq 58, 3) := by decide +kernel
theorem dX7_policy_10 : decode cX7_policy 10 = .ok (.iload_n 2, 1) := by decide +kernel
theorem dX7_policy_11 : decode cX7_policy 11 = .ok (.iconst 1, 1) := by decide +kernel
theorem dX7_policy_12 : decode cX7_policy 12 = .ok (.ldc 51, 2) := by decide +kernel
theorem dX7_policy_14 : decode cX7_policy 14 = .ok (.invokestatic 47, 3) := by decide +kernel
theorem dX7_policy_17 : decode cX7_policy 17 = .ok (.ifCond .eq 48, 3) := by decide +kernel
theorem dX7_policy_20 : decode cX7_policy 20 = .ok (.iload_n 3, 1) := by decide +kernel
theorem dX7_policy_21 : decode cX7_policy 21 = .ok (.iconst 0, 1) := by decide +kernel
theorem dX7_policy_22 : decode cX7_policy 22 = .ok (.ldc 52, 2) := by decide +kernel
theorem dX7_policy_24 : decode cX7_policy 24 = .ok (.invokestatic 47, 3) := by decide +kernel
theorem dX7_policy_27 : decode cX7_policy 27 = .ok (.ifCond .eq 38, 3) := by decide +kernel
theorem dX7_policy_30 : decode cX7_policy 30 = .ok (.iload 4, 2) := by decide +kernel
theorem dX7_policy_32 : decode cX7_policy 32 = .ok (.iconst 0, 1) := by decide +kernel
theorem dX7_policy_33 : decode cX7_policy 33 = .ok (.ldc 51, 2) := by decide +kernel
theorem dX7_policy_35 : decode cX7_policy 35 = .ok (.invokestatic 47, 3) := by decide +kernel
theorem dX7_policy_38 : decode cX7_policy 38 = .ok (.ifCond .eq 27, 3) := by decide +kernel
theorem dX7_policy_41 : decode cX7_policy 41 = .ok (.iload 5, 2) := by decide +kernel
theorem dX7_policy_43 : decode cX7_policy 43 = .ok (.iconst 1, 1) := by decide +kernel
theorem dX7_policy_44 : decode cX7_policy 44 = .ok (.sipush 255, 3) := by decide +kernel
theorem dX7_policy_47 : decode cX7_policy 47 = .ok (.invokestatic 47, 3) := by decide +kernel
theorem dX7_policy_50 : decode cX7_policy 50 = .ok (.ifCond .eq 15, 3) := by decide +kernel
theorem dX7_policy_53 : decode cX7_policy 53 = .ok (.aload_n 0, 1) := by decide +kernel
theorem dX7_policy_54 : decode cX7_policy 54 = .ok (.getfield 20, 3) := by decide +kernel
theorem dX7_policy_57 : decode cX7_policy 57 = .ok (.getfield 53, 3) := by decide +kernel
theorem dX7_policy_60 : decode cX7_policy 60 = .ok (.bipush 8, 2) := by decide +kernel
theorem dX7_policy_62 : decode cX7_policy 62 = .ok (.if_icmp .lt 5, 3) := by decide +kernel
theorem dX7_policy_65 : decode cX7_policy 65 = .ok (.iconst (-1), 1) := by decide +kernel
theorem dX7_policy_66 : decode cX7_policy 66 = .ok (.ireturn, 1) := by decide +kernel
theorem dX7_policy_67 : decode cX7_policy 67 = .ok (.aload_n 0, 1) := by decide +kernel
theorem dX7_policy_68 : decode cX7_policy 68 = .ok (.getfield 20, 3) := by decide +kernel
theorem dX7_policy_71 : decode cX7_policy 71 = .ok (.getfield 53, 3) := by decide +kernel
theorem dX7_policy_74 : decode cX7_policy 74 = .ok (.istore 6, 2) := by decide +kernel
theorem dX7_policy_76 : decode cX7_policy 76 = .ok (.aload_n 0, 1) := by decide +kernel
theorem dX7_policy_77 : decode cX7_policy 77 = .ok (.getfield 20, 3) := by decide +kernel
theorem dX7_policy_80 : decode cX7_policy 80 = .ok (.getfield 59, 3) := by decide +kernel
theorem dX7_policy_83 : decode cX7_policy 83 = .ok (.iload 6, 2) := by decide +kernel
theorem dX7_policy_85 : decode cX7_policy 85 = .ok (.iload_n 1, 1) := by decide +kernel
theorem dX7_policy_86 : decode cX7_policy 86 = .ok (.iastore, 1) := by decide +kernel
theorem dX7_policy_87 : decode cX7_policy 87 = .ok (.aload_n 0, 1) := by decide +kernel
theorem dX7_policy_88 : decode cX7_policy 88 = .ok (.getfield 20, 3) := by decide +kernel
theorem dX7_policy_91 : decode cX7_policy 91 = .ok (.getfield 62, 3) := by decide +kernel
theorem dX7_policy_94 : decode cX7_policy 94 = .ok (.iload 6, 2) := by decide +kernel
theorem dX7_policy_96 : decode cX7_policy 96 = .ok (.iload_n 2, 1) := by decide +kernel
theorem dX7_policy_97 : decode cX7_policy 97 = .ok (.iastore, 1) := by decide +kernel
theorem dX7_policy_98 : decode cX7_policy 98 = .ok (.aload_n 0, 1) := by decide +kernel
theorem dX7_policy_99 : decode cX7_policy 99 = .ok (.getfield 20, 3) := by decide +kernel
theorem dX7_policy_102 : decode cX7_policy 102 = .ok (.getfield 65, 3) := by decide +kernel
theorem dX7_policy_105 : decode cX7_policy 105 = .ok (.iload 6, 2) := by decide +kernel
theorem dX7_policy_107 : decode cX7_policy 107 = .ok (.iload_n 3, 1) := by decide +kernel
theorem dX7_policy_108 : decode cX7_policy 108 = .ok (.iastore, 1) := by decide +kernel
theorem dX7_policy_109 : decode cX7_policy 109 = .ok (.aload_n 0, 1) := by decide +kernel
theorem dX7_policy_110 : decode cX7_policy 110 = .ok (.getfield 20, 3) := by decide +kernel
theorem dX7_policy_113 : decode cX7_policy 113 = .ok (.getfield 68, 3) := by decide +kernel
theorem dX7_policy_116 : decode cX7_policy 116 = .ok (.iload 6, 2) := by decide +kernel
theorem dX7_policy_118 : decode cX7_policy 118 = .ok (.iload 4, 2) := by decide +kernel
theorem dX7_policy_120 : decode cX7_policy 120 = .ok (.iastore, 1) := by decide +kernel
theorem dX7_policy_121 : decode cX7_policy 121 = .ok (.aload_n 0, 1) := by decide +kernel
theorem dX7_policy_122 : decode cX7_policy 122 = .ok (.getfield 20, 3) := by decide +kernel
theorem dX7_policy_125 : decode cX7_policy 125 = .ok (.getfield 71, 3) := by decide +kernel
theorem dX7_policy_128 : decode cX7_policy 128 = .ok (.iload 6, 2) := by decide +kernel
theorem dX7_policy_130 : decode cX7_policy 130 = .ok (.iload 5, 2) := by decide +kernel
theorem dX7_policy_132 : decode cX7_policy 132 = .ok (.iastore, 1) := by decide +kernel
theorem dX7_policy_133 : decode cX7_policy 133 = .ok (.aload_n 0, 1) := by decide +kernel
theorem dX7_policy_134 : decode cX7_policy 134 = .ok (.getfield 20, 3) := by decide +kernel
theorem dX7_policy_137 : decode cX7_policy 137 = .ok (.iload 6, 2) := by decide +kernel
theorem dX7_policy_139 : decode cX7_policy 139 = .ok (.iconst 1, 1) := by decide +kernel
theorem dX7_policy_140 : decode cX7_policy 140 = .ok (.iadd, 1) := by decide +kernel
theorem dX7_policy_141 : decode cX7_policy 141 = .ok (.putfield 53, 3) := by decide +kernel
theorem dX7_policy_144 : decode cX7_policy 144 = .ok (.iload 6, 2) := by decide +kernel
theorem dX7_policy_146 : decode cX7_policy 146 = .ok (.ireturn, 1) := by decide +kernel
theorem gX7_policy_X7_within : GoodIn wtX7_policy (va_wsS RX7 47 yX7_within wtX7_within) := tb_good (tb_s0 wd_164 wd_165 wd_2 wd_166)
set_option maxHeartbeats 4000000 in
set_option maxRecDepth 100000 in
theorem m_X7_policy (l : Launch) (D : va_G) (cI cJ : ClassId) (sz : Nat) (x x0 x1 x2 x3 x4 x5 b0 b1 b2 b3 b4 b5 b6 b7 b8 b9 b10 b11 np nl : Nat) (bi14 p0 p1 p2 p3 p4 : Int32) (B0 B1 B2 B3 B4 : Nat → Int32) (hnp : np ≤ 8) : Met l yX7_policy wtX7_policy { frames := 1, cells := 0, slots := 0, locals := 22 } (cPc D cI cJ [.ref x, .int p0, .int p1, .int p2, .int p3, .int p4] sz [(oX7 x x0 x1 x2 x3 x4 x5), (oX0 x0 b0 b1 b2 b3 b4 b5 b6 b7 b8 b9 b10 b11 (nI np) (nI nl) bi14), (aIc cI b0 8 B0), (aIc cI b1 8 B1), (aIc cI b2 8 B2), (aIc cI b3 8 B3), (aIc cI b4 8 B4)]) (cQi D (fun r u => ((((1 ≤ p0 ∧ p0 ≤ 1000000) ∧ (1 ≤ p1 ∧ p1 ≤ 9000000) ∧ (0 ≤ p2 ∧ p2 ≤ 99999) ∧ (0 ≤ p3 ∧ p3 ≤ 9000000) ∧ 1 ≤ p4 ∧ p4 ≤ 255) ∧ np < 8) ∧ r = nI np ∧ u = [(oX7 x x0 x1 x2 x3 x4 x5), (oX0 x0 b0 b1 b2 b3 b4 b5 b6 b7 b8 b9 b10 b11 (nI (np + 1)) (nI nl) bi14), (aIc cI b0 8 (upd B0 (Int32.toNatClampNeg (nI np)) p0)), (aIc cI b1 8 (upd B1 (Int32.toNatClampNeg (nI np)) p1)), (aIc cI b2 8 (upd B2 (Int32.toNatClampNeg (nI np)) p2)), (aIc cI b3 8 (upd B3 (Int32.toNatClampNeg (nI np)) p3)), (aIc cI b4 8 (upd B4 (Int32.toNatClampNeg (nI np)) p4))]) ∨ ((¬ (((1 ≤ p0 ∧ p0 ≤ 1000000) ∧ (1 ≤ p1 ∧ p1 ≤ 9000000) ∧ (0 ≤ p2 ∧ p2 ≤ 99999) ∧ (0 ≤ p3 ∧ p3 ≤ 9000000) ∧ 1 ≤ p4 ∧ p4 ≤ 255) ∧ np < 8)) ∧ r = -1 ∧ u = [(oX7 x x0 x1 x2 x3 x4 x5), (oX0 x0 b0 b1 b2 b3 b4 b5 b6 b7 b8 b9 b10 b11 (nI np) (nI nl) bi14), (aIc cI b0 8 B0), (aIc cI b1 8 B1), (aIc cI b2 8 B2), (aIc cI b3 8 B3), (aIc cI b4 8 B4)])) (va_A [(oX7 x x0 x1 x2 x3 x4 x5), (oX0 x0 b0 b1 b2 b3 b4 b5 b6 b7 b8 b9 b10 b11 (nI np) (nI nl) bi14), (aIc cI b0 8 B0), (aIc cI b1 8 B1), (aIc cI b2 8 B2), (aIc cI b3 8 B3), (aIc cI b4 8 B4)] sz)) 0 0 (va_A [(oX7 x x0 x1 x2 x3 x4 x5), (oX0 x0 b0 b1 b2 b3 b4 b5 b6 b7 b8 b9 b10 b11 (nI np) (nI nl) bi14), (aIc cI b0 8 B0), (aIc cI b1 8 B1), (aIc cI b2 8 B2), (aIc cI b3 8 B3), (aIc cI b4 8 B4)] sz) := by
  refine k_ofW (Qc := cQi D (fun r u => ((((1 ≤ p0 ∧ p0 ≤ 1000000) ∧ (1 ≤ p1 ∧ p1 ≤ 9000000) ∧ (0 ≤ p2 ∧ p2 ≤ 99999) ∧ (0 ≤ p3 ∧ p3 ≤ 9000000) ∧ 1 ≤ p4 ∧ p4 ≤ 255) ∧ np < 8) ∧ r = nI np ∧ u = [(oX7 x x0 x1 x2 x3 x4 x5), (oX0 x0 b0 b1 b2 b3 b4 b5 b6 b7 b8 b9 b10 b11 (nI (np + 1)) (nI nl) bi14), (aIc cI b0 8 (upd B0 (Int32.toNatClampNeg (nI np)) p0)), (aIc cI b1 8 (upd B1 (Int32.toNatClampNeg (nI np)) p1)), (aIc cI b2 8 (upd B2 (Int32.toNatClampNeg (nI np)) p2)), (aIc cI b3 8 (upd B3 (Int32.toNatClampNeg (nI np)) p3)), (aIc cI b4 8 (upd B4 (Int32.toNatClampNeg (nI np)) p4))]) ∨ ((¬ (((1 ≤ p0 ∧ p0 ≤ 1000000) ∧ (1 ≤ p1 ∧ p1 ≤ 9000000) ∧ (0 ≤ p2 ∧ p2 ≤ 99999) ∧ (0 ≤ p3 ∧ p3 ≤ 9000000) ∧ 1 ≤ p4 ∧ p4 ≤ 255) ∧ np < 8)) ∧ r = -1 ∧ u = [(oX7 x x0 x1 x2 x3 x4 x5), (oX0 x0 b0 b1 b2 b3 b4 b5 b6 b7 b8 b9 b10 b11 (nI np) (nI nl) bi14), (aIc cI b0 8 B0), (aIc cI b1 8 B1), (aIc cI b2 8 B2), (aIc cI b3 8 B3), (aIc cI b4 8 B4)]))) (by decide) rfl (Nat.le_of_ble_eq_true rfl) ?_
  intro p e s m below meth c A ls hx hb hr hml hts hown hlk hnm hsz hE hP hD hS hA hl
  have hown : s.vm.findClass RX7 = some m.cls := hown
  have hiX7 : ∀ w ∈ u_ws RX7 TX7 6, w ∈ wtX7_policy := fun w h => List.mem_cons_of_mem _ (iuX7 w h)
  have hiX0 : ∀ w ∈ u_ws RX0 TX0 15, w ∈ wtX7_policy := fun w h => List.mem_cons_of_mem _ (iuX0 w h)
  have hl : lv_has ls 7 [(0, .ref x), (1, .int p0), (2, .int p1), (3, .int p2), (4, .int p3), (5, .int p4)] := hl
  refine lv_iload_n hx hb dX7_policy_0 rfl (lv_at hl 1 rfl) ?_
  refine lv_iconst (v := 1) hx hb dX7_policy_1 (by decide) ?_
  refine lv_ldc (v := 1000000) hx hb hown (hts _ (List.mem_cons_of_mem _ wd_155)) dX7_policy_2 ?_
  refine k_iS (va_runS (As := [.int p0, .int 1, .int 1000000]) (rest := []) ⟨hx, hb, hml, hown, hts⟩ (m_X7_within l D cI cJ (s.heap).size p0 1 1000000) (va_cwS 3 hts gX7_policy_X7_within rfl rfl rfl (by decide +kernel) ⟨Nat.le_of_ble_eq_true rfl, Nat.le_of_ble_eq_true rfl⟩) (k_pre hE hP hD [] (by decide +kernel) rfl) rfl rfl hl.1 rfl (lv_room (Nat.le_of_ble_eq_true rfl)) dX7_policy_4 ⟨Nat.le_of_ble_eq_true rfl, Nat.le_of_ble_eq_true rfl⟩) hP hD hS hA [] rfl (fun _ _ h9 => h9.2) (fun r1 H locs hw2 hP hD hS => ?_)
  obtain ⟨hw2, -⟩ := hw2
  refine lv_if_eq (tgt := 65) hx hb dX7_policy_7 (by decide) (fun c3 => ?_) (fun c3 => ?_)
  · skip
    have hc3 : ¬ (1 ≤ p0 ∧ p0 ≤ 1000000) := bz_0 hw2 c3
    refine lv_iconst (v := (-1)) hx hb dX7_policy_65 (by decide) ?_
    refine k_iret (u := [(oX7 x x0 x1 x2 x3 x4 x5), (oX0 x0 b0 b1 b2 b3 b4 b5 b6 b7 b8 b9 b10 b11 (nI np) (nI nl) bi14), (aIc cI b0 8 B0), (aIc cI b1 8 B1), (aIc cI b2 8 B2), (aIc cI b3 8 B3), (aIc cI b4 8 B4)]) hx hb hr hlk hP hD hS dX7_policy_66 ?_
    exact Or.inr ⟨(fun q => hc3 q.1.1), rfl, rfl⟩
  · skip
    have hc3 : 1 ≤ p0 ∧ p0 ≤ 1000000 := bz_1 hw2 c3
    refine lv_iload_n hx hb dX7_policy_10 rfl (lv_at hl 2 rfl) ?_
    refine lv_iconst (v := 1) hx hb dX7_policy_11 (by decide) ?_
    refine lv_ldc (v := 9000000) hx hb hown (hts _ (List.mem_cons_of_mem _ wd_156)) dX7_policy_12 ?_
    refine k_iS (va_runS (As := [.int p1, .int 1, .int 9000000]) (rest := []) ⟨hx, hb, hml, hown, hts⟩ (m_X7_within l D cI cJ H.size p1 1 9000000) (va_cwS 3 hts gX7_policy_X7_within rfl rfl rfl (by decide +kernel) ⟨Nat.le_of_ble_eq_true rfl, Nat.le_of_ble_eq_true rfl⟩) (k_pre hE hP hD [] (by decide +kernel) rfl) rfl rfl hl.1 rfl (lv_room (Nat.le_of_ble_eq_true rfl)) dX7_policy_14 ⟨Nat.le_of_ble_eq_true rfl, Nat.le_of_ble_eq_true rfl⟩) hP hD hS hA [] rfl (fun _ _ h9 => h9.2) (fun r4 H locs hw5 hP hD hS => ?_)
    obtain ⟨hw5, -⟩ := hw5
    refine lv_if_eq (tgt := 65) hx hb dX7_policy_17 (by decide) (fun c6 => ?_) (fun c6 => ?_)
    · skip
      have hc6 : ¬ (1 ≤ p1 ∧ p1 ≤ 9000000) := bz_0 hw5 c6
      refine lv_iconst (v := (-1)) hx hb dX7_policy_65 (by decide) ?_
      refine k_iret (u := [(oX7 x x0 x1 x2 x3 x4 x5), (oX0 x0 b0 b1 b2 b3 b4 b5 b6 b7 b8 b9 b10 b11 (nI np) (nI nl) bi14), (aIc cI b0 8 B0), (aIc cI b1 8 B1), (aIc cI b2 8 B2), (aIc cI b3 8 B3), (aIc cI b4 8 B4)]) hx hb hr hlk hP hD hS dX7_policy_66 ?_
      exact Or.inr ⟨(fun q => hc6 q.1.2.1), rfl, rfl⟩
    · skip
      have hc6 : 1 ≤ p1 ∧ p1 ≤ 9000000 := bz_1 hw5 c6
      refine lv_iload_n hx hb dX7_policy_20 rfl (lv_at hl 3 rfl) ?_
      refine lv_iconst (v := 0) hx hb dX7_policy_21 (by decide) ?_
      refine lv_ldc (v := 99999) hx hb hown (hts _ (List.mem_cons_of_mem _ wd_157)) dX7_policy_22 ?_
      refine k_iS (va_runS (As := [.int p2, .int 0, .int 99999]) (rest := []) ⟨hx, hb, hml, hown, hts⟩ (m_X7_within l D cI cJ H.size p2 0 99999) (va_cwS 3 hts gX7_policy_X7_within rfl rfl rfl (by decide +kernel) ⟨Nat.le_of_ble_eq_true rfl, Nat.le_of_ble_eq_true rfl⟩) (k_pre hE hP hD [] (by decide +kernel) rfl) rfl rfl hl.1 rfl (lv_room (Nat.le_of_ble_eq_true rfl)) dX7_policy_24 ⟨Nat.le_of_ble_eq_true rfl, Nat.le_of_ble_eq_true rfl⟩) hP hD hS hA [] rfl (fun _ _ h9 => h9.2) (fun r7 H locs hw8 hP hD hS => ?_)
      obtain ⟨hw8, -⟩ := hw8
      refine lv_if_eq (tgt := 65) hx hb dX7_policy_27 (by decide) (fun c9 => ?_) (fun c9 => ?_)
      · skip
        have hc9 : ¬ (0 ≤ p2 ∧ p2 ≤ 99999) := bz_0 hw8 c9
        refine lv_iconst (v := (-1)) hx hb dX7_policy_65 (by decide) ?_
        refine k_iret (u := [(oX7 x x0 x1 x2 x3 x4 x5), (oX0 x0 b0 b1 b2 b3 b4 b5 b6 b7 b8 b9 b10 b11 (nI np) (nI nl) bi14), (aIc cI b0 8 B0), (aIc cI b1 8 B1), (aIc cI b2 8 B2), (aIc cI b3 8 B3), (aIc cI b4 8 B4)]) hx hb hr hlk hP hD hS dX7_policy_66 ?_
        exact Or.inr ⟨(fun q => hc9 q.1.2.2.1), rfl, rfl⟩
      · skip
        have hc9 : 0 ≤ p2 ∧ p2 ≤ 99999 := bz_1 hw8 c9
        refine lv_iload hx hb dX7_policy_30 (lv_at hl 4 rfl) ?_
        refine lv_iconst (v := 0) hx hb dX7_policy_32 (by decide) ?_
        refine lv_ldc (v := 9000000) hx hb hown (hts _ (List.mem_cons_of_mem _ wd_156)) dX7_policy_33 ?_
        refine k_iS (va_runS (As := [.int p3, .int 0, .int 9000000]) (rest := []) ⟨hx, hb, hml, hown, hts⟩ (m_X7_within l D cI cJ H.size p3 0 9000000) (va_cwS 3 hts gX7_policy_X7_within rfl rfl rfl (by decide +kernel) ⟨Nat.le_of_ble_eq_true rfl, Nat.le_of_ble_eq_true rfl⟩) (k_pre hE hP hD [] (by decide +kernel) rfl) rfl rfl hl.1 rfl (lv_room (Nat.le_of_ble_eq_true rfl)) dX7_policy_35 ⟨Nat.le_of_ble_eq_true rfl, Nat.le_of_ble_eq_true rfl⟩) hP hD hS hA [] rfl (fun _ _ h9 => h9.2) (fun r10 H locs hw11 hP hD hS => ?_)
        obtain ⟨hw11, -⟩ := hw11
        refine lv_if_eq (tgt := 65) hx hb dX7_policy_38 (by decide) (fun c12 => ?_) (fun c12 => ?_)
        · skip
          have hc12 : ¬ (0 ≤ p3 ∧ p3 ≤ 9000000) := bz_0 hw11 c12
          refine lv_iconst (v := (-1)) hx hb dX7_policy_65 (by decide) ?_
          refine k_iret (u := [(oX7 x x0 x1 x2 x3 x4 x5), (oX0 x0 b0 b1 b2 b3 b4 b5 b6 b7 b8 b9 b10 b11 (nI np) (nI nl) bi14), (aIc cI b0 8 B0), (aIc cI b1 8 B1), (aIc cI b2 8 B2), (aIc cI b3 8 B3), (aIc cI b4 8 B4)]) hx hb hr hlk hP hD hS dX7_policy_66 ?_
          exact Or.inr ⟨(fun q => hc12 q.1.2.2.2.1), rfl, rfl⟩
        · skip
          have hc12 : 0 ≤ p3 ∧ p3 ≤ 9000000 := bz_1 hw11 c12
          refine lv_iload hx hb dX7_policy_41 (lv_at hl 5 rfl) ?_
          refine lv_iconst (v := 1) hx hb dX7_policy_43 (by decide) ?_
          refine lv_sipush (v := 255) hx hb dX7_policy_44 (by decide) ?_
          refine k_iS (va_runS (As := [.int p4, .int 1, .int 255]) (rest := []) ⟨hx, hb, hml, hown, hts⟩ (m_X7_within l D cI cJ H.size p4 1 255) (va_cwS 3 hts gX7_policy_X7_within rfl rfl rfl (by decide +kernel) ⟨Nat.le_of_ble_eq_true rfl, Nat.le_of_ble_eq_true rfl⟩) (k_pre hE hP hD [] (by decide +kernel) rfl) rfl rfl hl.1 rfl (lv_room (Nat.le_of_ble_eq_true rfl)) dX7_policy_47 ⟨Nat.le_of_ble_eq_true rfl, Nat.le_of_ble_eq_true rfl⟩) hP hD hS hA [] rfl (fun _ _ h9 => h9.2) (fun r13 H locs hw14 hP hD hS => ?_)
          obtain ⟨hw14, -⟩ := hw14
          refine lv_if_eq (tgt := 65) hx hb dX7_policy_50 (by decide) (fun c15 => ?_) (fun c15 => ?_)
          · skip
            have hc15 : ¬ (1 ≤ p4 ∧ p4 ≤ 255) := bz_0 hw14 c15
            refine lv_iconst (v := (-1)) hx hb dX7_policy_65 (by decide) ?_
            refine k_iret (u := [(oX7 x x0 x1 x2 x3 x4 x5), (oX0 x0 b0 b1 b2 b3 b4 b5 b6 b7 b8 b9 b10 b11 (nI np) (nI nl) bi14), (aIc cI b0 8 B0), (aIc cI b1 8 B1), (aIc cI b2 8 B2), (aIc cI b3 8 B3), (aIc cI b4 8 B4)]) hx hb hr hlk hP hD hS dX7_policy_66 ?_
            exact Or.inr ⟨(fun q => hc15 q.1.2.2.2.2), rfl, rfl⟩
          · skip
            have hc15 : 1 ≤ p4 ∧ p4 ≤ 255 := bz_1 hw14 c15
            refine lv_aload_n hx hb dX7_policy_53 rfl (lv_at hl 0 rfl) ?_
            refine va_get (D := D) (ci := 7) (v := .ref x0) (C := RX7) (T := TX7) (N := 6) hx hb hts hiX7 hown hE.1 hP 0 rfl rfl 0 (by decide) (hts _ (List.mem_cons_of_mem _ wd_19)) (fun _ h9 => h9) rfl dX7_policy_54 ?_
            refine va_get (D := D) (ci := 0) (v := .int (nI np)) (C := RX0) (T := TX0) (N := 15) hx hb hts hiX0 hown hE.1 hP 1 rfl rfl 12 (by decide) (hts _ (List.mem_cons_of_mem _ wd_158)) (fun _ h9 => h9) rfl dX7_policy_57 ?_
            refine lv_bipush (v := 8) hx hb dX7_policy_60 (by decide) ?_
            refine lv_icmp_lt (tgt := 67) hx hb dX7_policy_62 (by decide) (fun c16 => ?_) (fun c16 => ?_)
            · skip
              have nc16 : np < 8 := (nI_ltI (a := np) (b := 8) (by omega) (by omega)).mp c16
              refine lv_aload_n hx hb dX7_policy_67 rfl (lv_at hl 0 rfl) ?_
              refine va_get (D := D) (ci := 7) (v := .ref x0) (C := RX7) (T := TX7) (N := 6) hx hb hts hiX7 hown hE.1 hP 0 rfl rfl 0 (by decide) (hts _ (List.mem_cons_of_mem _ wd_19)) (fun _ h9 => h9) rfl dX7_policy_68 ?_
              refine va_get (D := D) (ci := 0) (v := .int (nI np)) (C := RX0) (T := TX0) (N := 15) hx hb hts hiX0 hown hE.1 hP 1 rfl rfl 12 (by decide) (hts _ (List.mem_cons_of_mem _ wd_158)) (fun _ h9 => h9) rfl dX7_policy_71 ?_
              refine lv_istore (lv' := [(6, .int (nI np)), (0, .ref x), (1, .int p0), (2, .int p1), (3, .int p2), (4, .int p3), (5, .int p4)]) hx hb dX7_policy_74 hl (by decide) rfl (fun ls hl => ?_)
              refine lv_aload_n hx hb dX7_policy_76 rfl (lv_at hl 1 rfl) ?_
              refine va_get (D := D) (ci := 7) (v := .ref x0) (C := RX7) (T := TX7) (N := 6) hx hb hts hiX7 hown hE.1 hP 0 rfl rfl 0 (by decide) (hts _ (List.mem_cons_of_mem _ wd_19)) (fun _ h9 => h9) rfl dX7_policy_77 ?_
              refine va_get (D := D) (ci := 0) (v := .ref b0) (C := RX0) (T := TX0) (N := 15) hx hb hts hiX0 hown hE.1 hP 1 rfl rfl 0 (by decide) (hts _ (List.mem_cons_of_mem _ wd_159)) (fun _ h9 => h9) rfl dX7_policy_80 ?_
              refine lv_iload hx hb dX7_policy_83 (lv_at hl 0 rfl) ?_
              refine lv_iload_n hx hb dX7_policy_85 rfl (lv_at hl 2 rfl) ?_
              refine va_iast hx hb hE.1 hP hD hS 2 0 rfl rfl (vp_in_nI (n := np) (by omega) (by decide)) dX7_policy_86 (fun H locs hP hD hS => ?_)
              refine k_re (w := [(oX7 x x0 x1 x2 x3 x4 x5), (oX0 x0 b0 b1 b2 b3 b4 b5 b6 b7 b8 b9 b10 b11 (nI np) (nI nl) bi14), (aIc cI b0 8 (upd B0 (Int32.toNatClampNeg (nI np)) p0)), (aIc cI b1 8 B1), (aIc cI b2 8 B2), (aIc cI b3 8 B3), (aIc cI b4 8 B4)]) hP hD (fun hP hD => ?_)
              refine lv_aload_n hx hb dX7_policy_87 rfl (lv_at hl 1 rfl) ?_
              refine va_get (D := D) (ci := 7) (v := .ref x0) (C := RX7) (T := TX7) (N := 6) hx hb hts hiX7 hown hE.1 hP 0 rfl rfl 0 (by decide) (hts _ (List.mem_cons_of_mem _ wd_19)) (fun _ h9 => h9) rfl dX7_policy_88 ?_
              refine va_get (D := D) (ci := 0) (v := .ref b1) (C := RX0) (T := TX0) (N := 15) hx hb hts hiX0 hown hE.1 hP 1 rfl rfl 1 (by decide) (hts _ (List.mem_cons_of_mem _ wd_160)) (fun _ h9 => h9) rfl dX7_policy_91 ?_
              refine lv_iload hx hb dX7_policy_94 (lv_at hl 0 rfl) ?_
              refine lv_iload_n hx hb dX7_policy_96 rfl (lv_at hl 3 rfl) ?_
              refine va_iast hx hb hE.1 hP hD hS 3 0 rfl rfl (vp_in_nI (n := np) (by omega) (by decide)) dX7_policy_97 (fun H locs hP hD hS => ?_)
              refine k_re (w := [(oX7 x x0 x1 x2 x3 x4 x5), (oX0 x0 b0 b1 b2 b3 b4 b5 b6 b7 b8 b9 b10 b11 (nI np) (nI nl) bi14), (aIc cI b0 8 (upd B0 (Int32.toNatClampNeg (nI np)) p0)), (aIc cI b1 8 (upd B1 (Int32.toNatClampNeg (nI np)) p1)), (aIc cI b2 8 B2), (aIc cI b3 8 B3), (aIc cI b4 8 B4)]) hP hD (fun hP hD => ?_)
              refine lv_aload_n hx hb dX7_policy_98 rfl (lv_at hl 1 rfl) ?_
              refine va_get (D := D) (ci := 7) (v := .ref x0) (C := RX7) (T := TX7) (N := 6) hx hb hts hiX7 hown hE.1 hP 0 rfl rfl 0 (by decide) (hts _ (List.mem_cons_of_mem _ wd_19)) (fun _ h9 => h9) rfl dX7_policy_99 ?_
              refine va_get (D := D) (ci := 0) (v := .ref b2) (C := RX0) (T := TX0) (N := 15) hx hb hts hiX0 hown hE.1 hP 1 rfl rfl 2 (by decide) (hts _ (List.mem_cons_of_mem _ wd_161)) (fun _ h9 => h9) rfl dX7_policy_102 ?_
              refine lv_iload hx hb dX7_policy_105 (lv_at hl 0 rfl) ?_
              refine lv_iload_n hx hb dX7_policy_107 rfl (lv_at hl 4 rfl) ?_
              refine va_iast hx hb hE.1 hP hD hS 4 0 rfl rfl (vp_in_nI (n := np) (by omega) (by decide)) dX7_policy_108 (fun H locs hP hD hS => ?_)
              refine k_re (w := [(oX7 x x0 x1 x2 x3 x4 x5), (oX0 x0 b0 b1 b2 b3 b4 b5 b6 b7 b8 b9 b10 b11 (nI np) (nI nl) bi14), (aIc cI b0 8 (upd B0 (Int32.toNatClampNeg (nI np)) p0)), (aIc cI b1 8 (upd B1 (Int32.toNatClampNeg (nI np)) p1)), (aIc cI b2 8 (upd B2 (Int32.toNatClampNeg (nI np)) p2)), (aIc cI b3 8 B3), (aIc cI b4 8 B4)]) hP hD (fun hP hD => ?_)
              refine lv_aload_n hx hb dX7_policy_109 rfl (lv_at hl 1 rfl) ?_
              refine va_get (D := D) (ci := 7) (v := .ref x0) (C := RX7) (T := TX7) (N := 6) hx hb hts hiX7 hown hE.1 hP 0 rfl rfl 0 (by decide) (hts _ (List.mem_cons_of_mem _ wd_19)) (fun _ h9 => h9) rfl dX7_policy_110 ?_
              refine va_get (D := D) (ci := 0) (v := .ref b3) (C := RX0) (T := TX0) (N := 15) hx hb hts hiX0 hown hE.1 hP 1 rfl rfl 3 (by decide) (hts _ (List.mem_cons_of_mem _ wd_162)) (fun _ h9 => h9) rfl dX7_policy_113 ?_
              refine lv_iload hx hb dX7_policy_116 (lv_at hl 0 rfl) ?_
              refine lv_iload hx hb dX7_policy_118 (lv_at hl 5 rfl) ?_
              refine va_iast hx hb hE.1 hP hD hS 5 0 rfl rfl (vp_in_nI (n := np) (by omega) (by decide)) dX7_policy_120 (fun H locs hP hD hS => ?_)
              refine k_re (w := [(oX7 x x0 x1 x2 x3 x4 x5), (oX0 x0 b0 b1 b2 b3 b4 b5 b6 b7 b8 b9 b10 b11 (nI np) (nI nl) bi14), (aIc cI b0 8 (upd B0 (Int32.toNatClampNeg (nI np)) p0)), (aIc cI b1 8 (upd B1 (Int32.toNatClampNeg (nI np)) p1)), (aIc cI b2 8 (upd B2 (Int32.toNatClampNeg (nI np)) p2)), (aIc cI b3 8 (upd B3 (Int32.toNatClampNeg (nI np)) p3)), (aIc cI b4 8 B4)]) hP hD (fun hP hD => ?_)
              refine lv_aload_n hx hb dX7_policy_121 rfl (lv_at hl 1 rfl) ?_
              refine va_get (D := D) (ci := 7) (v := .ref x0) (C := RX7) (T := TX7) (N := 6) hx hb hts hiX7 hown hE.1 hP 0 rfl rfl 0 (by decide) (hts _ (List.mem_cons_of_mem _ wd_19)) (fun _ h9 => h9) rfl dX7_policy_122 ?_
              refine va_get (D := D) (ci := 0) (v := .ref b4) (C := RX0) (T := TX0) (N := 15) hx hb hts hiX0 hown hE.1 hP 1 rfl rfl 4 (by decide) (hts _ (List.mem_cons_of_mem _ wd_163)) (fun _ h9 => h9) rfl dX7_policy_125 ?_
              refine lv_iload hx hb dX7_policy_128 (lv_at hl 0 rfl) ?_
              refine lv_iload hx hb dX7_policy_130 (lv_at hl 6 rfl) ?_
              refine va_iast hx hb hE.1 hP hD hS 6 0 rfl rfl (vp_in_nI (n := np) (by omega) (by decide)) dX7_policy_132 (fun H locs hP hD hS => ?_)
              refine k_re (w := [(oX7 x x0 x1 x2 x3 x4 x5), (oX0 x0 b0 b1 b2 b3 b4 b5 b6 b7 b8 b9 b10 b11 (nI np) (nI nl) bi14), (aIc cI b0 8 (upd B0 (Int32.toNatClampNeg (nI np)) p0)), (aIc cI b1 8 (upd B1 (Int32.toNatClampNeg (nI np)) p1)), (aIc cI b2 8 (upd B2 (Int32.toNatClampNeg (nI np)) p2)), (aIc cI b3 8 (upd B3 (Int32.toNatClampNeg (nI np)) p3)), (aIc cI b4 8 (upd B4 (Int32.toNatClampNeg (nI np)) p4))]) hP hD (fun hP hD => ?_)
              refine lv_aload_n hx hb dX7_policy_133 rfl (lv_at hl 1 rfl) ?_
              refine va_get (D := D) (ci := 7) (v := .ref x0) (C := RX7) (T := TX7) (N := 6) hx hb hts hiX7 hown hE.1 hP 0 rfl rfl 0 (by decide) (hts _ (List.mem_cons_of_mem _ wd_19)) (fun _ h9 => h9) rfl dX7_policy_134 ?_
              refine lv_iload hx hb dX7_policy_137 (lv_at hl 0 rfl) ?_
              refine lv_iconst (v := 1) hx hb dX7_policy_139 (by decide) ?_
              refine lv_iadd hx hb dX7_policy_140 ?_
              refine lv_topi (fun v17 ev17 => ?_)
              obtain rfl : v17 = (nI (np + 1)) := by rw [ev17]; exact nI_add np 1
              refine va_put (D := D) (ci := 0) (v := .int (nI (np + 1))) (ty := .int) (C := RX0) (T := TX0) (N := 15) hx hb hts hiX0 tyX0 tyX0_ok nmX0 hown hE.1 hP hD hS 1 rfl rfl 12 (by decide) (hts _ (List.mem_cons_of_mem _ wd_158)) (fun _ h9 => h9) rfl (by decide +kernel) rfl rfl (Nat.le_of_ble_eq_true rfl) dX7_policy_141 (fun H locs hP hD hS => ?_)
              refine k_re (w := [(oX7 x x0 x1 x2 x3 x4 x5), (oX0 x0 b0 b1 b2 b3 b4 b5 b6 b7 b8 b9 b10 b11 (nI (np + 1)) (nI nl) bi14), (aIc cI b0 8 (upd B0 (Int32.toNatClampNeg (nI np)) p0)), (aIc cI b1 8 (upd B1 (Int32.toNatClampNeg (nI np)) p1)), (aIc cI b2 8 (upd B2 (Int32.toNatClampNeg (nI np)) p2)), (aIc cI b3 8 (upd B3 (Int32.toNatClampNeg (nI np)) p3)), (aIc cI b4 8 (upd B4 (Int32.toNatClampNeg (nI np)) p4))]) hP hD (fun hP hD => ?_)
              refine lv_iload hx hb dX7_policy_144 (lv_at hl 0 rfl) ?_
              refine k_iret (u := [(oX7 x x0 x1 x2 x3 x4 x5), (oX0 x0 b0 b1 b2 b3 b4 b5 b6 b7 b8 b9 b10 b11 (nI (np + 1)) (nI nl) bi14), (aIc cI b0 8 (upd B0 (Int32.toNatClampNeg (nI np)) p0)), (aIc cI b1 8 (upd B1 (Int32.toNatClampNeg (nI np)) p1)), (aIc cI b2 8 (upd B2 (Int32.toNatClampNeg (nI np)) p2)), (aIc cI b3 8 (upd B3 (Int32.toNatClampNeg (nI np)) p3)), (aIc cI b4 8 (upd B4 (Int32.toNatClampNeg (nI np)) p4))]) hx hb hr hlk hP hD hS dX7_policy_146 ?_
              exact Or.inl ⟨⟨⟨hc3, hc6, hc9, hc12, hc15⟩, nc16⟩, rfl, rfl⟩
            · skip
              have nc16 : ¬ np < 8 := fun q9 => c16 ((nI_ltI (a := np) (b := 8) (by omega) (by omega)).mpr q9)
              refine lv_iconst (v := (-1)) hx hb dX7_policy_65 (by decide) ?_
              refine k_iret (u := [(oX7 x x0 x1 x2 x3 x4 x5), (oX0 x0 b0 b1 b2 b3 b4 b5 b6 b7 b8 b9 b10 b11 (nI np) (nI nl) bi14), (aIc cI b0 8 B0), (aIc cI b1 8 B1), (aIc cI b2 8 B2), (aIc cI b3 8 B3), (aIc cI b4 8 B4)]) hx hb hr hlk hP hD hS dX7_policy_66 ?_
              exact Or.inr ⟨(fun q => nc16 q.2), rfl, rfl⟩
theorem dX7_clause_0 : decode cX7_clause 0 = .ok (.aload_n 0, 1) := by decide +kernel
theorem dX7_clause_1 : decode cX7_clause 1 = .ok (.iload_n 1, 1) := by decide +kernel
theorem dX7_clause_2 : decode cX7_clause 2 = .ok (.invokevirtual 74, 3) := by decide +kernel
theorem dX7_clause_5 : decode cX7_clause 5 = .ok (.ifCond .eq 21, 3) := by decide +kernel
theorem dX7_clause_8 : decode cX7_clause 8 = .ok (.iload_n 2, 1) := by decide +kernel
theorem dX7_clause_9 : decode cX7_clause 9 = .ok (.invokestatic 78, 3) := by decide +kernel
theorem dX7_clause_12 : decode cX7_clause 12 = .ok (.ifCond .eq 14, 3) := by decide +kernel
theorem dX7_clause_15 : decode cX7_clause 15 = .ok (.iload_n 3, 1) := by decide +kernel
theorem dX7_clause_16 : decode cX7_clause 16 = .ok (.iconst 0, 1) := by decide +kernel
theorem dX7_clause_17 : decode cX7_clause 17 = .ok (.sipush 255, 3) := by decide +kernel
theorem dX7_clause_20 : decode cX7_clause 20 = .ok (.invokestatic 47, 3) := by decide +kernel
theorem dX7_clause_23 : decode cX7_clause 23 = .ok (.ifCond .ne 5, 3) := by decide +kernel
theorem dX7_clause_26 : decode cX7_clause 26 = .ok (.iconst 0, 1) := by decide +kernel
theorem dX7_clause_27 : decode cX7_clause 27 = .ok (.ireturn, 1) := by decide +kernel
theorem dX7_clause_28 : decode cX7_clause 28 = .ok (.aload_n 0, 1) := by decide +kernel
theorem dX7_clause_29 : decode cX7_clause 29 = .ok (.getfield 20, 3) := by decide +kernel
theorem dX7_clause_32 : decode cX7_clause 32 = .ok (.getfield 81, 3) := by decide +kernel
theorem dX7_clause_35 : decode cX7_clause 35 = .ok (.iload_n 1, 1) := by decide +kernel
theorem dX7_clause_36 : decode cX7_clause 36 = .ok (.iaload, 1) := by decide +kernel
theorem dX7_clause_37 : decode cX7_clause 37 = .ok (.iload_n 2, 1) := by decide +kernel
theorem dX7_clause_38 : decode cX7_clause 38 = .ok (.if_icmp .ne 18, 3) := by decide +kernel
theorem dX7_clause_41 : decode cX7_clause 41 = .ok (.aload_n 0, 1) := by decide +kernel
theorem dX7_clause_42 : decode cX7_clause 42 = .ok (.getfield 20, 3) := by decide +kernel
theorem dX7_clause_45 : decode cX7_clause 45 = .ok (.getfield 84, 3) := by decide +kernel
theorem dX7_clause_48 : decode cX7_clause 48 = .ok (.iload_n 1, 1) := by decide +kernel
theorem dX7_clause_49 : decode cX7_clause 49 = .ok (.iaload, 1) := by decide +kernel
theorem dX7_clause_50 : decode cX7_clause 50 = .ok (.iload_n 3, 1) := by decide +kernel
theorem dX7_clause_51 : decode cX7_clause 51 = .ok (.if_icmp .ne 5, 3) := by decide +kernel
theorem dX7_clause_54 : decode cX7_clause 54 = .ok (.iconst 0, 1) := by decide +kernel
theorem dX7_clause_55 : decode cX7_clause 55 = .ok (.ireturn, 1) := by decide +kernel
theorem dX7_clause_56 : decode cX7_clause 56 = .ok (.aload_n 0, 1) := by decide +kernel
theorem dX7_clause_57 : decode cX7_clause 57 = .ok (.getfield 20, 3) := by decide +kernel
theorem dX7_clause_60 : decode cX7_clause 60 = .ok (.getfield 81, 3) := by decide +kernel
theorem dX7_clause_63 : decode cX7_clause 63 = .ok (.iload_n 1, 1) := by decide +kernel
theorem dX7_clause_64 : decode cX7_clause 64 = .ok (.iload_n 2, 1) := by decide +kernel
theorem dX7_clause_65 : decode cX7_clause 65 = .ok (.iastore, 1) := by decide +kernel
theorem dX7_clause_66 : decode cX7_clause 66 = .ok (.aload_n 0, 1) := by decide +kernel
theorem dX7_clause_67 : decode cX7_clause 67 = .ok (.getfield 20, 3) := by decide +kernel
theorem dX7_clause_70 : decode cX7_clause 70 = .ok (.getfield 84, 3) := by decide +kernel
theorem dX7_clause_73 : decode cX7_clause 73 = .ok (.iload_n 1, 1) := by decide +kernel
theorem dX7_clause_74 : decode cX7_clause 74 = .ok (.iload_n 3, 1) := by decide +kernel
theorem dX7_clause_75 : decode cX7_clause 75 = .ok (.iastore, 1) := by decide +kernel
theorem dX7_clause_76 : decode cX7_clause 76 = .ok (.iconst 1, 1) := by decide +kernel
theorem dX7_clause_77 : decode cX7_clause 77 = .ok (.ireturn, 1) := by decide +kernel
theorem gX7_clause_X7_isKind : GoodIn wtX7_clause (va_wsS RX7 78 yX7_isKind wtX7_isKind) := tb_good (tb_s0 wd_190 wd_191 wd_2 wd_192)
theorem gX7_clause_X7_isPolicy : GoodIn wtX7_clause (wsV RX7 74 RX7 yX7_isPolicy wtX7_isPolicy) := tb_good (tb_v0 wd_186 wd_187 wd_188 wd_2 wd_189)
theorem gX7_clause_X7_within : GoodIn wtX7_clause (va_wsS RX7 47 yX7_within wtX7_within) := tb_good (tb_s0 wd_164 wd_165 wd_2 wd_166)
set_option maxHeartbeats 4000000 in
set_option maxRecDepth 100000 in
theorem m_X7_clause (l : Launch) (D : va_G) (cI cJ : ClassId) (sz : Nat) (x x0 x1 x2 x3 x4 x5 b0 b1 b2 b3 b4 b5 b6 b7 b8 b9 b10 b11 np nl : Nat) (bi14 p0 p1 p2 : Int32) (B5 B6 : Nat → Int32) (hnp : np ≤ 8) : Met l yX7_clause wtX7_clause { frames := 2, cells := 0, slots := 0, locals := 43 } (cPc D cI cJ [.ref x, .int p0, .int p1, .int p2] sz [(oX7 x x0 x1 x2 x3 x4 x5), (oX0 x0 b0 b1 b2 b3 b4 b5 b6 b7 b8 b9 b10 b11 (nI np) (nI nl) bi14), (aIc cI b5 8 B5), (aIc cI b6 8 B6)]) (cQi D (fun r u => (((0 ≤ p0 ∧ p0 ≤ nI np - 1) ∧ (0 ≤ p1 ∧ p1 ≤ 3) ∧ (0 ≤ p2 ∧ p2 ≤ 255) ∧ ¬ (B5 (Int32.toNatClampNeg p0) = p1 ∧ B6 (Int32.toNatClampNeg p0) = p2)) ∧ r = 1 ∧ u = [(oX7 x x0 x1 x2 x3 x4 x5), (oX0 x0 b0 b1 b2 b3 b4 b5 b6 b7 b8 b9 b10 b11 (nI np) (nI nl) bi14), (aIc cI b5 8 (upd B5 (Int32.toNatClampNeg p0) p1)), (aIc cI b6 8 (upd B6 (Int32.toNatClampNeg p0) p2))]) ∨ ((¬ ((0 ≤ p0 ∧ p0 ≤ nI np - 1) ∧ (0 ≤ p1 ∧ p1 ≤ 3) ∧ (0 ≤ p2 ∧ p2 ≤ 255) ∧ ¬ (B5 (Int32.toNatClampNeg p0) = p1 ∧ B6 (Int32.toNatClampNeg p0) = p2))) ∧ r = 0 ∧ u = [(oX7 x x0 x1 x2 x3 x4 x5), (oX0 x0 b0 b1 b2 b3 b4 b5 b6 b7 b8 b9 b10 b11 (nI np) (nI nl) bi14), (aIc cI b5 8 B5), (aIc cI b6 8 B6)])) (va_A [(oX7 x x0 x1 x2 x3 x4 x5), (oX0 x0 b0 b1 b2 b3 b4 b5 b6 b7 b8 b9 b10 b11 (nI np) (nI nl) bi14), (aIc cI b5 8 B5), (aIc cI b6 8 B6)] sz)) 0 0 (va_A [(oX7 x x0 x1 x2 x3 x4 x5), (oX0 x0 b0 b1 b2 b3 b4 b5 b6 b7 b8 b9 b10 b11 (nI np) (nI nl) bi14), (aIc cI b5 8 B5), (aIc cI b6 8 B6)] sz) := by
  refine k_ofW (Qc := cQi D (fun r u => (((0 ≤ p0 ∧ p0 ≤ nI np - 1) ∧ (0 ≤ p1 ∧ p1 ≤ 3) ∧ (0 ≤ p2 ∧ p2 ≤ 255) ∧ ¬ (B5 (Int32.toNatClampNeg p0) = p1 ∧ B6 (Int32.toNatClampNeg p0) = p2)) ∧ r = 1 ∧ u = [(oX7 x x0 x1 x2 x3 x4 x5), (oX0 x0 b0 b1 b2 b3 b4 b5 b6 b7 b8 b9 b10 b11 (nI np) (nI nl) bi14), (aIc cI b5 8 (upd B5 (Int32.toNatClampNeg p0) p1)), (aIc cI b6 8 (upd B6 (Int32.toNatClampNeg p0) p2))]) ∨ ((¬ ((0 ≤ p0 ∧ p0 ≤ nI np - 1) ∧ (0 ≤ p1 ∧ p1 ≤ 3) ∧ (0 ≤ p2 ∧ p2 ≤ 255) ∧ ¬ (B5 (Int32.toNatClampNeg p0) = p1 ∧ B6 (Int32.toNatClampNeg p0) = p2))) ∧ r = 0 ∧ u = [(oX7 x x0 x1 x2 x3 x4 x5), (oX0 x0 b0 b1 b2 b3 b4 b5 b6 b7 b8 b9 b10 b11 (nI np) (nI nl) bi14), (aIc cI b5 8 B5), (aIc cI b6 8 B6)]))) (by decide) rfl (Nat.le_of_ble_eq_true rfl) ?_
  intro p e s m below meth c A ls hx hb hr hml hts hown hlk hnm hsz hE hP hD hS hA hl
  have hown : s.vm.findClass RX7 = some m.cls := hown
  have hiX7 : ∀ w ∈ u_ws RX7 TX7 6, w ∈ wtX7_clause := fun w h => List.mem_cons_of_mem _ (iuX7 w h)
  have hiX0 : ∀ w ∈ u_ws RX0 TX0 15, w ∈ wtX7_clause := fun w h => List.mem_cons_of_mem _ (iuX0 w h)
  have hl : lv_has ls 4 [(0, .ref x), (1, .int p0), (2, .int p1), (3, .int p2)] := hl
  refine lv_aload_n hx hb dX7_clause_0 rfl (lv_at hl 0 rfl) ?_
  refine lv_iload_n hx hb dX7_clause_1 rfl (lv_at hl 1 rfl) ?_
  refine k_iS (va_runV (As := [.int p0]) (rest := []) ⟨hx, hb, hml, hown, hts⟩ (m_X7_isPolicy l D cI cJ (s.heap).size x x0 x1 x2 x3 x4 x5 b0 b1 b2 b3 b4 b5 b6 b7 b8 b9 b10 b11 (nI np) (nI nl) bi14 p0) (cwV 1 hts gX7_clause_X7_isPolicy rfl rfl rfl (by decide +kernel) ⟨Nat.le_of_ble_eq_true rfl, Nat.le_of_ble_eq_true rfl⟩) (k_preV hE hP hD [0, 1] (by decide +kernel) rfl 0 rfl rfl) rfl rfl hl.1 rfl (lv_room (Nat.le_of_ble_eq_true rfl)) dX7_clause_2 ⟨Nat.le_of_ble_eq_true rfl, Nat.le_of_ble_eq_true rfl⟩) hP hD hS hA [0, 1] rfl (fun _ _ h9 => h9.2) (fun r1 H locs hw2 hP hD hS => ?_)
  obtain ⟨hw2, -⟩ := hw2
  refine lv_if_eq (tgt := 26) hx hb dX7_clause_5 (by decide) (fun c3 => ?_) (fun c3 => ?_)
  · skip
    have hc3 : ¬ (0 ≤ p0 ∧ p0 ≤ (nI np) - 1) := bz_0 hw2 c3
    refine lv_iconst (v := 0) hx hb dX7_clause_26 (by decide) ?_
    refine k_zret (u := [(oX7 x x0 x1 x2 x3 x4 x5), (oX0 x0 b0 b1 b2 b3 b4 b5 b6 b7 b8 b9 b10 b11 (nI np) (nI nl) bi14), (aIc cI b5 8 B5), (aIc cI b6 8 B6)]) hx hb hr (by decide) hlk hP hD hS dX7_clause_27 ?_
    exact Or.inr ⟨(fun q => hc3 q.1), rfl, rfl⟩
  · skip
    have hc3 : 0 ≤ p0 ∧ p0 ≤ (nI np) - 1 := bz_1 hw2 c3
    refine lv_iload_n hx hb dX7_clause_8 rfl (lv_at hl 2 rfl) ?_
    refine k_iS (va_runS (As := [.int p1]) (rest := []) ⟨hx, hb, hml, hown, hts⟩ (m_X7_isKind l D cI cJ H.size p1) (va_cwS 1 hts gX7_clause_X7_isKind rfl rfl rfl (by decide +kernel) ⟨Nat.le_of_ble_eq_true rfl, Nat.le_of_ble_eq_true rfl⟩) (k_pre hE hP hD [] (by decide +kernel) rfl) rfl rfl hl.1 rfl (lv_room (Nat.le_of_ble_eq_true rfl)) dX7_clause_9 ⟨Nat.le_of_ble_eq_true rfl, Nat.le_of_ble_eq_true rfl⟩) hP hD hS hA [] rfl (fun _ _ h9 => h9.2) (fun r4 H locs hw5 hP hD hS => ?_)
    obtain ⟨hw5, -⟩ := hw5
    refine lv_if_eq (tgt := 26) hx hb dX7_clause_12 (by decide) (fun c6 => ?_) (fun c6 => ?_)
    · skip
      have hc6 : ¬ (0 ≤ p1 ∧ p1 ≤ 3) := bz_0 hw5 c6
      refine lv_iconst (v := 0) hx hb dX7_clause_26 (by decide) ?_
      refine k_zret (u := [(oX7 x x0 x1 x2 x3 x4 x5), (oX0 x0 b0 b1 b2 b3 b4 b5 b6 b7 b8 b9 b10 b11 (nI np) (nI nl) bi14), (aIc cI b5 8 B5), (aIc cI b6 8 B6)]) hx hb hr (by decide) hlk hP hD hS dX7_clause_27 ?_
      exact Or.inr ⟨(fun q => hc6 q.2.1), rfl, rfl⟩
    · skip
      have hc6 : 0 ≤ p1 ∧ p1 ≤ 3 := bz_1 hw5 c6
      refine lv_iload_n hx hb dX7_clause_15 rfl (lv_at hl 3 rfl) ?_
      refine lv_iconst (v := 0) hx hb dX7_clause_16 (by decide) ?_
      refine lv_sipush (v := 255) hx hb dX7_clause_17 (by decide) ?_
      refine k_iS (va_runS (As := [.int p2, .int 0, .int 255]) (rest := []) ⟨hx, hb, hml, hown, hts⟩ (m_X7_within l D cI cJ H.size p2 0 255) (va_cwS 3 hts gX7_clause_X7_within rfl rfl rfl (by decide +kernel) ⟨Nat.le_of_ble_eq_true rfl, Nat.le_of_ble_eq_true rfl⟩) (k_pre hE hP hD [] (by decide +kernel) rfl) rfl rfl hl.1 rfl (lv_room (Nat.le_of_ble_eq_true rfl)) dX7_clause_20 ⟨Nat.le_of_ble_eq_true rfl, Nat.le_of_ble_eq_true rfl⟩) hP hD hS hA [] rfl (fun _ _ h9 => h9.2) (fun r7 H locs hw8 hP hD hS => ?_)
      obtain ⟨hw8, -⟩ := hw8
      refine lv_if_ne (tgt := 28) hx hb dX7_clause_23 (by decide) (fun c9 => ?_) (fun c9 => ?_)
      · skip
        have hc9 : 0 ≤ p2 ∧ p2 ≤ 255 := bz_1 hw8 c9
        refine lv_aload_n hx hb dX7_clause_28 rfl (lv_at hl 0 rfl) ?_
        refine va_get (D := D) (ci := 7) (v := .ref x0) (C := RX7) (T := TX7) (N := 6) hx hb hts hiX7 hown hE.1 hP 0 rfl rfl 0 (by decide) (hts _ (List.mem_cons_of_mem _ wd_19)) (fun _ h9 => h9) rfl dX7_clause_29 ?_
        refine va_get (D := D) (ci := 0) (v := .ref b5) (C := RX0) (T := TX0) (N := 15) hx hb hts hiX0 hown hE.1 hP 1 rfl rfl 5 (by decide) (hts _ (List.mem_cons_of_mem _ wd_184)) (fun _ h9 => h9) rfl dX7_clause_32 ?_
        refine lv_iload_n hx hb dX7_clause_35 rfl (lv_at hl 1 rfl) ?_
        refine va_iald hx hb hE.1 hP 2 0 rfl rfl (by obtain ⟨j9, h9, e9⟩ := wi_n (by omega) hc3; rw [e9]; exact vp_in_nI (by omega) (by decide)) dX7_clause_36 ?_
        refine lv_iload_n hx hb dX7_clause_37 rfl (lv_at hl 2 rfl) ?_
        refine lv_icmp_ne (tgt := 56) hx hb dX7_clause_38 (by decide) (fun c10 => ?_) (fun c10 => ?_)
        · skip
          refine lv_aload_n hx hb dX7_clause_56 rfl (lv_at hl 0 rfl) ?_
          refine va_get (D := D) (ci := 7) (v := .ref x0) (C := RX7) (T := TX7) (N := 6) hx hb hts hiX7 hown hE.1 hP 0 rfl rfl 0 (by decide) (hts _ (List.mem_cons_of_mem _ wd_19)) (fun _ h9 => h9) rfl dX7_clause_57 ?_
          refine va_get (D := D) (ci := 0) (v := .ref b5) (C := RX0) (T := TX0) (N := 15) hx hb hts hiX0 hown hE.1 hP 1 rfl rfl 5 (by decide) (hts _ (List.mem_cons_of_mem _ wd_184)) (fun _ h9 => h9) rfl dX7_clause_60 ?_
          refine lv_iload_n hx hb dX7_clause_63 rfl (lv_at hl 1 rfl) ?_
          refine lv_iload_n hx hb dX7_clause_64 rfl (lv_at hl 2 rfl) ?_
          refine va_iast hx hb hE.1 hP hD hS 2 0 rfl rfl (by obtain ⟨j9, h9, e9⟩ := wi_n (by omega) hc3; rw [e9]; exact vp_in_nI (by omega) (by decide)) dX7_clause_65 (fun H locs hP hD hS => ?_)
          refine k_re (w := [(oX7 x x0 x1 x2 x3 x4 x5), (oX0 x0 b0 b1 b2 b3 b4 b5 b6 b7 b8 b9 b10 b11 (nI np) (nI nl) bi14), (aIc cI b5 8 (upd B5 (Int32.toNatClampNeg p0) p1)), (aIc cI b6 8 B6)]) hP hD (fun hP hD => ?_)
          refine lv_aload_n hx hb dX7_clause_66 rfl (lv_at hl 0 rfl) ?_
          refine va_get (D := D) (ci := 7) (v := .ref x0) (C := RX7) (T := TX7) (N := 6) hx hb hts hiX7 hown hE.1 hP 0 rfl rfl 0 (by decide) (hts _ (List.mem_cons_of_mem _ wd_19)) (fun _ h9 => h9) rfl dX7_clause_67 ?_
          refine va_get (D := D) (ci := 0) (v := .ref b6) (C := RX0) (T := TX0) (N := 15) hx hb hts hiX0 hown hE.1 hP 1 rfl rfl 6 (by decide) (hts _ (List.mem_cons_of_mem _ wd_185)) (fun _ h9 => h9) rfl dX7_clause_70 ?_
          refine lv_iload_n hx hb dX7_clause_73 rfl (lv_at hl 1 rfl) ?_
          refine lv_iload_n hx hb dX7_clause_74 rfl (lv_at hl 3 rfl) ?_
          refine va_iast hx hb hE.1 hP hD hS 3 0 rfl rfl (by obtain ⟨j9, h9, e9⟩ := wi_n (by omega) hc3; rw [e9]; exact vp_in_nI (by omega) (by decide)) dX7_clause_75 (fun H locs hP hD hS => ?_)
          refine k_re (w := [(oX7 x x0 x1 x2 x3 x4 x5), (oX0 x0 b0 b1 b2 b3 b4 b5 b6 b7 b8 b9 b10 b11 (nI np) (nI nl) bi14), (aIc cI b5 8 (upd B5 (Int32.toNatClampNeg p0) p1)), (aIc cI b6 8 (upd B6 (Int32.toNatClampNeg p0) p2))]) hP hD (fun hP hD => ?_)
          refine lv_iconst (v := 1) hx hb dX7_clause_76 (by decide) ?_
          refine k_zret (u := [(oX7 x x0 x1 x2 x3 x4 x5), (oX0 x0 b0 b1 b2 b3 b4 b5 b6 b7 b8 b9 b10 b11 (nI np) (nI nl) bi14), (aIc cI b5 8 (upd B5 (Int32.toNatClampNeg p0) p1)), (aIc cI b6 8 (upd B6 (Int32.toNatClampNeg p0) p2))]) hx hb hr (by decide) hlk hP hD hS dX7_clause_77 ?_
          exact Or.inl ⟨⟨hc3, hc6, hc9, (fun q => c10 q.1)⟩, rfl, rfl⟩
        · skip
          refine lv_aload_n hx hb dX7_clause_41 rfl (lv_at hl 0 rfl) ?_
          refine va_get (D := D) (ci := 7) (v := .ref x0) (C := RX7) (T := TX7) (N := 6) hx hb hts hiX7 hown hE.1 hP 0 rfl rfl 0 (by decide) (hts _ (List.mem_cons_of_mem _ wd_19)) (fun _ h9 => h9) rfl dX7_clause_42 ?_
          refine va_get (D := D) (ci := 0) (v := .ref b6) (C := RX0) (T := TX0) (N := 15) hx hb hts hiX0 hown hE.1 hP 1 rfl rfl 6 (by decide) (hts _ (List.mem_cons_of_mem _ wd_185)) (fun _ h9 => h9) rfl dX7_clause_45 ?_
          refine lv_iload_n hx hb dX7_clause_48 rfl (lv_at hl 1 rfl) ?_
          refine va_iald hx hb hE.1 hP 3 0 rfl rfl (by obtain ⟨j9, h9, e9⟩ := wi_n (by omega) hc3; rw [e9]; exact vp_in_nI (by omega) (by decide)) dX7_clause_49 ?_
          refine lv_iload_n hx hb dX7_clause_50 rfl (lv_at hl 3 rfl) ?_
          refine lv_icmp_ne (tgt := 56) hx hb dX7_clause_51 (by decide) (fun c11 => ?_) (fun c11 => ?_)
          · skip
            refine lv_aload_n hx hb dX7_clause_56 rfl (lv_at hl 0 rfl) ?_
            refine va_get (D := D) (ci := 7) (v := .ref x0) (C := RX7) (T := TX7) (N := 6) hx hb hts hiX7 hown hE.1 hP 0 rfl rfl 0 (by decide) (hts _ (List.mem_cons_of_mem _ wd_19)) (fun _ h9 => h9) rfl dX7_clause_57 ?_
            refine va_get (D := D) (ci := 0) (v := .ref b5) (C := RX0) (T := TX0) (N := 15) hx hb hts hiX0 hown hE.1 hP 1 rfl rfl 5 (by decide) (hts _ (List.mem_cons_of_mem _ wd_184)) (fun _ h9 => h9) rfl dX7_clause_60 ?_
            refine lv_iload_n hx hb dX7_clause_63 rfl (lv_at hl 1 rfl) ?_
            refine lv_iload_n hx hb dX7_clause_64 rfl (lv_at hl 2 rfl) ?_
            refine va_iast hx hb hE.1 hP hD hS 2 0 rfl rfl (by obtain ⟨j9, h9, e9⟩ := wi_n (by omega) hc3; rw [e9]; exact vp_in_nI (by omega) (by decide)) dX7_clause_65 (fun H locs hP hD hS => ?_)
            refine k_re (w := [(oX7 x x0 x1 x2 x3 x4 x5), (oX0 x0 b0 b1 b2 b3 b4 b5 b6 b7 b8 b9 b10 b11 (nI np) (nI nl) bi14), (aIc cI b5 8 (upd B5 (Int32.toNatClampNeg p0) p1)), (aIc cI b6 8 B6)]) hP hD (fun hP hD => ?_)
            refine lv_aload_n hx hb dX7_clause_66 rfl (lv_at hl 0 rfl) ?_
            refine va_get (D := D) (ci := 7) (v := .ref x0) (C := RX7) (T := TX7) (N := 6) hx hb hts hiX7 hown hE.1 hP 0 rfl rfl 0 (by decide) (hts _ (List.mem_cons_of_mem _ wd_19)) (fun _ h9 => h9) rfl dX7_clause_67 ?_
            refine va_get (D := D) (ci := 0) (v := .ref b6) (C := RX0) (T := TX0) (N := 15) hx hb hts hiX0 hown hE.1 hP 1 rfl rfl 6 (by decide) (hts _ (List.mem_cons_of_mem _ wd_185)) (fun _ h9 => h9) rfl dX7_clause_70 ?_
            refine lv_iload_n hx hb dX7_clause_73 rfl (lv_at hl 1 rfl) ?_
            refine lv_iload_n hx hb dX7_clause_74 rfl (lv_at hl 3 rfl) ?_
            refine va_iast hx hb hE.1 hP hD hS 3 0 rfl rfl (by obtain ⟨j9, h9, e9⟩ := wi_n (by omega) hc3; rw [e9]; exact vp_in_nI (by omega) (by decide)) dX7_clause_75 (fun H locs hP hD hS => ?_)
            refine k_re (w := [(oX7 x x0 x1 x2 x3 x4 x5), (oX0 x0 b0 b1 b2 b3 b4 b5 b6 b7 b8 b9 b10 b11 (nI np) (nI nl) bi14), (aIc cI b5 8 (upd B5 (Int32.toNatClampNeg p0) p1)), (aIc cI b6 8 (upd B6 (Int32.toNatClampNeg p0) p2))]) hP hD (fun hP hD => ?_)
            refine lv_iconst (v := 1) hx hb dX7_clause_76 (by decide) ?_
            refine k_zret (u := [(oX7 x x0 x1 x2 x3 x4 x5), (oX0 x0 b0 b1 b2 b3 b4 b5 b6 b7 b8 b9 b10 b11 (nI np) (nI nl) bi14), (aIc cI b5 8 (upd B5 (Int32.toNatClampNeg p0) p1)), (aIc cI b6 8 (upd B6 (Int32.toNatClampNeg p0) p2))]) hx hb hr (by decide) hlk hP hD hS dX7_clause_77 ?_
            exact Or.inl ⟨⟨hc3, hc6, hc9, (fun q => c11 q.2)⟩, rfl, rfl⟩
          · skip
            refine lv_iconst (v := 0) hx hb dX7_clause_54 (by decide) ?_
            refine k_zret (u := [(oX7 x x0 x1 x2 x3 x4 x5), (oX0 x0 b0 b1 b2 b3 b4 b5 b6 b7 b8 b9 b10 b11 (nI np) (nI nl) bi14), (aIc cI b5 8 B5), (aIc cI b6 8 B6)]) hx hb hr (by decide) hlk hP hD hS dX7_clause_55 ?_
            exact Or.inr ⟨(fun q => q.2.2.2 ⟨c10, c11⟩), rfl, rfl⟩
      · skip
        have hc9 : ¬ (0 ≤ p2 ∧ p2 ≤ 255) := bz_0 hw8 c9
        refine lv_iconst (v := 0) hx hb dX7_clause_26 (by decide) ?_
        refine k_zret (u := [(oX7 x x0 x1 x2 x3 x4 x5), (oX0 x0 b0 b1 b2 b3 b4 b5 b6 b7 b8 b9 b10 b11 (nI np) (nI nl) bi14), (aIc cI b5 8 B5), (aIc cI b6 8 B6)]) hx hb hr (by decide) hlk hP hD hS dX7_clause_27 ?_
        exact Or.inr ⟨(fun q => hc9 q.2.2.1), rfl, rfl⟩
theorem vi_n {x : Int32} {n : Nat} (h1 : ¬ x < 0) (h2 : ¬ Int32.ofNat n ≤ x) (hn : n < 2 ^ 31) : vp_in x n := by
  rcases pk_ix x hn with h | h | ⟨j, hj, rfl⟩
  · exact absurd h h1
  · exact absurd h h2
  · exact vp_in_nI hj hn
theorem dX7_changed_0 : decode cX7_changed 0 = .ok (.iload_n 1, 1) := by decide +kernel
theorem dX7_changed_1 : decode cX7_changed 1 = .ok (.ifCond .lt 16, 3) := by decide +kernel
theorem dX7_changed_4 : decode cX7_changed 4 = .ok (.iload_n 1, 1) := by decide +kernel
theorem dX7_changed_5 : decode cX7_changed 5 = .ok (.aload_n 0, 1) := by decide +kernel
theorem dX7_changed_6 : decode cX7_changed 6 = .ok (.arraylength, 1) := by decide +kernel
theorem dX7_changed_7 : decode cX7_changed 7 = .ok (.if_icmp .ge 10, 3) := by decide +kernel
theorem dX7_changed_10 : decode cX7_changed 10 = .ok (.aload_n 0, 1) := by decide +kernel
theorem dX7_changed_11 : decode cX7_changed 11 = .ok (.iload_n 1, 1) := by decide +kernel
theorem dX7_changed_12 : decode cX7_changed 12 = .ok (.iaload, 1) := by decide +kernel
theorem dX7_changed_13 : decode cX7_changed 13 = .ok (.iload_n 2, 1) := by decide +kernel
theorem dX7_changed_14 : decode cX7_changed 14 = .ok (.if_icmp .ne 5, 3) := by decide +kernel
theorem dX7_changed_17 : decode cX7_changed 17 = .ok (.iconst 0, 1) := by decide +kernel
theorem dX7_changed_18 : decode cX7_changed 18 = .ok (.ireturn, 1) := by decide +kernel
theorem dX7_changed_19 : decode cX7_changed 19 = .ok (.aload_n 0, 1) := by decide +kernel
theorem dX7_changed_20 : decode cX7_changed 20 = .ok (.iload_n 1, 1) := by decide +kernel
theorem dX7_changed_21 : decode cX7_changed 21 = .ok (.iload_n 2, 1) := by decide +kernel
theorem dX7_changed_22 : decode cX7_changed 22 = .ok (.iastore, 1) := by decide +kernel
theorem dX7_changed_23 : decode cX7_changed 23 = .ok (.iconst 1, 1) := by decide +kernel
theorem dX7_changed_24 : decode cX7_changed 24 = .ok (.ireturn, 1) := by decide +kernel
set_option maxHeartbeats 4000000 in
set_option maxRecDepth 100000 in
theorem m_X7_changed (l : Launch) (D : va_G) (cI cJ : ClassId) (sz : Nat) (a n : Nat) (k v : Int32) (f : Nat → Int32) (hn : n < 2 ^ 31) : Met l yX7_changed wtX7_changed { frames := 0, cells := 0, slots := 0, locals := 0 } (cPc D cI cJ [.ref a, .int k, .int v] sz [(aIc cI a n f)]) (cQi D (fun r u => ((¬ k < 0 ∧ ¬ Int32.ofNat n ≤ k ∧ ¬ f (Int32.toNatClampNeg k) = v) ∧ r = 1 ∧ u = [(aIc cI a n (upd f (Int32.toNatClampNeg k) v))]) ∨ ((¬ (¬ k < 0 ∧ ¬ Int32.ofNat n ≤ k ∧ ¬ f (Int32.toNatClampNeg k) = v)) ∧ r = 0 ∧ u = [(aIc cI a n f)])) (va_A [(aIc cI a n f)] sz)) 0 0 (va_A [(aIc cI a n f)] sz) := by
  refine k_ofW (Qc := cQi D (fun r u => ((¬ k < 0 ∧ ¬ Int32.ofNat n ≤ k ∧ ¬ f (Int32.toNatClampNeg k) = v) ∧ r = 1 ∧ u = [(aIc cI a n (upd f (Int32.toNatClampNeg k) v))]) ∨ ((¬ (¬ k < 0 ∧ ¬ Int32.ofNat n ≤ k ∧ ¬ f (Int32.toNatClampNeg k) = v)) ∧ r = 0 ∧ u = [(aIc cI a n f)]))) (by decide) rfl (Nat.le_of_ble_eq_true rfl) ?_
  intro p e s m below meth c A ls hx hb hr hml hts hown hlk hnm hsz hE hP hD hS hA hl
  have hown : s.vm.findClass RX7 = some m.cls := hown
  have hl : lv_has ls 3 [(0, .ref a), (1, .int k), (2, .int v)] := hl
  refine lv_iload_n hx hb dX7_changed_0 rfl (lv_at hl 1 rfl) ?_
  refine lv_if_lt (tgt := 17) hx hb dX7_changed_1 (by decide) (fun c1 => ?_) (fun c1 => ?_)
  · skip
    refine lv_iconst (v := 0) hx hb dX7_changed_17 (by decide) ?_
    refine k_zret (u := [(aIc cI a n f)]) hx hb hr (by decide) hlk hP hD hS dX7_changed_18 ?_
    exact Or.inr ⟨(fun q => q.1 c1), rfl, rfl⟩
  · skip
    refine lv_iload_n hx hb dX7_changed_4 rfl (lv_at hl 1 rfl) ?_
    refine lv_aload_n hx hb dX7_changed_5 rfl (lv_at hl 0 rfl) ?_
    refine va_alen hx hb hE.1 hP 0 0 rfl rfl rfl dX7_changed_6 ?_
    refine lv_icmp_ge (tgt := 17) hx hb dX7_changed_7 (by decide) (fun c2 => ?_) (fun c2 => ?_)
    · skip
      refine lv_iconst (v := 0) hx hb dX7_changed_17 (by decide) ?_
      refine k_zret (u := [(aIc cI a n f)]) hx hb hr (by decide) hlk hP hD hS dX7_changed_18 ?_
      exact Or.inr ⟨(fun q => q.2.1 c2), rfl, rfl⟩
    · skip
      refine lv_aload_n hx hb dX7_changed_10 rfl (lv_at hl 0 rfl) ?_
      refine lv_iload_n hx hb dX7_changed_11 rfl (lv_at hl 1 rfl) ?_
      refine va_iald hx hb hE.1 hP 0 0 rfl rfl (vi_n c1 c2 hn) dX7_changed_12 ?_
      refine lv_iload_n hx hb dX7_changed_13 rfl (lv_at hl 2 rfl) ?_
      refine lv_icmp_ne (tgt := 19) hx hb dX7_changed_14 (by decide) (fun c3 => ?_) (fun c3 => ?_)
      · skip
        refine lv_aload_n hx hb dX7_changed_19 rfl (lv_at hl 0 rfl) ?_
        refine lv_iload_n hx hb dX7_changed_20 rfl (lv_at hl 1 rfl) ?_
        refine lv_iload_n hx hb dX7_changed_21 rfl (lv_at hl 2 rfl) ?_
        refine va_iast hx hb hE.1 hP hD hS 0 0 rfl rfl (vi_n c1 c2 hn) dX7_changed_22 (fun H locs hP hD hS => ?_)
        refine k_re (w := [(aIc cI a n (upd f (Int32.toNatClampNeg k) v))]) hP hD (fun hP hD => ?_)
        refine lv_iconst (v := 1) hx hb dX7_changed_23 (by decide) ?_
        refine k_zret (u := [(aIc cI a n (upd f (Int32.toNatClampNeg k) v))]) hx hb hr (by decide) hlk hP hD hS dX7_changed_24 ?_
        exact Or.inl ⟨⟨c1, c2, c3⟩, rfl, rfl⟩
      · skip
        refine lv_iconst (v := 0) hx hb dX7_changed_17 (by decide) ?_
        refine k_zret (u := [(aIc cI a n f)]) hx hb hr (by decide) hlk hP hD hS dX7_changed_18 ?_
        exact Or.inr ⟨(fun q => q.2.2 c3), rfl, rfl⟩
theorem chg_p {k : Int32} {np n : Nat} (hnp : np ≤ n) (hn : n < 2 ^ 31) (h : 0 ≤ k ∧ k ≤ nI np - 1) : ¬ k < 0 ∧ ¬ Int32.ofNat n ≤ k := by
  obtain ⟨j, hj, rfl⟩ := wi_n (by omega) h
  exact ⟨nI_pos (by omega), fun q => absurd ((nI_leI (a := n) (b := j) hn (by omega)).mp q) (by omega)⟩
theorem chg_7 {k : Int32} (h : 0 ≤ k ∧ k ≤ 7) : ¬ k < 0 ∧ ¬ Int32.ofNat 8 ≤ k := by
  obtain ⟨j, hj, rfl⟩ := wi_07 h
  exact ⟨nI_pos (by omega), fun q => absurd ((nI_leI (a := 8) (b := j) (by decide) (by omega)).mp q) (by omega)⟩
theorem chg_s {a b : Int32} {np : Nat} (hnp : np ≤ 8) (h : 0 ≤ a ∧ a ≤ nI np - 1) (h2 : 0 ≤ b ∧ b ≤ 7) : ¬ ((a * 8) + b) < 0 ∧ ¬ Int32.ofNat 64 ≤ ((a * 8) + b) := by
  obtain ⟨i, hi, rfl⟩ := wi_n (by omega) h
  obtain ⟨j, hj, rfl⟩ := wi_07 h2
  have e : nI i * 8 + nI j = nI (i * 8 + j) := by rw [show (8 : Int32) = nI 8 from rfl, pk_mul, nI_add]
  rw [e]
  exact ⟨nI_pos (by omega), fun q => absurd ((nI_leI (a := 64) (b := i * 8 + j) (by decide) (by omega)).mp q) (by omega)⟩
theorem dX7_limit_0 : decode cX7_limit 0 = .ok (.aload_n 0, 1) := by decide +kernel
theorem dX7_limit_1 : decode cX7_limit 1 = .ok (.iload_n 1, 1) := by decide +kernel
theorem dX7_limit_2 : decode cX7_limit 2 = .ok (.invokevirtual 74, 3) := by decide +kernel
theorem dX7_limit_5 : decode cX7_limit 5 = .ok (.ifCond .eq 32, 3) := by decide +kernel
theorem dX7_limit_8 : decode cX7_limit 8 = .ok (.iload_n 2, 1) := by decide +kernel
theorem dX7_limit_9 : decode cX7_limit 9 = .ok (.iconst 1, 1) := by decide +kernel
theorem dX7_limit_10 : decode cX7_limit 10 = .ok (.ldc 46, 2) := by decide +kernel
theorem dX7_limit_12 : decode cX7_limit 12 = .ok (.invokestatic 47, 3) := by decide +kernel
theorem dX7_limit_15 : decode cX7_limit 15 = .ok (.ifCond .eq 22, 3) := by decide +kernel
theorem dX7_limit_18 : decode cX7_limit 18 = .ok (.aload_n 0, 1) := by decide +kernel
theorem dX7_limit_19 : decode cX7_limit 19 = .ok (.getfield 20, 3) := by decide +kernel
theorem dX7_limit_22 : decode cX7_limit 22 = .ok (.getfield 59, 3) := by decide +kernel
theorem dX7_limit_25 : decode cX7_limit 25 = .ok (.iload_n 1, 1) := by decide +kernel
theorem dX7_limit_26 : decode cX7_limit 26 = .ok (.iload_n 2, 1) := by decide +kernel
theorem dX7_limit_27 : decode cX7_limit 27 = .ok (.invokestatic 87, 3) := by decide +kernel
theorem dX7_limit_30 : decode cX7_limit 30 = .ok (.ifCond .eq 7, 3) := by decide +kernel
theorem dX7_limit_33 : decode cX7_limit 33 = .ok (.iconst 1, 1) := by decide +kernel
theorem dX7_limit_34 : decode cX7_limit 34 = .ok (.goto 4, 3) := by decide +kernel
theorem dX7_limit_37 : decode cX7_limit 37 = .ok (.iconst 0, 1) := by decide +kernel
theorem dX7_limit_38 : decode cX7_limit 38 = .ok (.ireturn, 1) := by decide +kernel
theorem gX7_limit_X7_changed : GoodIn wtX7_limit (va_wsS RX7 87 yX7_changed wtX7_changed) := tb_good (tb_s0 wd_206 wd_207 wd_2 wd_208)
theorem gX7_limit_X7_isPolicy : GoodIn wtX7_limit (wsV RX7 74 RX7 yX7_isPolicy wtX7_isPolicy) := tb_good (tb_v0 wd_186 wd_187 wd_188 wd_2 wd_189)
theorem gX7_limit_X7_within : GoodIn wtX7_limit (va_wsS RX7 47 yX7_within wtX7_within) := tb_good (tb_s0 wd_164 wd_165 wd_2 wd_166)
set_option maxHeartbeats 4000000 in
set_option maxRecDepth 100000 in
theorem m_X7_limit (l : Launch) (D : va_G) (cI cJ : ClassId) (sz : Nat) (x x0 x1 x2 x3 x4 x5 b0 b1 b2 b3 b4 b5 b6 b7 b8 b9 b10 b11 np nl : Nat) (bi14 p0 p1 : Int32) (B0 : Nat → Int32) (hnp : np ≤ 8) : Met l yX7_limit wtX7_limit { frames := 2, cells := 0, slots := 0, locals := 43 } (cPc D cI cJ [.ref x, .int p0, .int p1] sz [(oX7 x x0 x1 x2 x3 x4 x5), (oX0 x0 b0 b1 b2 b3 b4 b5 b6 b7 b8 b9 b10 b11 (nI np) (nI nl) bi14), (aIc cI b0 8 B0)]) (cQi D (fun r u => (((0 ≤ p0 ∧ p0 ≤ nI np - 1) ∧ (1 ≤ p1 ∧ p1 ≤ 1000000) ∧ ¬ B0 (Int32.toNatClampNeg p0) = p1) ∧ r = 1 ∧ u = [(oX7 x x0 x1 x2 x3 x4 x5), (oX0 x0 b0 b1 b2 b3 b4 b5 b6 b7 b8 b9 b10 b11 (nI np) (nI nl) bi14), (aIc cI b0 8 (upd B0 (Int32.toNatClampNeg p0) p1))]) ∨ ((¬ ((0 ≤ p0 ∧ p0 ≤ nI np - 1) ∧ (1 ≤ p1 ∧ p1 ≤ 1000000) ∧ ¬ B0 (Int32.toNatClampNeg p0) = p1)) ∧ r = 0 ∧ u = [(oX7 x x0 x1 x2 x3 x4 x5), (oX0 x0 b0 b1 b2 b3 b4 b5 b6 b7 b8 b9 b10 b11 (nI np) (nI nl) bi14), (aIc cI b0 8 B0)])) (va_A [(oX7 x x0 x1 x2 x3 x4 x5), (oX0 x0 b0 b1 b2 b3 b4 b5 b6 b7 b8 b9 b10 b11 (nI np) (nI nl) bi14), (aIc cI b0 8 B0)] sz)) 0 0 (va_A [(oX7 x x0 x1 x2 x3 x4 x5), (oX0 x0 b0 b1 b2 b3 b4 b5 b6 b7 b8 b9 b10 b11 (nI np) (nI nl) bi14), (aIc cI b0 8 B0)] sz) := by
  refine k_ofW (Qc := cQi D (fun r u => (((0 ≤ p0 ∧ p0 ≤ nI np - 1) ∧ (1 ≤ p1 ∧ p1 ≤ 1000000) ∧ ¬ B0 (Int32.toNatClampNeg p0) = p1) ∧ r = 1 ∧ u = [(oX7 x x0 x1 x2 x3 x4 x5), (oX0 x0 b0 b1 b2 b3 b4 b5 b6 b7 b8 b9 b10 b11 (nI np) (nI nl) bi14), (aIc cI b0 8 (upd B0 (Int32.toNatClampNeg p0) p1))]) ∨ ((¬ ((0 ≤ p0 ∧ p0 ≤ nI np - 1) ∧ (1 ≤ p1 ∧ p1 ≤ 1000000) ∧ ¬ B0 (Int32.toNatClampNeg p0) = p1)) ∧ r = 0 ∧ u = [(oX7 x x0 x1 x2 x3 x4 x5), (oX0 x0 b0 b1 b2 b3 b4 b5 b6 b7 b8 b9 b10 b11 (nI np) (nI nl) bi14), (aIc cI b0 8 B0)]))) (by decide) rfl (Nat.le_of_ble_eq_true rfl) ?_
  intro p e s m below meth c A ls hx hb hr hml hts hown hlk hnm hsz hE hP hD hS hA hl
  have hown : s.vm.findClass RX7 = some m.cls := hown
  have hiX7 : ∀ w ∈ u_ws RX7 TX7 6, w ∈ wtX7_limit := fun w h => List.mem_cons_of_mem _ (iuX7 w h)
  have hiX0 : ∀ w ∈ u_ws RX0 TX0 15, w ∈ wtX7_limit := fun w h => List.mem_cons_of_mem _ (iuX0 w h)
  have hl : lv_has ls 3 [(0, .ref x), (1, .int p0), (2, .int p1)] := hl
  refine lv_aload_n hx hb dX7_limit_0 rfl (lv_at hl 0 rfl) ?_
  refine lv_iload_n hx hb dX7_limit_1 rfl (lv_at hl 1 rfl) ?_
  refine k_iS (va_runV (As := [.int p0]) (rest := []) ⟨hx, hb, hml, hown, hts⟩ (m_X7_isPolicy l D cI cJ (s.heap).size x x0 x1 x2 x3 x4 x5 b0 b1 b2 b3 b4 b5 b6 b7 b8 b9 b10 b11 (nI np) (nI nl) bi14 p0) (cwV 1 hts gX7_limit_X7_isPolicy rfl rfl rfl (by decide +kernel) ⟨Nat.le_of_ble_eq_true rfl, Nat.le_of_ble_eq_true rfl⟩) (k_preV hE hP hD [0, 1] (by decide +kernel) rfl 0 rfl rfl) rfl rfl hl.1 rfl (lv_room (Nat.le_of_ble_eq_true rfl)) dX7_limit_2 ⟨Nat.le_of_ble_eq_true rfl, Nat.le_of_ble_eq_true rfl⟩) hP hD hS hA [0, 1] rfl (fun _ _ h9 => h9.2) (fun r1 H locs hw2 hP hD hS => ?_)
  obtain ⟨hw2, -⟩ := hw2
  refine lv_if_eq (tgt := 37) hx hb dX7_limit_5 (by decide) (fun c3 => ?_) (fun c3 => ?_)
  · skip
    have hc3 : ¬ (0 ≤ p0 ∧ p0 ≤ (nI np) - 1) := bz_0 hw2 c3
    refine lv_iconst (v := 0) hx hb dX7_limit_37 (by decide) ?_
    refine k_zret (u := [(oX7 x x0 x1 x2 x3 x4 x5), (oX0 x0 b0 b1 b2 b3 b4 b5 b6 b7 b8 b9 b10 b11 (nI np) (nI nl) bi14), (aIc cI b0 8 B0)]) hx hb hr (by decide) hlk hP hD hS dX7_limit_38 ?_
    exact Or.inr ⟨(fun q => hc3 q.1), rfl, rfl⟩
  · skip
    have hc3 : 0 ≤ p0 ∧ p0 ≤ (nI np) - 1 := bz_1 hw2 c3
    refine lv_iload_n hx hb dX7_limit_8 rfl (lv_at hl 2 rfl) ?_
    refine lv_iconst (v := 1) hx hb dX7_limit_9 (by decide) ?_
    refine lv_ldc (v := 1000000) hx hb hown (hts _ (List.mem_cons_of_mem _ wd_155)) dX7_limit_10 ?_
    refine k_iS (va_runS (As := [.int p1, .int 1, .int 1000000]) (rest := []) ⟨hx, hb, hml, hown, hts⟩ (m_X7_within l D cI cJ H.size p1 1 1000000) (va_cwS 3 hts gX7_limit_X7_within rfl rfl rfl (by decide +kernel) ⟨Nat.le_of_ble_eq_true rfl, Nat.le_of_ble_eq_true rfl⟩) (k_pre hE hP hD [] (by decide +kernel) rfl) rfl rfl hl.1 rfl (lv_room (Nat.le_of_ble_eq_true rfl)) dX7_limit_12 ⟨Nat.le_of_ble_eq_true rfl, Nat.le_of_ble_eq_true rfl⟩) hP hD hS hA [] rfl (fun _ _ h9 => h9.2) (fun r4 H locs hw5 hP hD hS => ?_)
    obtain ⟨hw5, -⟩ := hw5
    refine lv_if_eq (tgt := 37) hx hb dX7_limit_15 (by decide) (fun c6 => ?_) (fun c6 => ?_)
    · skip
      have hc6 : ¬ (1 ≤ p1 ∧ p1 ≤ 1000000) := bz_0 hw5 c6
      refine lv_iconst (v := 0) hx hb dX7_limit_37 (by decide) ?_
      refine k_zret (u := [(oX7 x x0 x1 x2 x3 x4 x5), (oX0 x0 b0 b1 b2 b3 b4 b5 b6 b7 b8 b9 b10 b11 (nI np) (nI nl) bi14), (aIc cI b0 8 B0)]) hx hb hr (by decide) hlk hP hD hS dX7_limit_38 ?_
      exact Or.inr ⟨(fun q => hc6 q.2.1), rfl, rfl⟩
    · skip
      have hc6 : 1 ≤ p1 ∧ p1 ≤ 1000000 := bz_1 hw5 c6
      refine lv_aload_n hx hb dX7_limit_18 rfl (lv_at hl 0 rfl) ?_
      refine va_get (D := D) (ci := 7) (v := .ref x0) (C := RX7) (T := TX7) (N := 6) hx hb hts hiX7 hown hE.1 hP 0 rfl rfl 0 (by decide) (hts _ (List.mem_cons_of_mem _ wd_19)) (fun _ h9 => h9) rfl dX7_limit_19 ?_
      refine va_get (D := D) (ci := 0) (v := .ref b0) (C := RX0) (T := TX0) (N := 15) hx hb hts hiX0 hown hE.1 hP 1 rfl rfl 0 (by decide) (hts _ (List.mem_cons_of_mem _ wd_159)) (fun _ h9 => h9) rfl dX7_limit_22 ?_
      refine lv_iload_n hx hb dX7_limit_25 rfl (lv_at hl 1 rfl) ?_
      refine lv_iload_n hx hb dX7_limit_26 rfl (lv_at hl 2 rfl) ?_
      refine k_i (va_runS (As := [.ref b0, .int p0, .int p1]) (rest := []) ⟨hx, hb, hml, hown, hts⟩ (m_X7_changed l D cI cJ H.size b0 8 p0 p1 B0 (by decide)) (va_cwS 3 hts gX7_limit_X7_changed rfl rfl rfl (by decide +kernel) ⟨Nat.le_of_ble_eq_true rfl, Nat.le_of_ble_eq_true rfl⟩) (k_pre hE hP hD [2] (by decide +kernel) rfl) rfl rfl hl.1 rfl (lv_room (Nat.le_of_ble_eq_true rfl)) dX7_limit_27 ⟨Nat.le_of_ble_eq_true rfl, Nat.le_of_ble_eq_true rfl⟩) hP hD hS hA [2] [0, 1] rfl (wr := [(oX7 x x0 x1 x2 x3 x4 x5), (oX0 x0 b0 b1 b2 b3 b4 b5 b6 b7 b8 b9 b10 b11 (nI np) (nI nl) bi14)]) rfl (by decide +kernel) (by decide +kernel) (fun r7 u H locs hw8 hP hD hS => ?_)
      rcases hw8 with ⟨ha9, rfl, rfl⟩ | ⟨ha10, rfl, rfl⟩
      · skip
        refine k_re (w := [(oX7 x x0 x1 x2 x3 x4 x5), (oX0 x0 b0 b1 b2 b3 b4 b5 b6 b7 b8 b9 b10 b11 (nI np) (nI nl) bi14), (aIc cI b0 8 (upd B0 (Int32.toNatClampNeg p0) p1))]) hP hD (fun hP hD => ?_)
        refine lv_if_eq (tgt := 37) hx hb dX7_limit_30 (by decide) (fun c11 => absurd c11 (by decide)) (fun _ => ?_)
        refine lv_iconst (v := 1) hx hb dX7_limit_33 (by decide) ?_
        refine lv_goto (tgt := 38) hx hb dX7_limit_34 (by decide) ?_
        refine k_zret (u := [(oX7 x x0 x1 x2 x3 x4 x5), (oX0 x0 b0 b1 b2 b3 b4 b5 b6 b7 b8 b9 b10 b11 (nI np) (nI nl) bi14), (aIc cI b0 8 (upd B0 (Int32.toNatClampNeg p0) p1))]) hx hb hr (by decide) hlk hP hD hS dX7_limit_38 ?_
        exact Or.inl ⟨⟨hc3, hc6, ha9.2.2⟩, rfl, rfl⟩
      · skip
        refine k_re (w := [(oX7 x x0 x1 x2 x3 x4 x5), (oX0 x0 b0 b1 b2 b3 b4 b5 b6 b7 b8 b9 b10 b11 (nI np) (nI nl) bi14), (aIc cI b0 8 B0)]) hP hD (fun hP hD => ?_)
        refine lv_if_eq (tgt := 37) hx hb dX7_limit_30 (by decide) (fun _ => ?_) (fun c12 => absurd (by decide) c12)
        refine lv_iconst (v := 0) hx hb dX7_limit_37 (by decide) ?_
        refine k_zret (u := [(oX7 x x0 x1 x2 x3 x4 x5), (oX0 x0 b0 b1 b2 b3 b4 b5 b6 b7 b8 b9 b10 b11 (nI np) (nI nl) bi14), (aIc cI b0 8 B0)]) hx hb hr (by decide) hlk hP hD hS dX7_limit_38 ?_
        exact Or.inr ⟨(fun q => ha10 ⟨(chg_p hnp (by decide) hc3).1, (chg_p hnp (by decide) hc3).2, q.2.2⟩), rfl, rfl⟩

