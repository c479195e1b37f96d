theorem ow_div {a b S : Nat} {x y : Int64} {z : Int32} (ha : a ≤ 100000000) (hb : b ≤ 1000000) (hS : b < S) (hS2 : S < 2 ^ 31) (ex : x = Int32.toInt64 (nI a) * Int32.toInt64 (nI b)) (ey : y = x / Int32.toInt64 (nI S)) (ez : z = Int64.toInt32 y) : z = nI (a * b / S) := by
  rw [nI_l hS2] at ey
  exact bc_div ha hb (by omega) hS2 ex ey ez
theorem ow_le {a b S : Nat} (h : b < S) : a * b / S ≤ a := by
  have h1 : a * b ≤ a * S := Nat.mul_le_mul_left a (by omega)
  have h2 := Nat.div_le_div_right (c := S) h1
  rwa [Nat.mul_div_cancel _ (by omega)] at h2
theorem ow_ne {S : Nat} (h : 0 < S) (h2 : S < 2 ^ 31) : ¬ Int32.toInt64 (nI S) = 0 := by
  rw [nI_l h2]; exact lN_ne h h2
theorem ow_sub {a b : Nat} {x : Int32} (ha : a < 2 ^ 30) (hb : b < 2 ^ 30) (ex : x = nI a - nI b) (h : 0 ≤ x) : b ≤ a ∧ x = nI (a - b) := by
  have h1 := Int32.le_iff_toInt_le.mp h
  rw [ex, pk_sub_toInt ha hb] at h1
  rw [show Int32.toInt 0 = 0 from rfl] at h1
  have h2 : b ≤ a := by omega
  exact ⟨h2, by rw [ex]; exact pk_sub h2⟩
theorem su_at {f : Nat → Int32} {n : Nat} (h : ∀ k, k < 64 → ∃ j : Nat, j ≤ 1000001 ∧ f k = nI j) (hn : n < 64) : ∃ j : Nat, j ≤ 1000001 ∧ f (Int32.toNatClampNeg (nI n)) = nI j := by
  rw [nI_clamp (by omega)]; exact h n hn
theorem dX8_owes_0 : decode cX8_owes 0 = .ok (.aload_n 0, 1) := by decide +kernel
theorem dX8_owes_1 : decode cX8_owes 1 = .ok (.getfield 22, 3) := by decide +kernel
theorem dX8_owes_4 : decode cX8_owes 4 = .ok (.iload_n 1, 1) := by decide +kernel
theorem dX8_owes_5 : decode cX8_owes 5 = .ok (.iaload, 1) := by decide +kernel
theorem dX8_owes_6 : decode cX8_owes 6 = .ok (.aload_n 0, 1) := by decide +kernel
theorem dX8_owes_7 : decode cX8_owes 7 = .ok (.getfield 37, 3) := by decide +kernel
theorem dX8_owes_10 : decode cX8_owes 10 = .ok (.iload_n 2, 1) := by decide +kernel
theorem dX8_owes_11 : decode cX8_owes 11 = .ok (.iaload, 1) := by decide +kernel
theorem dX8_owes_12 : decode cX8_owes 12 = .ok (.invokestatic 154, 3) := by decide +kernel
theorem dX8_owes_15 : decode cX8_owes 15 = .ok (.ifCond .ne 5, 3) := by decide +kernel
theorem dX8_owes_18 : decode cX8_owes 18 = .ok (.iconst 0, 1) := by decide +kernel
theorem dX8_owes_19 : decode cX8_owes 19 = .ok (.ireturn, 1) := by decide +kernel
theorem dX8_owes_20 : decode cX8_owes 20 = .ok (.aload_n 0, 1) := by decide +kernel
theorem dX8_owes_21 : decode cX8_owes 21 = .ok (.getfield 19, 3) := by decide +kernel
theorem dX8_owes_24 : decode cX8_owes 24 = .ok (.iload_n 1, 1) := by decide +kernel
theorem dX8_owes_25 : decode cX8_owes 25 = .ok (.iaload, 1) := by decide +kernel
theorem dX8_owes_26 : decode cX8_owes 26 = .ok (.aload_n 0, 1) := by decide +kernel
theorem dX8_owes_27 : decode cX8_owes 27 = .ok (.getfield 7, 3) := by decide +kernel
theorem dX8_owes_30 : decode cX8_owes 30 = .ok (.iload_n 1, 1) := by decide +kernel
theorem dX8_owes_31 : decode cX8_owes 31 = .ok (.iaload, 1) := by decide +kernel
theorem dX8_owes_32 : decode cX8_owes 32 = .ok (.if_icmp .le 25, 3) := by decide +kernel
theorem dX8_owes_35 : decode cX8_owes 35 = .ok (.iload_n 3, 1) := by decide +kernel
theorem dX8_owes_36 : decode cX8_owes 36 = .ok (.i2l, 1) := by decide +kernel
theorem dX8_owes_37 : decode cX8_owes 37 = .ok (.aload_n 0, 1) := by decide +kernel
theorem dX8_owes_38 : decode cX8_owes 38 = .ok (.getfield 7, 3) := by decide +kernel
theorem dX8_owes_41 : decode cX8_owes 41 = .ok (.iload_n 1, 1) := by decide +kernel
theorem dX8_owes_42 : decode cX8_owes 42 = .ok (.iaload, 1) := by decide +kernel
theorem dX8_owes_43 : decode cX8_owes 43 = .ok (.i2l, 1) := by decide +kernel
theorem dX8_owes_44 : decode cX8_owes 44 = .ok (.lmul, 1) := by decide +kernel
theorem dX8_owes_45 : decode cX8_owes 45 = .ok (.aload_n 0, 1) := by decide +kernel
theorem dX8_owes_46 : decode cX8_owes 46 = .ok (.getfield 19, 3) := by decide +kernel
theorem dX8_owes_49 : decode cX8_owes 49 = .ok (.iload_n 1, 1) := by decide +kernel
theorem dX8_owes_50 : decode cX8_owes 50 = .ok (.iaload, 1) := by decide +kernel
theorem dX8_owes_51 : decode cX8_owes 51 = .ok (.i2l, 1) := by decide +kernel
theorem dX8_owes_52 : decode cX8_owes 52 = .ok (.ldiv, 1) := by decide +kernel
theorem dX8_owes_53 : decode cX8_owes 53 = .ok (.l2i, 1) := by decide +kernel
theorem dX8_owes_54 : decode cX8_owes 54 = .ok (.goto 4, 3) := by decide +kernel
theorem dX8_owes_57 : decode cX8_owes 57 = .ok (.iload_n 3, 1) := by decide +kernel
theorem dX8_owes_58 : decode cX8_owes 58 = .ok (.istore 4, 2) := by decide +kernel
theorem dX8_owes_60 : decode cX8_owes 60 = .ok (.iload 4, 2) := by decide +kernel
theorem dX8_owes_62 : decode cX8_owes 62 = .ok (.aload_n 0, 1) := by decide +kernel
theorem dX8_owes_63 : decode cX8_owes 63 = .ok (.getfield 16, 3) := by decide +kernel
theorem dX8_owes_66 : decode cX8_owes 66 = .ok (.iload_n 1, 1) := by decide +kernel
theorem dX8_owes_67 : decode cX8_owes 67 = .ok (.iaload, 1) := by decide +kernel
theorem dX8_owes_68 : decode cX8_owes 68 = .ok (.isub, 1) := by decide +kernel
theorem dX8_owes_69 : decode cX8_owes 69 = .ok (.istore 4, 2) := by decide +kernel
theorem dX8_owes_71 : decode cX8_owes 71 = .ok (.iload 4, 2) := by decide +kernel
theorem dX8_owes_73 : decode cX8_owes 73 = .ok (.ifCond .ge 7, 3) := by decide +kernel
theorem dX8_owes_76 : decode cX8_owes 76 = .ok (.iconst 0, 1) := by decide +kernel
theorem dX8_owes_77 : decode cX8_owes 77 = .ok (.goto 5, 3) := by decide +kernel
theorem dX8_owes_80 : decode cX8_owes 80 = .ok (.iload 4, 2) := by decide +kernel
theorem dX8_owes_82 : decode cX8_owes 82 = .ok (.aload_n 0, 1) := by decide +kernel
theorem dX8_owes_83 : decode cX8_owes 83 = .ok (.getfield 7, 3) := by decide +kernel
theorem dX8_owes_86 : decode cX8_owes 86 = .ok (.iload_n 1, 1) := by decide +kernel
theorem dX8_owes_87 : decode cX8_owes 87 = .ok (.iaload, 1) := by decide +kernel
theorem dX8_owes_88 : decode cX8_owes 88 = .ok (.invokestatic 158, 3) := by decide +kernel
theorem dX8_owes_91 : decode cX8_owes 91 = .ok (.istore 4, 2) := by decide +kernel
theorem dX8_owes_93 : decode cX8_owes 93 = .ok (.aload_n 0, 1) := by decide +kernel
theorem dX8_owes_94 : decode cX8_owes 94 = .ok (.getfield 34, 3) := by decide +kernel
theorem dX8_owes_97 : decode cX8_owes 97 = .ok (.bipush 8, 2) := by decide +kernel
theorem dX8_owes_99 : decode cX8_owes 99 = .ok (.iload_n 1, 1) := by decide +kernel
theorem dX8_owes_100 : decode cX8_owes 100 = .ok (.imul, 1) := by decide +kernel
theorem dX8_owes_101 : decode cX8_owes 101 = .ok (.aload_n 0, 1) := by decide +kernel
theorem dX8_owes_102 : decode cX8_owes 102 = .ok (.getfield 37, 3) := by decide +kernel
theorem dX8_owes_105 : decode cX8_owes 105 = .ok (.iload_n 2, 1) := by decide +kernel
theorem dX8_owes_106 : decode cX8_owes 106 = .ok (.iaload, 1) := by decide +kernel
theorem dX8_owes_107 : decode cX8_owes 107 = .ok (.iadd, 1) := by decide +kernel
theorem dX8_owes_108 : decode cX8_owes 108 = .ok (.iaload, 1) := by decide +kernel
theorem dX8_owes_109 : decode cX8_owes 109 = .ok (.istore 5, 2) := by decide +kernel
theorem dX8_owes_111 : decode cX8_owes 111 = .ok (.iload 5, 2) := by decide +kernel
theorem dX8_owes_113 : decode cX8_owes 113 = .ok (.ifCond .le 15, 3) := by decide +kernel
theorem dX8_owes_116 : decode cX8_owes 116 = .ok (.iload 4, 2) := by decide +kernel
theorem dX8_owes_118 : decode cX8_owes 118 = .ok (.iload 5, 2) := by decide +kernel
theorem dX8_owes_120 : decode cX8_owes 120 = .ok (.iconst 1, 1) := by decide +kernel
theorem dX8_owes_121 : decode cX8_owes 121 = .ok (.isub, 1) := by decide +kernel
theorem dX8_owes_122 : decode cX8_owes 122 = .ok (.invokestatic 158, 3) := by decide +kernel
theorem dX8_owes_125 : decode cX8_owes 125 = .ok (.goto 5, 3) := by decide +kernel
theorem dX8_owes_128 : decode cX8_owes 128 = .ok (.iload 4, 2) := by decide +kernel
theorem dX8_owes_130 : decode cX8_owes 130 = .ok (.istore 4, 2) := by decide +kernel
theorem dX8_owes_132 : decode cX8_owes 132 = .ok (.iload 4, 2) := by decide +kernel
theorem dX8_owes_134 : decode cX8_owes 134 = .ok (.aload_n 0, 1) := by decide +kernel
theorem dX8_owes_135 : decode cX8_owes 135 = .ok (.getfield 52, 3) := by decide +kernel
theorem dX8_owes_138 : decode cX8_owes 138 = .ok (.iload_n 1, 1) := by decide +kernel
theorem dX8_owes_139 : decode cX8_owes 139 = .ok (.iaload, 1) := by decide +kernel
theorem dX8_owes_140 : decode cX8_owes 140 = .ok (.invokestatic 158, 3) := by decide +kernel
theorem dX8_owes_143 : decode cX8_owes 143 = .ok (.ireturn, 1) := by decide +kernel
theorem gX8_owes_X8_isOn : GoodIn wtX8_owes (va_wsS RX8 154 yX8_isOn wtX8_isOn) := tb_good (tb_s0 wd_423 wd_424 wd_5 wd_425)
theorem gX8_owes_X8_least : GoodIn wtX8_owes (va_wsS RX8 158 yX8_least wtX8_least) := tb_good (tb_s0 wd_430 wd_431 wd_5 wd_432)
set_option maxHeartbeats 4000000 in
set_option maxRecDepth 100000 in
theorem m_X8_owes (l : Launch) (D : va_G) (cI cJ : ClassId) (sz : Nat) (g g2 g3 g4 g5 g6 g7 g8 g9 g10 g12 g13 g15 g16 g17 g19 g20 g21 g22 g23 g24 g25 g26 g27 g28 g33 g34 g35 g36 g37 g38 g39 g41 g42 g44 g45 p0 l0 mu0 mn ml mv : Nat) (gi0 gi14 gi18 gi29 gi30 gi32 gi40 gi43 : Int32) (G2 G4 G5 G6 G10 G12 G19 : Nat → Int32) (li0 wo0 de0 le0 : Nat → Nat) (hp : p0 < 8) (hl0 : l0 < 10) (hmu : mu0 ≤ 100000000) (hit : ∀ k, k < 10 → ∃ j : Nat, j < 8 ∧ G12 k = nI j) (hsu : ∀ k, k < 64 → ∃ j : Nat, j ≤ 1000001 ∧ G10 k = nI j) (hliv : nv G2 li0) (hlib : ∀ k, k < 8 → li0 k ≤ 1000000) (hwov : nv G5 wo0) (hwob : ∀ k, k < 8 → wo0 k ≤ 9000000) (hdev : nv G4 de0) (hdeb : ∀ k, k < 8 → de0 k ≤ 99999) (hlev : nv G19 le0) (hleb : ∀ k, k < 8 → le0 k ≤ 9000000) : Met l yX8_owes wtX8_owes { frames := 1, cells := 0, slots := 0, locals := 21 } (cPc D cI cJ [.ref g, .int (nI p0), .int (nI l0), .int (nI mu0)] sz [(oX8 g gi0 (nI mn) g2 g3 g4 g5 g6 g7 g8 g9 g10 (nI ml) g12 g13 gi14 g15 g16 g17 gi18 g19 g20 g21 g22 g23 g24 g25 g26 g27 g28 gi29 gi30 (nI mv) gi32 g33 g34 g35 g36 g37 g38 g39 gi40 g41 g42 gi43 g44 g45), (aIc cI g2 8 G2), (aIc cI g4 8 G4), (aIc cI g5 8 G5), (aIc cI g6 8 G6), (aIc cI g10 64 G10), (aIc cI g12 10 G12), (aIc cI g19 8 G19)]) (cQi D (fun r u => ∃ (q0 : Nat), (q0 ≤ li0 p0) ∧ (q0 ≤ le0 p0) ∧ r = (nI q0) ∧ u = [(oX8 g gi0 (nI mn) g2 g3 g4 g5 g6 g7 g8 g9 g10 (nI ml) g12 g13 gi14 g15 g16 g17 gi18 g19 g20 g21 g22 g23 g24 g25 g26 g27 g28 gi29 gi30 (nI mv) gi32 g33 g34 g35 g36 g37 g38 g39 gi40 g41 g42 gi43 g44 g45), (aIc cI g2 8 G2), (aIc cI g4 8 G4), (aIc cI g5 8 G5), (aIc cI g6 8 G6), (aIc cI g10 64 G10), (aIc cI g12 10 G12), (aIc cI g19 8 G19)]) (va_A [(oX8 g gi0 (nI mn) g2 g3 g4 g5 g6 g7 g8 g9 g10 (nI ml) g12 g13 gi14 g15 g16 g17 gi18 g19 g20 g21 g22 g23 g24 g25 g26 g27 g28 gi29 gi30 (nI mv) gi32 g33 g34 g35 g36 g37 g38 g39 gi40 g41 g42 gi43 g44 g45), (aIc cI g2 8 G2), (aIc cI g4 8 G4), (aIc cI g5 8 G5), (aIc cI g6 8 G6), (aIc cI g10 64 G10), (aIc cI g12 10 G12), (aIc cI g19 8 G19)] sz)) 0 0 (va_A [(oX8 g gi0 (nI mn) g2 g3 g4 g5 g6 g7 g8 g9 g10 (nI ml) g12 g13 gi14 g15 g16 g17 gi18 g19 g20 g21 g22 g23 g24 g25 g26 g27 g28 gi29 gi30 (nI mv) gi32 g33 g34 g35 g36 g37 g38 g39 gi40 g41 g42 gi43 g44 g45), (aIc cI g2 8 G2), (aIc cI g4 8 G4), (aIc cI g5 8 G5), (aIc cI g6 8 G6), (aIc cI g10 64 G10), (aIc cI g12 10 G12), (aIc cI g19 8 G19)] sz) := by
  refine k_ofW (Qc := cQi D (fun r u => ∃ (q0 : Nat), (q0 ≤ li0 p0) ∧ (q0 ≤ le0 p0) ∧ r = (nI q0) ∧ u = [(oX8 g gi0 (nI mn) g2 g3 g4 g5 g6 g7 g8 g9 g10 (nI ml) g12 g13 gi14 g15 g16 g17 gi18 g19 g20 g21 g22 g23 g24 g25 g26 g27 g28 gi29 gi30 (nI mv) gi32 g33 g34 g35 g36 g37 g38 g39 gi40 g41 g42 gi43 g44 g45), (aIc cI g2 8 G2), (aIc cI g4 8 G4), (aIc cI g5 8 G5), (aIc cI g6 8 G6), (aIc cI g10 64 G10), (aIc cI g12 10 G12), (aIc cI g19 8 G19)])) (by decide) rfl (Nat.le_of_ble_eq_true rfl) ?_
  intro p e s m below meth c A ls hx hb hr hml hts hown hlk hnm hsz hE hP hD hS hA hl
  have hown : s.vm.findClass RX8 = some m.cls := hown
  have hiX8 : ∀ w ∈ u_ws RX8 TX8 46, w ∈ wtX8_owes := fun w h => List.mem_cons_of_mem _ (iuX8 w h)
  have hl : lv_has ls 6 [(0, .ref g), (1, .int (nI p0)), (2, .int (nI l0)), (3, .int (nI mu0))] := hl
  refine lv_aload_n hx hb dX8_owes_0 rfl (lv_at hl 0 rfl) ?_
  refine va_get (D := D) (ci := 8) (v := .ref g6) (C := RX8) (T := TX8) (N := 46) hx hb hts hiX8 hown hE.1 hP 0 rfl rfl 6 (by decide) (hts _ (List.mem_cons_of_mem _ wd_120)) (fun _ h9 => h9) rfl dX8_owes_1 ?_
  refine lv_iload_n hx hb dX8_owes_4 rfl (lv_at hl 1 rfl) ?_
  refine va_iald hx hb hE.1 hP 4 0 rfl rfl (vp_in_nI (n := p0) (by omega) (by decide)) dX8_owes_5 ?_
  refine lv_topi (fun v1 ev1 => ?_)
  refine lv_aload_n hx hb dX8_owes_6 rfl (lv_at hl 0 rfl) ?_
  refine va_get (D := D) (ci := 8) (v := .ref g12) (C := RX8) (T := TX8) (N := 46) hx hb hts hiX8 hown hE.1 hP 0 rfl rfl 12 (by decide) (hts _ (List.mem_cons_of_mem _ wd_125)) (fun _ h9 => h9) rfl dX8_owes_7 ?_
  refine lv_iload_n hx hb dX8_owes_10 rfl (lv_at hl 2 rfl) ?_
  refine va_iald hx hb hE.1 hP 6 0 rfl rfl (vp_in_nI (n := l0) (by omega) (by decide)) dX8_owes_11 ?_
  refine lv_topi (fun v2 ev2 => ?_)
  obtain ⟨n3, hn3, en3⟩ := li_at (n := l0) hit (by omega) (by decide)
  obtain rfl : v2 = nI n3 := ev2.trans en3
  refine k_iS (va_runS (As := [.int v1, .int (nI n3)]) (rest := []) ⟨hx, hb, hml, hown, hts⟩ (m_X8_isOn l D cI cJ (s.heap).size v1 (nI n3)) (va_cwS 2 hts gX8_owes_X8_isOn rfl rfl rfl (by decide +kernel) ⟨Nat.le_of_ble_eq_true rfl, Nat.le_of_ble_eq_true rfl⟩) (k_pre hE hP hD [] (by decide +kernel) rfl) rfl rfl hl.1 rfl (lv_room (Nat.le_of_ble_eq_true rfl)) dX8_owes_12 ⟨Nat.le_of_ble_eq_true rfl, Nat.le_of_ble_eq_true rfl⟩) hP hD hS hA [] rfl (fun _ _ h9 => h9.2) (fun r4 H locs hw5 hP hD hS => ?_)
  obtain ⟨hw5, -⟩ := hw5
  refine lv_if_ne (tgt := 20) hx hb dX8_owes_15 (by decide) (fun c6 => ?_) (fun c6 => ?_)
  · skip
    have hc6 : (v1 >>> ((nI n3) &&& 31)) &&& 1 = 1 := bz_1 hw5 c6
    refine lv_aload_n hx hb dX8_owes_20 rfl (lv_at hl 0 rfl) ?_
    refine va_get (D := D) (ci := 8) (v := .ref g5) (C := RX8) (T := TX8) (N := 46) hx hb hts hiX8 hown hE.1 hP 0 rfl rfl 5 (by decide) (hts _ (List.mem_cons_of_mem _ wd_119)) (fun _ h9 => h9) rfl dX8_owes_21 ?_
    refine lv_iload_n hx hb dX8_owes_24 rfl (lv_at hl 1 rfl) ?_
    refine va_iald hx hb hE.1 hP 3 0 rfl rfl (vp_in_nI (n := p0) (by omega) (by decide)) dX8_owes_25 ?_
    refine lv_topi (fun v7 ev7 => ?_)
    have hwob_ := hwob p0 (by omega)
    obtain rfl : v7 = nI (wo0 p0) := ev7.trans (nv_at hwov (by omega))
    refine lv_aload_n hx hb dX8_owes_26 rfl (lv_at hl 0 rfl) ?_
    refine va_get (D := D) (ci := 8) (v := .ref g2) (C := RX8) (T := TX8) (N := 46) hx hb hts hiX8 hown hE.1 hP 0 rfl rfl 2 (by decide) (hts _ (List.mem_cons_of_mem _ wd_116)) (fun _ h9 => h9) rfl dX8_owes_27 ?_
    refine lv_iload_n hx hb dX8_owes_30 rfl (lv_at hl 1 rfl) ?_
    refine va_iald hx hb hE.1 hP 1 0 rfl rfl (vp_in_nI (n := p0) (by omega) (by decide)) dX8_owes_31 ?_
    refine lv_topi (fun v8 ev8 => ?_)
    have hlib_ := hlib p0 (by omega)
    obtain rfl : v8 = nI (li0 p0) := ev8.trans (nv_at hliv (by omega))
    refine lv_icmp_le (tgt := 57) hx hb dX8_owes_32 (by decide) (fun c9 => ?_) (fun c9 => ?_)
    · skip
      have nc9 : wo0 p0 ≤ li0 p0 := (nI_leI (a := (wo0 p0)) (b := (li0 p0)) (by omega) (by omega)).mp c9
      refine lv_iload_n hx hb dX8_owes_57 rfl (lv_at hl 3 rfl) ?_
      refine lv_istore (lv' := [(4, .int (nI mu0)), (0, .ref g), (1, .int (nI p0)), (2, .int (nI l0)), (3, .int (nI mu0))]) hx hb dX8_owes_58 hl (by decide) rfl (fun ls hl => ?_)
      refine lv_iload hx hb dX8_owes_60 (lv_at hl 0 rfl) ?_
      refine lv_aload_n hx hb dX8_owes_62 rfl (lv_at hl 1 rfl) ?_
      refine va_get (D := D) (ci := 8) (v := .ref g4) (C := RX8) (T := TX8) (N := 46) hx hb hts hiX8 hown hE.1 hP 0 rfl rfl 4 (by decide) (hts _ (List.mem_cons_of_mem _ wd_118)) (fun _ h9 => h9) rfl dX8_owes_63 ?_
      refine lv_iload_n hx hb dX8_owes_66 rfl (lv_at hl 2 rfl) ?_
      refine va_iald hx hb hE.1 hP 2 0 rfl rfl (vp_in_nI (n := p0) (by omega) (by decide)) dX8_owes_67 ?_
      refine lv_topi (fun v10 ev10 => ?_)
      have hdeb_ := hdeb p0 (by omega)
      obtain rfl : v10 = nI (de0 p0) := ev10.trans (nv_at hdev (by omega))
      refine lv_isub hx hb dX8_owes_68 ?_
      refine lv_topi (fun v11 ev11 => ?_)
      refine lv_istore (lv' := [(4, .int v11), (0, .ref g), (1, .int (nI p0)), (2, .int (nI l0)), (3, .int (nI mu0))]) hx hb dX8_owes_69 hl (by decide) rfl (fun ls hl => ?_)
      refine lv_iload hx hb dX8_owes_71 (lv_at hl 0 rfl) ?_
      refine lv_if_ge (tgt := 80) hx hb dX8_owes_73 (by decide) (fun c12 => ?_) (fun c12 => ?_)
      · skip
        obtain ⟨hge9, ege9⟩ := ow_sub (by omega) (by omega) ev11 c12
        rw [ege9] at hl
        refine lv_iload hx hb dX8_owes_80 (lv_at hl 0 rfl) ?_
        refine lv_aload_n hx hb dX8_owes_82 rfl (lv_at hl 1 rfl) ?_
        refine va_get (D := D) (ci := 8) (v := .ref g2) (C := RX8) (T := TX8) (N := 46) hx hb hts hiX8 hown hE.1 hP 0 rfl rfl 2 (by decide) (hts _ (List.mem_cons_of_mem _ wd_116)) (fun _ h9 => h9) rfl dX8_owes_83 ?_
        refine lv_iload_n hx hb dX8_owes_86 rfl (lv_at hl 2 rfl) ?_
        refine va_iald hx hb hE.1 hP 1 0 rfl rfl (vp_in_nI (n := p0) (by omega) (by decide)) dX8_owes_87 ?_
        refine lv_topi (fun v13 ev13 => ?_)
        have hlib_ := hlib p0 (by omega)
        obtain rfl : v13 = nI (li0 p0) := ev13.trans (nv_at hliv (by omega))
        refine k_iS (va_runS (As := [.int (nI (mu0 - de0 p0)), .int (nI (li0 p0))]) (rest := []) ⟨hx, hb, hml, hown, hts⟩ (m_X8_least l D cI cJ H.size (mu0 - de0 p0) (li0 p0) (by omega) (by omega)) (va_cwS 2 hts gX8_owes_X8_least rfl rfl rfl (by decide +kernel) ⟨Nat.le_of_ble_eq_true rfl, Nat.le_of_ble_eq_true rfl⟩) (k_pre hE hP hD [] (by decide +kernel) rfl) rfl rfl hl.1 rfl (lv_room (Nat.le_of_ble_eq_true rfl)) dX8_owes_88 ⟨Nat.le_of_ble_eq_true rfl, Nat.le_of_ble_eq_true rfl⟩) hP hD hS hA [] rfl (fun _ _ ⟨_, h9⟩ => h9) (fun r14 H locs hw15 hP hD hS => ?_)
        obtain ⟨rfl, -⟩ := hw15
        refine lv_istore (lv' := [(4, .int (nI (min (mu0 - de0 p0) (li0 p0)))), (0, .ref g), (1, .int (nI p0)), (2, .int (nI l0)), (3, .int (nI mu0))]) hx hb dX8_owes_91 hl (by decide) rfl (fun ls hl => ?_)
        refine lv_aload_n hx hb dX8_owes_93 rfl (lv_at hl 1 rfl) ?_
        refine va_get (D := D) (ci := 8) (v := .ref g10) (C := RX8) (T := TX8) (N := 46) hx hb hts hiX8 hown hE.1 hP 0 rfl rfl 10 (by decide) (hts _ (List.mem_cons_of_mem _ wd_124)) (fun _ h9 => h9) rfl dX8_owes_94 ?_
        refine lv_bipush (v := 8) hx hb dX8_owes_97 (by decide) ?_
        refine lv_iload_n hx hb dX8_owes_99 rfl (lv_at hl 2 rfl) ?_
        refine lv_imul hx hb dX8_owes_100 ?_
        refine lv_topi (fun v16 ev16 => ?_)
        obtain rfl : v16 = (nI (8 * p0)) := by rw [ev16]; exact pk_mul 8 p0
        refine lv_aload_n hx hb dX8_owes_101 rfl (lv_at hl 1 rfl) ?_
        refine va_get (D := D) (ci := 8) (v := .ref g12) (C := RX8) (T := TX8) (N := 46) hx hb hts hiX8 hown hE.1 hP 0 rfl rfl 12 (by decide) (hts _ (List.mem_cons_of_mem _ wd_125)) (fun _ h9 => h9) rfl dX8_owes_102 ?_
        refine lv_iload_n hx hb dX8_owes_105 rfl (lv_at hl 3 rfl) ?_
        refine va_iald hx hb hE.1 hP 6 0 rfl rfl (vp_in_nI (n := l0) (by omega) (by decide)) dX8_owes_106 ?_
        refine lv_topi (fun v17 ev17 => ?_)
        obtain ⟨n18, hn18, en18⟩ := li_at (n := l0) hit (by omega) (by decide)
        obtain rfl : v17 = nI n18 := ev17.trans en18
        refine lv_iadd hx hb dX8_owes_107 ?_
        refine lv_topi (fun v19 ev19 => ?_)
        obtain rfl : v19 = (nI (8 * p0 + n18)) := by rw [ev19]; exact nI_add (8 * p0) n18
        refine va_iald hx hb hE.1 hP 5 0 rfl rfl (vp_in_nI (n := 8 * p0 + n18) (by omega) (by decide)) dX8_owes_108 ?_
        refine lv_topi (fun v20 ev20 => ?_)
        obtain ⟨sj, hsj, esj⟩ := su_at (n := 8 * p0 + n18) hsu (by omega)
        obtain rfl : v20 = nI sj := ev20.trans esj
        refine lv_istore (lv' := [(5, .int (nI sj)), (4, .int (nI (min (mu0 - de0 p0) (li0 p0)))), (0, .ref g), (1, .int (nI p0)), (2, .int (nI l0)), (3, .int (nI mu0))]) hx hb dX8_owes_109 hl (by decide) rfl (fun ls hl => ?_)
        refine lv_iload hx hb dX8_owes_111 (lv_at hl 0 rfl) ?_
        refine lv_if_le (tgt := 128) hx hb dX8_owes_113 (by decide) (fun c21 => ?_) (fun c21 => ?_)
        · skip
          have nc21 : sj ≤ 0 := (nI_leI (a := sj) (b := 0) (by omega) (by omega)).mp c21
          refine lv_iload hx hb dX8_owes_128 (lv_at hl 1 rfl) ?_
          refine lv_istore (lv' := [(4, .int (nI (min (mu0 - de0 p0) (li0 p0)))), (5, .int (nI sj)), (0, .ref g), (1, .int (nI p0)), (2, .int (nI l0)), (3, .int (nI mu0))]) hx hb dX8_owes_130 hl (by decide) rfl (fun ls hl => ?_)
          refine lv_iload hx hb dX8_owes_132 (lv_at hl 0 rfl) ?_
          refine lv_aload_n hx hb dX8_owes_134 rfl (lv_at hl 2 rfl) ?_
          refine va_get (D := D) (ci := 8) (v := .ref g19) (C := RX8) (T := TX8) (N := 46) hx hb hts hiX8 hown hE.1 hP 0 rfl rfl 19 (by decide) (hts _ (List.mem_cons_of_mem _ wd_130)) (fun _ h9 => h9) rfl dX8_owes_135 ?_
          refine lv_iload_n hx hb dX8_owes_138 rfl (lv_at hl 3 rfl) ?_
          refine va_iald hx hb hE.1 hP 7 0 rfl rfl (vp_in_nI (n := p0) (by omega) (by decide)) dX8_owes_139 ?_
          refine lv_topi (fun v22 ev22 => ?_)
          have hleb_ := hleb p0 (by omega)
          obtain rfl : v22 = nI (le0 p0) := ev22.trans (nv_at hlev (by omega))
          refine k_iS (va_runS (As := [.int (nI (min (mu0 - de0 p0) (li0 p0))), .int (nI (le0 p0))]) (rest := []) ⟨hx, hb, hml, hown, hts⟩ (m_X8_least l D cI cJ H.size (min (mu0 - de0 p0) (li0 p0)) (le0 p0) (by omega) (by omega)) (va_cwS 2 hts gX8_owes_X8_least rfl rfl rfl (by decide +kernel) ⟨Nat.le_of_ble_eq_true rfl, Nat.le_of_ble_eq_true rfl⟩) (k_pre hE hP hD [] (by decide +kernel) rfl) rfl rfl hl.1 rfl (lv_room (Nat.le_of_ble_eq_true rfl)) dX8_owes_140 ⟨Nat.le_of_ble_eq_true rfl, Nat.le_of_ble_eq_true rfl⟩) hP hD hS hA [] rfl (fun _ _ ⟨_, h9⟩ => h9) (fun r23 H locs hw24 hP hD hS => ?_)
          obtain ⟨rfl, -⟩ := hw24
          refine k_iret (u := [(oX8 g gi0 (nI mn) g2 g3 g4 g5 g6 g7 g8 g9 g10 (nI ml) g12 g13 gi14 g15 g16 g17 gi18 g19 g20 g21 g22 g23 g24 g25 g26 g27 g28 gi29 gi30 (nI mv) gi32 g33 g34 g35 g36 g37 g38 g39 gi40 g41 g42 gi43 g44 g45), (aIc cI g2 8 G2), (aIc cI g4 8 G4), (aIc cI g5 8 G5), (aIc cI g6 8 G6), (aIc cI g10 64 G10), (aIc cI g12 10 G12), (aIc cI g19 8 G19)]) hx hb hr hlk hP hD hS dX8_owes_143 ?_
          exact ⟨min (min (mu0 - de0 p0) (li0 p0)) (le0 p0), (by omega), (by omega), rfl, rfl⟩
        · skip
          have nc21 : ¬ sj ≤ 0 := fun q9 => c21 ((nI_leI (a := sj) (b := 0) (by omega) (by omega)).mpr q9)
          refine lv_iload hx hb dX8_owes_116 (lv_at hl 1 rfl) ?_
          refine lv_iload hx hb dX8_owes_118 (lv_at hl 0 rfl) ?_
          refine lv_iconst (v := 1) hx hb dX8_owes_120 (by decide) ?_
          refine lv_isub hx hb dX8_owes_121 ?_
          refine lv_topi (fun v25 ev25 => ?_)
          obtain rfl : v25 = nI (sj - 1) := by rw [ev25]; exact pk_sub (a := sj) (b := 1) (by omega)
          refine k_iS (va_runS (As := [.int (nI (min (mu0 - de0 p0) (li0 p0))), .int (nI (sj - 1))]) (rest := []) ⟨hx, hb, hml, hown, hts⟩ (m_X8_least l D cI cJ H.size (min (mu0 - de0 p0) (li0 p0)) (sj - 1) (by omega) (by omega)) (va_cwS 2 hts gX8_owes_X8_least rfl rfl rfl (by decide +kernel) ⟨Nat.le_of_ble_eq_true rfl, Nat.le_of_ble_eq_true rfl⟩) (k_pre hE hP hD [] (by decide +kernel) rfl) rfl rfl hl.1 rfl (lv_room (Nat.le_of_ble_eq_true rfl)) dX8_owes_122 ⟨Nat.le_of_ble_eq_true rfl, Nat.le_of_ble_eq_true rfl⟩) hP hD hS hA [] rfl (fun _ _ ⟨_, h9⟩ => h9) (fun r26 H locs hw27 hP hD hS => ?_)
          obtain ⟨rfl, -⟩ := hw27
          refine lv_goto (tgt := 130) hx hb dX8_owes_125 (by decide) ?_
          refine lv_istore (lv' := [(4, .int (nI (min (min (mu0 - de0 p0) (li0 p0)) (sj - 1)))), (5, .int (nI sj)), (0, .ref g), (1, .int (nI p0)), (2, .int (nI l0)), (3, .int (nI mu0))]) hx hb dX8_owes_130 hl (by decide) rfl (fun ls hl => ?_)
          refine lv_iload hx hb dX8_owes_132 (lv_at hl 0 rfl) ?_
          refine lv_aload_n hx hb dX8_owes_134 rfl (lv_at hl 2 rfl) ?_
          refine va_get (D := D) (ci := 8) (v := .ref g19) (C := RX8) (T := TX8) (N := 46) hx hb hts hiX8 hown hE.1 hP 0 rfl rfl 19 (by decide) (hts _ (List.mem_cons_of_mem _ wd_130)) (fun _ h9 => h9) rfl dX8_owes_135 ?_
          refine lv_iload_n hx hb dX8_owes_138 rfl (lv_at hl 3 rfl) ?_
          refine va_iald hx hb hE.1 hP 7 0 rfl rfl (vp_in_nI (n := p0) (by omega) (by decide)) dX8_owes_139 ?_
          refine lv_topi (fun v28 ev28 => ?_)
          have hleb_ := hleb p0 (by omega)
          obtain rfl : v28 = nI (le0 p0) := ev28.trans (nv_at hlev (by omega))
          refine k_iS (va_runS (As := [.int (nI (min (min (mu0 - de0 p0) (li0 p0)) (sj - 1))), .int (nI (le0 p0))]) (rest := []) ⟨hx, hb, hml, hown, hts⟩ (m_X8_least l D cI cJ H.size (min (min (mu0 - de0 p0) (li0 p0)) (sj - 1)) (le0 p0) (by omega) (by omega)) (va_cwS 2 hts gX8_owes_X8_least rfl rfl rfl (by decide +kernel) ⟨Nat.le_of_ble_eq_true rfl, Nat.le_of_ble_eq_true rfl⟩) (k_pre hE hP hD [] (by decide +kernel) rfl) rfl rfl hl.1 rfl (lv_room (Nat.le_of_ble_eq_true rfl)) dX8_owes_140 ⟨Nat.le_of_ble_eq_true rfl, Nat.le_of_ble_eq_true rfl⟩) hP hD hS hA [] rfl (fun _ _ ⟨_, h9⟩ => h9) (fun r29 H locs hw30 hP hD hS => ?_)
          obtain ⟨rfl, -⟩ := hw30
          refine k_iret (u := [(oX8 g gi0 (nI mn) g2 g3 g4 g5 g6 g7 g8 g9 g10 (nI ml) g12 g13 gi14 g15 g16 g17 gi18 g19 g20 g21 g22 g23 g24 g25 g26 g27 g28 gi29 gi30 (nI mv) gi32 g33 g34 g35 g36 g37 g38 g39 gi40 g41 g42 gi43 g44 g45), (aIc cI g2 8 G2), (aIc cI g4 8 G4), (aIc cI g5 8 G5), (aIc cI g6 8 G6), (aIc cI g10 64 G10), (aIc cI g12 10 G12), (aIc cI g19 8 G19)]) hx hb hr hlk hP hD hS dX8_owes_143 ?_
          exact ⟨min (min (min (mu0 - de0 p0) (li0 p0)) (sj - 1)) (le0 p0), (by omega), (by omega), rfl, rfl⟩
      · skip
        refine lv_iconst (v := 0) hx hb dX8_owes_76 (by decide) ?_
        refine lv_goto (tgt := 82) hx hb dX8_owes_77 (by decide) ?_
        refine lv_aload_n hx hb dX8_owes_82 rfl (lv_at hl 1 rfl) ?_
        refine va_get (D := D) (ci := 8) (v := .ref g2) (C := RX8) (T := TX8) (N := 46) hx hb hts hiX8 hown hE.1 hP 0 rfl rfl 2 (by decide) (hts _ (List.mem_cons_of_mem _ wd_116)) (fun _ h9 => h9) rfl dX8_owes_83 ?_
        refine lv_iload_n hx hb dX8_owes_86 rfl (lv_at hl 2 rfl) ?_
        refine va_iald hx hb hE.1 hP 1 0 rfl rfl (vp_in_nI (n := p0) (by omega) (by decide)) dX8_owes_87 ?_
        refine lv_topi (fun v31 ev31 => ?_)
        have hlib_ := hlib p0 (by omega)
        obtain rfl : v31 = nI (li0 p0) := ev31.trans (nv_at hliv (by omega))
        refine k_iS (va_runS (As := [.int 0, .int (nI (li0 p0))]) (rest := []) ⟨hx, hb, hml, hown, hts⟩ (m_X8_least l D cI cJ H.size 0 (li0 p0) (by omega) (by omega)) (va_cwS 2 hts gX8_owes_X8_least rfl rfl rfl (by decide +kernel) ⟨Nat.le_of_ble_eq_true rfl, Nat.le_of_ble_eq_true rfl⟩) (k_pre hE hP hD [] (by decide +kernel) rfl) rfl rfl hl.1 rfl (lv_room (Nat.le_of_ble_eq_true rfl)) dX8_owes_88 ⟨Nat.le_of_ble_eq_true rfl, Nat.le_of_ble_eq_true rfl⟩) hP hD hS hA [] rfl (fun _ _ ⟨_, h9⟩ => h9) (fun r32 H locs hw33 hP hD hS => ?_)
        obtain ⟨rfl, -⟩ := hw33
        refine lv_istore (lv' := [(4, .int (nI (min 0 (li0 p0)))), (0, .ref g), (1, .int (nI p0)), (2, .int (nI l0)), (3, .int (nI mu0))]) hx hb dX8_owes_91 hl (by decide) rfl (fun ls hl => ?_)
        refine lv_aload_n hx hb dX8_owes_93 rfl (lv_at hl 1 rfl) ?_
        refine va_get (D := D) (ci := 8) (v := .ref g10) (C := RX8) (T := TX8) (N := 46) hx hb hts hiX8 hown hE.1 hP 0 rfl rfl 10 (by decide) (hts _ (List.mem_cons_of_mem _ wd_124)) (fun _ h9 => h9) rfl dX8_owes_94 ?_
        refine lv_bipush (v := 8) hx hb dX8_owes_97 (by decide) ?_
        refine lv_iload_n hx hb dX8_owes_99 rfl (lv_at hl 2 rfl) ?_
        refine lv_imul hx hb dX8_owes_100 ?_
        refine lv_topi (fun v34 ev34 => ?_)
        obtain rfl : v34 = (nI (8 * p0)) := by rw [ev34]; exact pk_mul 8 p0
        refine lv_aload_n hx hb dX8_owes_101 rfl (lv_at hl 1 rfl) ?_
        refine va_get (D := D) (ci := 8) (v := .ref g12) (C := RX8) (T := TX8) (N := 46) hx hb hts hiX8 hown hE.1 hP 0 rfl rfl 12 (by decide) (hts _ (List.mem_cons_of_mem _ wd_125)) (fun _ h9 => h9) rfl dX8_owes_102 ?_
        refine lv_iload_n hx hb dX8_owes_105 rfl (lv_at hl 3 rfl) ?_
        refine va_iald hx hb hE.1 hP 6 0 rfl rfl (vp_in_nI (n := l0) (by omega) (by decide)) dX8_owes_106 ?_
        refine lv_topi (fun v35 ev35 => ?_)
        obtain ⟨n36, hn36, en36⟩ := li_at (n := l0) hit (by omega) (by decide)
        obtain rfl : v35 = nI n36 := ev35.trans en36
        refine lv_iadd hx hb dX8_owes_107 ?_
        refine lv_topi (fun v37 ev37 => ?_)
        obtain rfl : v37 = (nI (8 * p0 + n36)) := by rw [ev37]; exact nI_add (8 * p0) n36
        refine va_iald hx hb hE.1 hP 5 0 rfl rfl (vp_in_nI (n := 8 * p0 + n36) (by omega) (by decide)) dX8_owes_108 ?_
        refine lv_topi (fun v38 ev38 => ?_)
        obtain ⟨sj, hsj, esj⟩ := su_at (n := 8 * p0 + n36) hsu (by omega)
        obtain rfl : v38 = nI sj := ev38.trans esj
        refine lv_istore (lv' := [(5, .int (nI sj)), (4, .int (nI (min 0 (li0 p0)))), (0, .ref g), (1, .int (nI p0)), (2, .int (nI l0)), (3, .int (nI mu0))]) hx hb dX8_owes_109 hl (by decide) rfl (fun ls hl => ?_)
        refine lv_iload hx hb dX8_owes_111 (lv_at hl 0 rfl) ?_
        refine lv_if_le (tgt := 128) hx hb dX8_owes_113 (by decide) (fun c39 => ?_) (fun c39 => ?_)
        · skip
          have nc39 : sj ≤ 0 := (nI_leI (a := sj) (b := 0) (by omega) (by omega)).mp c39
          refine lv_iload hx hb dX8_owes_128 (lv_at hl 1 rfl) ?_
          refine lv_istore (lv' := [(4, .int (nI (min 0 (li0 p0)))), (5, .int (nI sj)), (0, .ref g), (1, .int (nI p0)), (2, .int (nI l0)), (3, .int (nI mu0))]) hx hb dX8_owes_130 hl (by decide) rfl (fun ls hl => ?_)
          refine lv_iload hx hb dX8_owes_132 (lv_at hl 0 rfl) ?_
          refine lv_aload_n hx hb dX8_owes_134 rfl (lv_at hl 2 rfl) ?_
          refine va_get (D := D) (ci := 8) (v := .ref g19) (C := RX8) (T := TX8) (N := 46) hx hb hts hiX8 hown hE.1 hP 0 rfl rfl 19 (by decide) (hts _ (List.mem_cons_of_mem _ wd_130)) (fun _ h9 => h9) rfl dX8_owes_135 ?_
          refine lv_iload_n hx hb dX8_owes_138 rfl (lv_at hl 3 rfl) ?_
          refine va_iald hx hb hE.1 hP 7 0 rfl rfl (vp_in_nI (n := p0) (by omega) (by decide)) dX8_owes_139 ?_
          refine lv_topi (fun v40 ev40 => ?_)
          have hleb_ := hleb p0 (by omega)
          obtain rfl : v40 = nI (le0 p0) := ev40.trans (nv_at hlev (by omega))
          refine k_iS (va_runS (As := [.int (nI (min 0 (li0 p0))), .int (nI (le0 p0))]) (rest := []) ⟨hx, hb, hml, hown, hts⟩ (m_X8_least l D cI cJ H.size (min 0 (li0 p0)) (le0 p0) (by omega) (by omega)) (va_cwS 2 hts gX8_owes_X8_least rfl rfl rfl (by decide +kernel) ⟨Nat.le_of_ble_eq_true rfl, Nat.le_of_ble_eq_true rfl⟩) (k_pre hE hP hD [] (by decide +kernel) rfl) rfl rfl hl.1 rfl (lv_room (Nat.le_of_ble_eq_true rfl)) dX8_owes_140 ⟨Nat.le_of_ble_eq_true rfl, Nat.le_of_ble_eq_true rfl⟩) hP hD hS hA [] rfl (fun _ _ ⟨_, h9⟩ => h9) (fun r41 H locs hw42 hP hD hS => ?_)
          obtain ⟨rfl, -⟩ := hw42
          refine k_iret (u := [(oX8 g gi0 (nI mn) g2 g3 g4 g5 g6 g7 g8 g9 g10 (nI ml) g12 g13 gi14 g15 g16 g17 gi18 g19 g20 g21 g22 g23 g24 g25 g26 g27 g28 gi29 gi30 (nI mv) gi32 g33 g34 g35 g36 g37 g38 g39 gi40 g41 g42 gi43 g44 g45), (aIc cI g2 8 G2), (aIc cI g4 8 G4), (aIc cI g5 8 G5), (aIc cI g6 8 G6), (aIc cI g10 64 G10), (aIc cI g12 10 G12), (aIc cI g19 8 G19)]) hx hb hr hlk hP hD hS dX8_owes_143 ?_
          exact ⟨min (min 0 (li0 p0)) (le0 p0), (by omega), (by omega), rfl, rfl⟩
        · skip
          have nc39 : ¬ sj ≤ 0 := fun q9 => c39 ((nI_leI (a := sj) (b := 0) (by omega) (by omega)).mpr q9)
          refine lv_iload hx hb dX8_owes_116 (lv_at hl 1 rfl) ?_
          refine lv_iload hx hb dX8_owes_118 (lv_at hl 0 rfl) ?_
          refine lv_iconst (v := 1) hx hb dX8_owes_120 (by decide) ?_
          refine lv_isub hx hb dX8_owes_121 ?_
          refine lv_topi (fun v43 ev43 => ?_)
          obtain rfl : v43 = nI (sj - 1) := by rw [ev43]; exact pk_sub (a := sj) (b := 1) (by omega)
          refine k_iS (va_runS (As := [.int (nI (min 0 (li0 p0))), .int (nI (sj - 1))]) (rest := []) ⟨hx, hb, hml, hown, hts⟩ (m_X8_least l D cI cJ H.size (min 0 (li0 p0)) (sj - 1) (by omega) (by omega)) (va_cwS 2 hts gX8_owes_X8_least rfl rfl rfl (by decide +kernel) ⟨Nat.le_of_ble_eq_true rfl, Nat.le_of_ble_eq_true rfl⟩) (k_pre hE hP hD [] (by decide +kernel) rfl) rfl rfl hl.1 rfl (lv_room (Nat.le_of_ble_eq_true rfl)) dX8_owes_122 ⟨Nat.le_of_ble_eq_true rfl, Nat.le_of_ble_eq_true rfl⟩) hP hD hS hA [] rfl (fun _ _ ⟨_, h9⟩ => h9) (fun r44 H locs hw45 hP hD hS => ?_)
          obtain ⟨rfl, -⟩ := hw45
          refine lv_goto (tgt := 130) hx hb dX8_owes_125 (by decide) ?_
          refine lv_istore (lv' := [(4, .int (nI (min (min 0 (li0 p0)) (sj - 1)))), (5, .int (nI sj)), (0, .ref g), (1, .int (nI p0)), (2, .int (nI l0)), (3, .int (nI mu0))]) hx hb dX8_owes_130 hl (by decide) rfl (fun ls hl => ?_)
          refine lv_iload hx hb dX8_owes_132 (lv_at hl 0 rfl) ?_
          refine lv_aload_n hx hb dX8_owes_134 rfl (lv_at hl 2 rfl) ?_
          refine va_get (D := D) (ci := 8) (v := .ref g19) (C := RX8) (T := TX8) (N := 46) hx hb hts hiX8 hown hE.1 hP 0 rfl rfl 19 (by decide) (hts _ (List.mem_cons_of_mem _ wd_130)) (fun _ h9 => h9) rfl dX8_owes_135 ?_
          refine lv_iload_n hx hb dX8_owes_138 rfl (lv_at hl 3 rfl) ?_
          refine va_iald hx hb hE.1 hP 7 0 rfl rfl (vp_in_nI (n := p0) (by omega) (by decide)) dX8_owes_139 ?_
          refine lv_topi (fun v46 ev46 => ?_)
          have hleb_ := hleb p0 (by omega)
          obtain rfl : v46 = nI (le0 p0) := ev46.trans (nv_at hlev (by omega))
          refine k_iS (va_runS (As := [.int (nI (min (min 0 (li0 p0)) (sj - 1))), .int (nI (le0 p0))]) (rest := []) ⟨hx, hb, hml, hown, hts⟩ (m_X8_least l D cI cJ H.size (min (min 0 (li0 p0)) (sj - 1)) (le0 p0) (by omega) (by omega)) (va_cwS 2 hts gX8_owes_X8_least rfl rfl rfl (by decide +kernel) ⟨Nat.le_of_ble_eq_true rfl, Nat.le_of_ble_eq_true rfl⟩) (k_pre hE hP hD [] (by decide +kernel) rfl) rfl rfl hl.1 rfl (lv_room (Nat.le_of_ble_eq_true rfl)) dX8_owes_140 ⟨Nat.le_of_ble_eq_true rfl, Nat.le_of_ble_eq_true rfl⟩) hP hD hS hA [] rfl (fun _ _ ⟨_, h9⟩ => h9) (fun r47 H locs hw48 hP hD hS => ?_)
          obtain ⟨rfl, -⟩ := hw48
          refine k_iret (u := [(oX8 g gi0 (nI mn) g2 g3 g4 g5 g6 g7 g8 g9 g10 (nI ml) g12 g13 gi14 g15 g16 g17 gi18 g19 g20 g21 g22 g23 g24 g25 g26 g27 g28 gi29 gi30 (nI mv) gi32 g33 g34 g35 g36 g37 g38 g39 gi40 g41 g42 gi43 g44 g45), (aIc cI g2 8 G2), (aIc cI g4 8 G4), (aIc cI g5 8 G5), (aIc cI g6 8 G6), (aIc cI g10 64 G10), (aIc cI g12 10 G12), (aIc cI g19 8 G19)]) hx hb hr hlk hP hD hS dX8_owes_143 ?_
          exact ⟨min (min (min 0 (li0 p0)) (sj - 1)) (le0 p0), (by omega), (by omega), rfl, rfl⟩
    · skip
      have nc9 : ¬ wo0 p0 ≤ li0 p0 := fun q9 => c9 ((nI_leI (a := (wo0 p0)) (b := (li0 p0)) (by omega) (by omega)).mpr q9)
      refine lv_iload_n hx hb dX8_owes_35 rfl (lv_at hl 3 rfl) ?_
      refine lv_i2l hx hb dX8_owes_36 rfl ?_
      refine lv_aload_n hx hb dX8_owes_37 rfl (lv_at hl 0 rfl) ?_
      refine va_get (D := D) (ci := 8) (v := .ref g2) (C := RX8) (T := TX8) (N := 46) hx hb hts hiX8 hown hE.1 hP 0 rfl rfl 2 (by decide) (hts _ (List.mem_cons_of_mem _ wd_116)) (fun _ h9 => h9) rfl dX8_owes_38 ?_
      refine lv_iload_n hx hb dX8_owes_41 rfl (lv_at hl 1 rfl) ?_
      refine va_iald hx hb hE.1 hP 1 0 rfl rfl (vp_in_nI (n := p0) (by omega) (by decide)) dX8_owes_42 ?_
      refine lv_topi (fun v49 ev49 => ?_)
      obtain rfl : v49 = nI (li0 p0) := ev49.trans (nv_at hliv (by omega))
      refine lv_i2l hx hb dX8_owes_43 rfl ?_
      refine lv_lmul hx hb dX8_owes_44 ?_
      refine lv_topl (fun v50 ev50 => ?_)
      refine lv_aload_n hx hb dX8_owes_45 rfl (lv_at hl 0 rfl) ?_
      refine va_get (D := D) (ci := 8) (v := .ref g5) (C := RX8) (T := TX8) (N := 46) hx hb hts hiX8 hown hE.1 hP 0 rfl rfl 5 (by decide) (hts _ (List.mem_cons_of_mem _ wd_119)) (fun _ h9 => h9) rfl dX8_owes_46 ?_
      refine lv_iload_n hx hb dX8_owes_49 rfl (lv_at hl 1 rfl) ?_
      refine va_iald hx hb hE.1 hP 3 0 rfl rfl (vp_in_nI (n := p0) (by omega) (by decide)) dX8_owes_50 ?_
      refine lv_topi (fun v51 ev51 => ?_)
      obtain rfl : v51 = nI (wo0 p0) := ev51.trans (nv_at hwov (by omega))
      refine lv_i2l hx hb dX8_owes_51 rfl ?_
      refine lv_ldiv hx hb dX8_owes_52 (ow_ne (by omega) (by omega)) ?_
      refine lv_topl (fun v52 ev52 => ?_)
      refine lv_l2i hx hb dX8_owes_53 rfl ?_
      refine lv_topi (fun v53 ev53 => ?_)
      obtain ⟨vq, evq⟩ : ∃ z : Nat, z = mu0 * li0 p0 / wo0 p0 := ⟨_, rfl⟩
      have hvq : vq ≤ mu0 := by rw [evq]; exact ow_le (by omega)
      obtain rfl : v53 = nI vq := by rw [evq]; exact ow_div hmu (hlib p0 hp) (by omega) (by omega) ev50 ev52 ev53
      refine lv_goto (tgt := 58) hx hb dX8_owes_54 (by decide) ?_
      refine lv_istore (lv' := [(4, .int (nI vq)), (0, .ref g), (1, .int (nI p0)), (2, .int (nI l0)), (3, .int (nI mu0))]) hx hb dX8_owes_58 hl (by decide) rfl (fun ls hl => ?_)
      refine lv_iload hx hb dX8_owes_60 (lv_at hl 0 rfl) ?_
      refine lv_aload_n hx hb dX8_owes_62 rfl (lv_at hl 1 rfl) ?_
      refine va_get (D := D) (ci := 8) (v := .ref g4) (C := RX8) (T := TX8) (N := 46) hx hb hts hiX8 hown hE.1 hP 0 rfl rfl 4 (by decide) (hts _ (List.mem_cons_of_mem _ wd_118)) (fun _ h9 => h9) rfl dX8_owes_63 ?_
      refine lv_iload_n hx hb dX8_owes_66 rfl (lv_at hl 2 rfl) ?_
      refine va_iald hx hb hE.1 hP 2 0 rfl rfl (vp_in_nI (n := p0) (by omega) (by decide)) dX8_owes_67 ?_
      refine lv_topi (fun v54 ev54 => ?_)
      have hdeb_ := hdeb p0 (by omega)
      obtain rfl : v54 = nI (de0 p0) := ev54.trans (nv_at hdev (by omega))
      refine lv_isub hx hb dX8_owes_68 ?_
      refine lv_topi (fun v55 ev55 => ?_)
      refine lv_istore (lv' := [(4, .int v55), (0, .ref g), (1, .int (nI p0)), (2, .int (nI l0)), (3, .int (nI mu0))]) hx hb dX8_owes_69 hl (by decide) rfl (fun ls hl => ?_)
      refine lv_iload hx hb dX8_owes_71 (lv_at hl 0 rfl) ?_
      refine lv_if_ge (tgt := 80) hx hb dX8_owes_73 (by decide) (fun c56 => ?_) (fun c56 => ?_)
      · skip
        obtain ⟨hge9, ege9⟩ := ow_sub (by omega) (by omega) ev55 c56
        rw [ege9] at hl
        refine lv_iload hx hb dX8_owes_80 (lv_at hl 0 rfl) ?_
        refine lv_aload_n hx hb dX8_owes_82 rfl (lv_at hl 1 rfl) ?_
        refine va_get (D := D) (ci := 8) (v := .ref g2) (C := RX8) (T := TX8) (N := 46) hx hb hts hiX8 hown hE.1 hP 0 rfl rfl 2 (by decide) (hts _ (List.mem_cons_of_mem _ wd_116)) (fun _ h9 => h9) rfl dX8_owes_83 ?_
        refine lv_iload_n hx hb dX8_owes_86 rfl (lv_at hl 2 rfl) ?_
        refine va_iald hx hb hE.1 hP 1 0 rfl rfl (vp_in_nI (n := p0) (by omega) (by decide)) dX8_owes_87 ?_
        refine lv_topi (fun v57 ev57 => ?_)
        have hlib_ := hlib p0 (by omega)
        obtain rfl : v57 = nI (li0 p0) := ev57.trans (nv_at hliv (by omega))
        refine k_iS (va_runS (As := [.int (nI (vq - de0 p0)), .int (nI (li0 p0))]) (rest := []) ⟨hx, hb, hml, hown, hts⟩ (m_X8_least l D cI cJ H.size (vq - de0 p0) (li0 p0) (by omega) (by omega)) (va_cwS 2 hts gX8_owes_X8_least rfl rfl rfl (by decide +kernel) ⟨Nat.le_of_ble_eq_true rfl, Nat.le_of_ble_eq_true rfl⟩) (k_pre hE hP hD [] (by decide +kernel) rfl) rfl rfl hl.1 rfl (lv_room (Nat.le_of_ble_eq_true rfl)) dX8_owes_88 ⟨Nat.le_of_ble_eq_true rfl, Nat.le_of_ble_eq_true rfl⟩) hP hD hS hA [] rfl (fun _ _ ⟨_, h9⟩ => h9) (fun r58 H locs hw59 hP hD hS => ?_)
        obtain ⟨rfl, -⟩ := hw59
        refine lv_istore (lv' := [(4, .int (nI (min (vq - de0 p0) (li0 p0)))), (0, .ref g), (1, .int (nI p0)), (2, .int (nI l0)), (3, .int (nI mu0))]) hx hb dX8_owes_91 hl (by decide) rfl (fun ls hl => ?_)
        refine lv_aload_n hx hb dX8_owes_93 rfl (lv_at hl 1 rfl) ?_
        refine va_get (D := D) (ci := 8) (v := .ref g10) (C := RX8) (T := TX8) (N := 46) hx hb hts hiX8 hown hE.1 hP 0 rfl rfl 10 (by decide) (hts _ (List.mem_cons_of_mem _ wd_124)) (fun _ h9 => h9) rfl dX8_owes_94 ?_
        refine lv_bipush (v := 8) hx hb dX8_owes_97 (by decide) ?_
        refine lv_iload_n hx hb dX8_owes_99 rfl (lv_at hl 2 rfl) ?_
        refine lv_imul hx hb dX8_owes_100 ?_
        refine lv_topi (fun v60 ev60 => ?_)
        obtain rfl : v60 = (nI (8 * p0)) := by rw [ev60]; exact pk_mul 8 p0
        refine lv_aload_n hx hb dX8_owes_101 rfl (lv_at hl 1 rfl) ?_
        refine va_get (D := D) (ci := 8) (v := .ref g12) (C := RX8) (T := TX8) (N := 46) hx hb hts hiX8 hown hE.1 hP 0 rfl rfl 12 (by decide) (hts _ (List.mem_cons_of_mem _ wd_125)) (fun _ h9 => h9) rfl dX8_owes_102 ?_
        refine lv_iload_n hx hb dX8_owes_105 rfl (lv_at hl 3 rfl) ?_
        refine va_iald hx hb hE.1 hP 6 0 rfl rfl (vp_in_nI (n := l0) (by omega) (by decide)) dX8_owes_106 ?_
        refine lv_topi (fun v61 ev61 => ?_)
        obtain ⟨n62, hn62, en62⟩ := li_at (n := l0) hit (by omega) (by decide)
        obtain rfl : v61 = nI n62 := ev61.trans en62
        refine lv_iadd hx hb dX8_owes_107 ?_
        refine lv_topi (fun v63 ev63 => ?_)
        obtain rfl : v63 = (nI (8 * p0 + n62)) := by rw [ev63]; exact nI_add (8 * p0) n62
        refine va_iald hx hb hE.1 hP 5 0 rfl rfl (vp_in_nI (n := 8 * p0 + n62) (by omega) (by decide)) dX8_owes_108 ?_
        refine lv_topi (fun v64 ev64 => ?_)
        obtain ⟨sj, hsj, esj⟩ := su_at (n := 8 * p0 + n62) hsu (by omega)
        obtain rfl : v64 = nI sj := ev64.trans esj
        refine lv_istore (lv' := [(5, .int (nI sj)), (4, .int (nI (min (vq - de0 p0) (li0 p0)))), (0, .ref g), (1, .int (nI p0)), (2, .int (nI l0)), (3, .int (nI mu0))]) hx hb dX8_owes_109 hl (by decide) rfl (fun ls hl => ?_)
        refine lv_iload hx hb dX8_owes_111 (lv_at hl 0 rfl) ?_
        refine lv_if_le (tgt := 128) hx hb dX8_owes_113 (by decide) (fun c65 => ?_) (fun c65 => ?_)
        · skip
          have nc65 : sj ≤ 0 := (nI_leI (a := sj) (b := 0) (by omega) (by omega)).mp c65
          refine lv_iload hx hb dX8_owes_128 (lv_at hl 1 rfl) ?_
          refine lv_istore (lv' := [(4, .int (nI (min (vq - de0 p0) (li0 p0)))), (5, .int (nI sj)), (0, .ref g), (1, .int (nI p0)), (2, .int (nI l0)), (3, .int (nI mu0))]) hx hb dX8_owes_130 hl (by decide) rfl (fun ls hl => ?_)
          refine lv_iload hx hb dX8_owes_132 (lv_at hl 0 rfl) ?_
          refine lv_aload_n hx hb dX8_owes_134 rfl (lv_at hl 2 rfl) ?_
          refine va_get (D := D) (ci := 8) (v := .ref g19) (C := RX8) (T := TX8) (N := 46) hx hb hts hiX8 hown hE.1 hP 0 rfl rfl 19 (by decide) (hts _ (List.mem_cons_of_mem _ wd_130)) (fun _ h9 => h9) rfl dX8_owes_135 ?_
          refine lv_iload_n hx hb dX8_owes_138 rfl (lv_at hl 3 rfl) ?_
          refine va_iald hx hb hE.1 hP 7 0 rfl rfl (vp_in_nI (n := p0) (by omega) (by decide)) dX8_owes_139 ?_
          refine lv_topi (fun v66 ev66 => ?_)
          have hleb_ := hleb p0 (by omega)
          obtain rfl : v66 = nI (le0 p0) := ev66.trans (nv_at hlev (by omega))
          refine k_iS (va_runS (As := [.int (nI (min (vq - de0 p0) (li0 p0))), .int (nI (le0 p0))]) (rest := []) ⟨hx, hb, hml, hown, hts⟩ (m_X8_least l D cI cJ H.size (min (vq - de0 p0) (li0 p0)) (le0 p0) (by omega) (by omega)) (va_cwS 2 hts gX8_owes_X8_least rfl rfl rfl (by decide +kernel) ⟨Nat.le_of_ble_eq_true rfl, Nat.le_of_ble_eq_true rfl⟩) (k_pre hE hP hD [] (by decide +kernel) rfl) rfl rfl hl.1 rfl (lv_room (Nat.le_of_ble_eq_true rfl)) dX8_owes_140 ⟨Nat.le_of_ble_eq_true rfl, Nat.le_of_ble_eq_true rfl⟩) hP hD hS hA [] rfl (fun _ _ ⟨_, h9⟩ => h9) (fun r67 H locs hw68 hP hD hS => ?_)
          obtain ⟨rfl, -⟩ := hw68
          refine k_iret (u := [(oX8 g gi0 (nI mn) g2 g3 g4 g5 g6 g7 g8 g9 g10 (nI ml) g12 g13 gi14 g15 g16 g17 gi18 g19 g20 g21 g22 g23 g24 g25 g26 g27 g28 gi29 gi30 (nI mv) gi32 g33 g34 g35 g36 g37 g38 g39 gi40 g41 g42 gi43 g44 g45), (aIc cI g2 8 G2), (aIc cI g4 8 G4), (aIc cI g5 8 G5), (aIc cI g6 8 G6), (aIc cI g10 64 G10), (aIc cI g12 10 G12), (aIc cI g19 8 G19)]) hx hb hr hlk hP hD hS dX8_owes_143 ?_
          exact ⟨min (min (vq - de0 p0) (li0 p0)) (le0 p0), (by omega), (by omega), rfl, rfl⟩
        · skip
          have nc65 : ¬ sj ≤ 0 := fun q9 => c65 ((nI_leI (a := sj) (b := 0) (by omega) (by omega)).mpr q9)
          refine lv_iload hx hb dX8_owes_116 (lv_at hl 1 rfl) ?_
          refine lv_iload hx hb dX8_owes_118 (lv_at hl 0 rfl) ?_
          refine lv_iconst (v := 1) hx hb dX8_owes_120 (by decide) ?_
          refine lv_isub hx hb dX8_owes_121 ?_
          refine lv_topi (fun v69 ev69 => ?_)
          obtain rfl : v69 = nI (sj - 1) := by rw [ev69]; exact pk_sub (a := sj) (b := 1) (by omega)
          refine k_iS (va_runS (As := [.int (nI (min (vq - de0 p0) (li0 p0))), .int (nI (sj - 1))]) (rest := []) ⟨hx, hb, hml, hown, hts⟩ (m_X8_least l D cI cJ H.size (min (vq - de0 p0) (li0 p0)) (sj - 1) (by omega) (by omega)) (va_cwS 2 hts gX8_owes_X8_least rfl rfl rfl (by decide +kernel) ⟨Nat.le_of_ble_eq_true rfl, Nat.le_of_ble_eq_true rfl⟩) (k_pre hE hP hD [] (by decide +kernel) rfl) rfl rfl hl.1 rfl (lv_room (Nat.le_of_ble_eq_true rfl)) dX8_owes_122 ⟨Nat.le_of_ble_eq_true rfl, Nat.le_of_ble_eq_true rfl⟩) hP hD hS hA [] rfl (fun _ _ ⟨_, h9⟩ => h9) (fun r70 H locs hw71 hP hD hS => ?_)
          obtain ⟨rfl, -⟩ := hw71
          refine lv_goto (tgt := 130) hx hb dX8_owes_125 (by decide) ?_
          refine lv_istore (lv' := [(4, .int (nI (min (min (vq - de0 p0) (li0 p0)) (sj - 1)))), (5, .int (nI sj)), (0, .ref g), (1, .int (nI p0)), (2, .int (nI l0)), (3, .int (nI mu0))]) hx hb dX8_owes_130 hl (by decide) rfl (fun ls hl => ?_)
          refine lv_iload hx hb dX8_owes_132 (lv_at hl 0 rfl) ?_
          refine lv_aload_n hx hb dX8_owes_134 rfl (lv_at hl 2 rfl) ?_
          refine va_get (D := D) (ci := 8) (v := .ref g19) (C := RX8) (T := TX8) (N := 46) hx hb hts hiX8 hown hE.1 hP 0 rfl rfl 19 (by decide) (hts _ (List.mem_cons_of_mem _ wd_130)) (fun _ h9 => h9) rfl dX8_owes_135 ?_
          refine lv_iload_n hx hb dX8_owes_138 rfl (lv_at hl 3 rfl) ?_
          refine va_iald hx hb hE.1 hP 7 0 rfl rfl (vp_in_nI (n := p0) (by omega) (by decide)) dX8_owes_139 ?_
          refine lv_topi (fun v72 ev72 => ?_)
          have hleb_ := hleb p0 (by omega)
          obtain rfl : v72 = nI (le0 p0) := ev72.trans (nv_at hlev (by omega))
          refine k_iS (va_runS (As := [.int (nI (min (min (vq - de0 p0) (li0 p0)) (sj - 1))), .int (nI (le0 p0))]) (rest := []) ⟨hx, hb, hml, hown, hts⟩ (m_X8_least l D cI cJ H.size (min (min (vq - de0 p0) (li0 p0)) (sj - 1)) (le0 p0) (by omega) (by omega)) (va_cwS 2 hts gX8_owes_X8_least rfl rfl rfl (by decide +kernel) ⟨Nat.le_of_ble_eq_true rfl, Nat.le_of_ble_eq_true rfl⟩) (k_pre hE hP hD [] (by decide +kernel) rfl) rfl rfl hl.1 rfl (lv_room (Nat.le_of_ble_eq_true rfl)) dX8_owes_140 ⟨Nat.le_of_ble_eq_true rfl, Nat.le_of_ble_eq_true rfl⟩) hP hD hS hA [] rfl (fun _ _ ⟨_, h9⟩ => h9) (fun r73 H locs hw74 hP hD hS => ?_)
          obtain ⟨rfl, -⟩ := hw74
          refine k_iret (u := [(oX8 g gi0 (nI mn) g2 g3 g4 g5 g6 g7 g8 g9 g10 (nI ml) g12 g13 gi14 g15 g16 g17 gi18 g19 g20 g21 g22 g23 g24 g25 g26 g27 g28 gi29 gi30 (nI mv) gi32 g33 g34 g35 g36 g37 g38 g39 gi40 g41 g42 gi43 g44 g45), (aIc cI g2 8 G2), (aIc cI g4 8 G4), (aIc cI g5 8 G5), (aIc cI g6 8 G6), (aIc cI g10 64 G10), (aIc cI g12 10 G12), (aIc cI g19 8 G19)]) hx hb hr hlk hP hD hS dX8_owes_143 ?_
          exact ⟨min (min (min (vq - de0 p0) (li0 p0)) (sj - 1)) (le0 p0), (by omega), (by omega), rfl, rfl⟩
      · skip
        refine lv_iconst (v := 0) hx hb dX8_owes_76 (by decide) ?_
        refine lv_goto (tgt := 82) hx hb dX8_owes_77 (by decide) ?_
        refine lv_aload_n hx hb dX8_owes_82 rfl (lv_at hl 1 rfl) ?_
        refine va_get (D := D) (ci := 8) (v := .ref g2) (C := RX8) (T := TX8) (N := 46) hx hb hts hiX8 hown hE.1 hP 0 rfl rfl 2 (by decide) (hts _ (List.mem_cons_of_mem _ wd_116)) (fun _ h9 => h9) rfl dX8_owes_83 ?_
        refine lv_iload_n hx hb dX8_owes_86 rfl (lv_at hl 2 rfl) ?_
        refine va_iald hx hb hE.1 hP 1 0 rfl rfl (vp_in_nI (n := p0) (by omega) (by decide)) dX8_owes_87 ?_
        refine lv_topi (fun v75 ev75 => ?_)
        have hlib_ := hlib p0 (by omega)
        obtain rfl : v75 = nI (li0 p0) := ev75.trans (nv_at hliv (by omega))
        refine k_iS (va_runS (As := [.int 0, .int (nI (li0 p0))]) (rest := []) ⟨hx, hb, hml, hown, hts⟩ (m_X8_least l D cI cJ H.size 0 (li0 p0) (by omega) (by omega)) (va_cwS 2 hts gX8_owes_X8_least rfl rfl rfl (by decide +kernel) ⟨Nat.le_of_ble_eq_true rfl, Nat.le_of_ble_eq_true rfl⟩) (k_pre hE hP hD [] (by decide +kernel) rfl) rfl rfl hl.1 rfl (lv_room (Nat.le_of_ble_eq_true rfl)) dX8_owes_88 ⟨Nat.le_of_ble_eq_true rfl, Nat.le_of_ble_eq_true rfl⟩) hP hD hS hA [] rfl (fun _ _ ⟨_, h9⟩ => h9) (fun r76 H locs hw77 hP hD hS => ?_)
        obtain ⟨rfl, -⟩ := hw77
        refine lv_istore (lv' := [(4, .int (nI (min 0 (li0 p0)))), (0, .ref g), (1, .int (nI p0)), (2, .int (nI l0)), (3, .int (nI mu0))]) hx hb dX8_owes_91 hl (by decide) rfl (fun ls hl => ?_)
        refine lv_aload_n hx hb dX8_owes_93 rfl (lv_at hl 1 rfl) ?_
        refine va_get (D := D) (ci := 8) (v := .ref g10) (C := RX8) (T := TX8) (N := 46) hx hb hts hiX8 hown hE.1 hP 0 rfl rfl 10 (by decide) (hts _ (List.mem_cons_of_mem _ wd_124)) (fun _ h9 => h9) rfl dX8_owes_94 ?_
        refine lv_bipush (v := 8) hx hb dX8_owes_97 (by decide) ?_
        refine lv_iload_n hx hb dX8_owes_99 rfl (lv_at hl 2 rfl) ?_
        refine lv_imul hx hb dX8_owes_100 ?_
        refine lv_topi (fun v78 ev78 => ?_)
        obtain rfl : v78 = (nI (8 * p0)) := by rw [ev78]; exact pk_mul 8 p0
        refine lv_aload_n hx hb dX8_owes_101 rfl (lv_at hl 1 rfl) ?_
        refine va_get (D := D) (ci := 8) (v := .ref g12) (C := RX8) (T := TX8) (N := 46) hx hb hts hiX8 hown hE.1 hP 0 rfl rfl 12 (by decide) (hts _ (List.mem_cons_of_mem _ wd_125)) (fun _ h9 => h9) rfl dX8_owes_102 ?_
        refine lv_iload_n hx hb dX8_owes_105 rfl (lv_at hl 3 rfl) ?_
        refine va_iald hx hb hE.1 hP 6 0 rfl rfl (vp_in_nI (n := l0) (by omega) (by decide)) dX8_owes_106 ?_
        refine lv_topi (fun v79 ev79 => ?_)
        obtain ⟨n80, hn80, en80⟩ := li_at (n := l0) hit (by omega) (by decide)
        obtain rfl : v79 = nI n80 := ev79.trans en80
        refine lv_iadd hx hb dX8_owes_107 ?_
        refine lv_topi (fun v81 ev81 => ?_)
        obtain rfl : v81 = (nI (8 * p0 + n80)) := by rw [ev81]; exact nI_add (8 * p0) n80
        refine va_iald hx hb hE.1 hP 5 0 rfl rfl (vp_in_nI (n := 8 * p0 + n80) (by omega) (by decide)) dX8_owes_108 ?_
        refine lv_topi (fun v82 ev82 => ?_)
        obtain ⟨sj, hsj, esj⟩ := su_at (n := 8 * p0 + n80) hsu (by omega)
        obtain rfl : v82 = nI sj := ev82.trans esj
        refine lv_istore (lv' := [(5, .int (nI sj)), (4, .int (nI (min 0 (li0 p0)))), (0, .ref g), (1, .int (nI p0)), (2, .int (nI l0)), (3, .int (nI mu0))]) hx hb dX8_owes_109 hl (by decide) rfl (fun ls hl => ?_)
        refine lv_iload hx hb dX8_owes_111 (lv_at hl 0 rfl) ?_
        refine lv_if_le (tgt := 128) hx hb dX8_owes_113 (by decide) (fun c83 => ?_) (fun c83 => ?_)
        · skip
          have nc83 : sj ≤ 0 := (nI_leI (a := sj) (b := 0) (by omega) (by omega)).mp c83
          refine lv_iload hx hb dX8_owes_128 (lv_at hl 1 rfl) ?_
          refine lv_istore (lv' := [(4, .int (nI (min 0 (li0 p0)))), (5, .int (nI sj)), (0, .ref g), (1, .int (nI p0)), (2, .int (nI l0)), (3, .int (nI mu0))]) hx hb dX8_owes_130 hl (by decide) rfl (fun ls hl => ?_)
          refine lv_iload hx hb dX8_owes_132 (lv_at hl 0 rfl) ?_
          refine lv_aload_n hx hb dX8_owes_134 rfl (lv_at hl 2 rfl) ?_
          refine va_get (D := D) (ci := 8) (v := .ref g19) (C := RX8) (T := TX8) (N := 46) hx hb hts hiX8 hown hE.1 hP 0 rfl rfl 19 (by decide) (hts _ (List.mem_cons_of_mem _ wd_130)) (fun _ h9 => h9) rfl dX8_owes_135 ?_
          refine lv_iload_n hx hb dX8_owes_138 rfl (lv_at hl 3 rfl) ?_
          refine va_iald hx hb hE.1 hP 7 0 rfl rfl (vp_in_nI (n := p0) (by omega) (by decide)) dX8_owes_139 ?_
          refine lv_topi (fun v84 ev84 => ?_)
          have hleb_ := hleb p0 (by omega)
          obtain rfl : v84 = nI (le0 p0) := ev84.trans (nv_at hlev (by omega))
          refine k_iS (va_runS (As := [.int (nI (min 0 (li0 p0))), .int (nI (le0 p0))]) (rest := []) ⟨hx, hb, hml, hown, hts⟩ (m_X8_least l D cI cJ H.size (min 0 (li0 p0)) (le0 p0) (by omega) (by omega)) (va_cwS 2 hts gX8_owes_X8_least rfl rfl rfl (by decide +kernel) ⟨Nat.le_of_ble_eq_true rfl, Nat.le_of_ble_eq_true rfl⟩) (k_pre hE hP hD [] (by decide +kernel) rfl) rfl rfl hl.1 rfl (lv_room (Nat.le_of_ble_eq_true rfl)) dX8_owes_140 ⟨Nat.le_of_ble_eq_true rfl, Nat.le_of_ble_eq_true rfl⟩) hP hD hS hA [] rfl (fun _ _ ⟨_, h9⟩ => h9) (fun r85 H locs hw86 hP hD hS => ?_)
          obtain ⟨rfl, -⟩ := hw86
          refine k_iret (u := [(oX8 g gi0 (nI mn) g2 g3 g4 g5 g6 g7 g8 g9 g10 (nI ml) g12 g13 gi14 g15 g16 g17 gi18 g19 g20 g21 g22 g23 g24 g25 g26 g27 g28 gi29 gi30 (nI mv) gi32 g33 g34 g35 g36 g37 g38 g39 gi40 g41 g42 gi43 g44 g45), (aIc cI g2 8 G2), (aIc cI g4 8 G4), (aIc cI g5 8 G5), (aIc cI g6 8 G6), (aIc cI g10 64 G10), (aIc cI g12 10 G12), (aIc cI g19 8 G19)]) hx hb hr hlk hP hD hS dX8_owes_143 ?_
          exact ⟨min (min 0 (li0 p0)) (le0 p0), (by omega), (by omega), rfl, rfl⟩
        · skip
          have nc83 : ¬ sj ≤ 0 := fun q9 => c83 ((nI_leI (a := sj) (b := 0) (by omega) (by omega)).mpr q9)
          refine lv_iload hx hb dX8_owes_116 (lv_at hl 1 rfl) ?_
          refine lv_iload hx hb dX8_owes_118 (lv_at hl 0 rfl) ?_
          refine lv_iconst (v := 1) hx hb dX8_owes_120 (by decide) ?_
          refine lv_isub hx hb dX8_owes_121 ?_
          refine lv_topi (fun v87 ev87 => ?_)
          obtain rfl : v87 = nI (sj - 1) := by rw [ev87]; exact pk_sub (a := sj) (b := 1) (by omega)
          refine k_iS (va_runS (As := [.int (nI (min 0 (li0 p0))), .int (nI (sj - 1))]) (rest := []) ⟨hx, hb, hml, hown, hts⟩ (m_X8_least l D cI cJ H.size (min 0 (li0 p0)) (sj - 1) (by omega) (by omega)) (va_cwS 2 hts gX8_owes_X8_least rfl rfl rfl (by decide +kernel) ⟨Nat.le_of_ble_eq_true rfl, Nat.le_of_ble_eq_true rfl⟩) (k_pre hE hP hD [] (by decide +kernel) rfl) rfl rfl hl.1 rfl (lv_room (Nat.le_of_ble_eq_true rfl)) dX8_owes_122 ⟨Nat.le_of_ble_eq_true rfl, Nat.le_of_ble_eq_true rfl⟩) hP hD hS hA [] rfl (fun _ _ ⟨_, h9⟩ => h9) (fun r88 H locs hw89 hP hD hS => ?_)
          obtain ⟨rfl, -⟩ := hw89
          refine lv_goto (tgt := 130) hx hb dX8_owes_125 (by decide) ?_
          refine lv_istore (lv' := [(4, .int (nI (min (min 0 (li0 p0)) (sj - 1)))), (5, .int (nI sj)), (0, .ref g), (1, .int (nI p0)), (2, .int (nI l0)), (3, .int (nI mu0))]) hx hb dX8_owes_130 hl (by decide) rfl (fun ls hl => ?_)
          refine lv_iload hx hb dX8_owes_132 (lv_at hl 0 rfl) ?_
          refine lv_aload_n hx hb dX8_owes_134 rfl (lv_at hl 2 rfl) ?_
          refine va_get (D := D) (ci := 8) (v := .ref g19) (C := RX8) (T := TX8) (N := 46) hx hb hts hiX8 hown hE.1 hP 0 rfl rfl 19 (by decide) (hts _ (List.mem_cons_of_mem _ wd_130)) (fun _ h9 => h9) rfl dX8_owes_135 ?_
          refine lv_iload_n hx hb dX8_owes_138 rfl (lv_at hl 3 rfl) ?_
          refine va_iald hx hb hE.1 hP 7 0 rfl rfl (vp_in_nI (n := p0) (by omega) (by decide)) dX8_owes_139 ?_
          refine lv_topi (fun v90 ev90 => ?_)
          have hleb_ := hleb p0 (by omega)
          obtain rfl : v90 = nI (le0 p0) := ev90.trans (nv_at hlev (by omega))
          refine k_iS (va_runS (As := [.int (nI (min (min 0 (li0 p0)) (sj - 1))), .int (nI (le0 p0))]) (rest := []) ⟨hx, hb, hml, hown, hts⟩ (m_X8_least l D cI cJ H.size (min (min 0 (li0 p0)) (sj - 1)) (le0 p0) (by omega) (by omega)) (va_cwS 2 hts gX8_owes_X8_least rfl rfl rfl (by decide +kernel) ⟨Nat.le_of_ble_eq_true rfl, Nat.le_of_ble_eq_true rfl⟩) (k_pre hE hP hD [] (by decide +kernel) rfl) rfl rfl hl.1 rfl (lv_room (Nat.le_of_ble_eq_true rfl)) dX8_owes_140 ⟨Nat.le_of_ble_eq_true rfl, Nat.le_of_ble_eq_true rfl⟩) hP hD hS hA [] rfl (fun _ _ ⟨_, h9⟩ => h9) (fun r91 H locs hw92 hP hD hS => ?_)
          obtain ⟨rfl, -⟩ := hw92
          refine k_iret (u := [(oX8 g gi0 (nI mn) g2 g3 g4 g5 g6 g7 g8 g9 g10 (nI ml) g12 g13 gi14 g15 g16 g17 gi18 g19 g20 g21 g22 g23 g24 g25 g26 g27 g28 gi29 gi30 (nI mv) gi32 g33 g34 g35 g36 g37 g38 g39 gi40 g41 g42 gi43 g44 g45), (aIc cI g2 8 G2), (aIc cI g4 8 G4), (aIc cI g5 8 G5), (aIc cI g6 8 G6), (aIc cI g10 64 G10), (aIc cI g12 10 G12), (aIc cI g19 8 G19)]) hx hb hr hlk hP hD hS dX8_owes_143 ?_
          exact ⟨min (min (min 0 (li0 p0)) (sj - 1)) (le0 p0), (by omega), (by omega), rfl, rfl⟩
  · skip
    have hc6 : ¬ ((v1 >>> ((nI n3) &&& 31)) &&& 1 = 1) := bz_0 hw5 c6
    refine lv_iconst (v := 0) hx hb dX8_owes_18 (by decide) ?_
    refine k_iret (u := [(oX8 g gi0 (nI mn) g2 g3 g4 g5 g6 g7 g8 g9 g10 (nI ml) g12 g13 gi14 g15 g16 g17 gi18 g19 g20 g21 g22 g23 g24 g25 g26 g27 g28 gi29 gi30 (nI mv) gi32 g33 g34 g35 g36 g37 g38 g39 gi40 g41 g42 gi43 g44 g45), (aIc cI g2 8 G2), (aIc cI g4 8 G4), (aIc cI g5 8 G5), (aIc cI g6 8 G6), (aIc cI g10 64 G10), (aIc cI g12 10 G12), (aIc cI g19 8 G19)]) hx hb hr hlk hP hD hS dX8_owes_19 ?_
    exact ⟨0, (by omega), (by omega), rfl, rfl⟩
theorem dX8_yieldsOf_0 : decode cX8_yieldsOf 0 = .ok (.aload_n 0, 1) := by decide +kernel
theorem dX8_yieldsOf_1 : decode cX8_yieldsOf 1 = .ok (.getfield 162, 3) := by decide +kernel
theorem dX8_yieldsOf_4 : decode cX8_yieldsOf 4 = .ok (.iload_n 1, 1) := by decide +kernel
theorem dX8_yieldsOf_5 : decode cX8_yieldsOf 5 = .ok (.invokestatic 154, 3) := by decide +kernel
theorem dX8_yieldsOf_8 : decode cX8_yieldsOf 8 = .ok (.ifCond .eq 33, 3) := by decide +kernel
theorem dX8_yieldsOf_11 : decode cX8_yieldsOf 11 = .ok (.aload_n 0, 1) := by decide +kernel
theorem dX8_yieldsOf_12 : decode cX8_yieldsOf 12 = .ok (.getfield 25, 3) := by decide +kernel
theorem dX8_yieldsOf_15 : decode cX8_yieldsOf 15 = .ok (.iload_n 1, 1) := by decide +kernel
theorem dX8_yieldsOf_16 : decode cX8_yieldsOf 16 = .ok (.iaload, 1) := by decide +kernel
theorem dX8_yieldsOf_17 : decode cX8_yieldsOf 17 = .ok (.iconst 2, 1) := by decide +kernel
theorem dX8_yieldsOf_18 : decode cX8_yieldsOf 18 = .ok (.if_icmp .lt 23, 3) := by decide +kernel
theorem dX8_yieldsOf_21 : decode cX8_yieldsOf 21 = .ok (.aload_n 0, 1) := by decide +kernel
theorem dX8_yieldsOf_22 : decode cX8_yieldsOf 22 = .ok (.getfield 28, 3) := by decide +kernel
theorem dX8_yieldsOf_25 : decode cX8_yieldsOf 25 = .ok (.iload_n 1, 1) := by decide +kernel
theorem dX8_yieldsOf_26 : decode cX8_yieldsOf 26 = .ok (.iaload, 1) := by decide +kernel
theorem dX8_yieldsOf_27 : decode cX8_yieldsOf 27 = .ok (.aload_n 0, 1) := by decide +kernel
theorem dX8_yieldsOf_28 : decode cX8_yieldsOf 28 = .ok (.getfield 162, 3) := by decide +kernel
theorem dX8_yieldsOf_31 : decode cX8_yieldsOf 31 = .ok (.iand, 1) := by decide +kernel
theorem dX8_yieldsOf_32 : decode cX8_yieldsOf 32 = .ok (.iconst 1, 1) := by decide +kernel
theorem dX8_yieldsOf_33 : decode cX8_yieldsOf 33 = .ok (.iload_n 1, 1) := by decide +kernel
theorem dX8_yieldsOf_34 : decode cX8_yieldsOf 34 = .ok (.ishl, 1) := by decide +kernel
theorem dX8_yieldsOf_35 : decode cX8_yieldsOf 35 = .ok (.iconst (-1), 1) := by decide +kernel
theorem dX8_yieldsOf_36 : decode cX8_yieldsOf 36 = .ok (.ixor, 1) := by decide +kernel
theorem dX8_yieldsOf_37 : decode cX8_yieldsOf 37 = .ok (.iand, 1) := by decide +kernel
theorem dX8_yieldsOf_38 : decode cX8_yieldsOf 38 = .ok (.goto 4, 3) := by decide +kernel
theorem dX8_yieldsOf_41 : decode cX8_yieldsOf 41 = .ok (.iconst 0, 1) := by decide +kernel
theorem dX8_yieldsOf_42 : decode cX8_yieldsOf 42 = .ok (.ireturn, 1) := by decide +kernel
theorem gX8_yieldsOf_X8_isOn : GoodIn wtX8_yieldsOf (va_wsS RX8 154 yX8_isOn wtX8_isOn) := tb_good (tb_s0 wd_423 wd_424 wd_5 wd_425)
set_option maxHeartbeats 4000000 in
set_option maxRecDepth 100000 in
theorem m_X8_yieldsOf (l : Launch) (D : va_G) (cI cJ : ClassId) (sz : Nat) (g g2 g3 g4 g5 g6 g7 g8 g9 g10 g12 g13 g15 g16 g17 g19 g20 g21 g22 g23 g24 g25 g26 g27 g28 g33 g34 g35 g36 g37 g38 g39 g41 g42 g44 g45 p0 mn ml mv : Nat) (gi0 gi14 gi18 gi29 gi30 gi32 gi40 gi43 : Int32) (G7 G8 : Nat → Int32) (hp : p0 < 8) : Met l yX8_yieldsOf wtX8_yieldsOf { frames := 1, cells := 0, slots := 0, locals := 21 } (cPc D cI cJ [.ref g, .int (nI p0)] sz [(oX8 g gi0 (nI mn) g2 g3 g4 g5 g6 g7 g8 g9 g10 (nI ml) g12 g13 gi14 g15 g16 g17 gi18 g19 g20 g21 g22 g23 g24 g25 g26 g27 g28 gi29 gi30 (nI mv) gi32 g33 g34 g35 g36 g37 g38 g39 gi40 g41 g42 gi43 g44 g45), (aIc cI g7 8 G7), (aIc cI g8 8 G8)]) (cQi D (fun r u => u = [(oX8 g gi0 (nI mn) g2 g3 g4 g5 g6 g7 g8 g9 g10 (nI ml) g12 g13 gi14 g15 g16 g17 gi18 g19 g20 g21 g22 g23 g24 g25 g26 g27 g28 gi29 gi30 (nI mv) gi32 g33 g34 g35 g36 g37 g38 g39 gi40 g41 g42 gi43 g44 g45), (aIc cI g7 8 G7), (aIc cI g8 8 G8)]) (va_A [(oX8 g gi0 (nI mn) g2 g3 g4 g5 g6 g7 g8 g9 g10 (nI ml) g12 g13 gi14 g15 g16 g17 gi18 g19 g20 g21 g22 g23 g24 g25 g26 g27 g28 gi29 gi30 (nI mv) gi32 g33 g34 g35 g36 g37 g38 g39 gi40 g41 g42 gi43 g44 g45), (aIc cI g7 8 G7), (aIc cI g8 8 G8)] sz)) 0 0 (va_A [(oX8 g gi0 (nI mn) g2 g3 g4 g5 g6 g7 g8 g9 g10 (nI ml) g12 g13 gi14 g15 g16 g17 gi18 g19 g20 g21 g22 g23 g24 g25 g26 g27 g28 gi29 gi30 (nI mv) gi32 g33 g34 g35 g36 g37 g38 g39 gi40 g41 g42 gi43 g44 g45), (aIc cI g7 8 G7), (aIc cI g8 8 G8)] sz) := by
  refine k_ofW (Qc := cQi D (fun r u => u = [(oX8 g gi0 (nI mn) g2 g3 g4 g5 g6 g7 g8 g9 g10 (nI ml) g12 g13 gi14 g15 g16 g17 gi18 g19 g20 g21 g22 g23 g24 g25 g26 g27 g28 gi29 gi30 (nI mv) gi32 g33 g34 g35 g36 g37 g38 g39 gi40 g41 g42 gi43 g44 g45), (aIc cI g7 8 G7), (aIc cI g8 8 G8)])) (by decide) rfl (Nat.le_of_ble_eq_true rfl) ?_
  intro p e s m below meth c A ls hx hb hr hml hts hown hlk hnm hsz hE hP hD hS hA hl
  have hown : s.vm.findClass RX8 = some m.cls := hown
  have hiX8 : ∀ w ∈ u_ws RX8 TX8 46, w ∈ wtX8_yieldsOf := fun w h => List.mem_cons_of_mem _ (iuX8 w h)
  have hl : lv_has ls 2 [(0, .ref g), (1, .int (nI p0))] := hl
  refine lv_aload_n hx hb dX8_yieldsOf_0 rfl (lv_at hl 0 rfl) ?_
  refine va_get (D := D) (ci := 8) (v := .int gi29) (C := RX8) (T := TX8) (N := 46) hx hb hts hiX8 hown hE.1 hP 0 rfl rfl 29 (by decide) (hts _ (List.mem_cons_of_mem _ wd_421)) (fun _ h9 => h9) rfl dX8_yieldsOf_1 ?_
  refine lv_iload_n hx hb dX8_yieldsOf_4 rfl (lv_at hl 1 rfl) ?_
  refine k_iS (va_runS (As := [.int gi29, .int (nI p0)]) (rest := []) ⟨hx, hb, hml, hown, hts⟩ (m_X8_isOn l D cI cJ (s.heap).size gi29 (nI p0)) (va_cwS 2 hts gX8_yieldsOf_X8_isOn rfl rfl rfl (by decide +kernel) ⟨Nat.le_of_ble_eq_true rfl, Nat.le_of_ble_eq_true rfl⟩) (k_pre hE hP hD [] (by decide +kernel) rfl) rfl rfl hl.1 rfl (lv_room (Nat.le_of_ble_eq_true rfl)) dX8_yieldsOf_5 ⟨Nat.le_of_ble_eq_true rfl, Nat.le_of_ble_eq_true rfl⟩) hP hD hS hA [] rfl (fun _ _ h9 => h9.2) (fun r1 H locs hw2 hP hD hS => ?_)
  obtain ⟨hw2, -⟩ := hw2
  refine lv_if_eq (tgt := 41) hx hb dX8_yieldsOf_8 (by decide) (fun c3 => ?_) (fun c3 => ?_)
  · skip
    have hc3 : ¬ ((gi29 >>> ((nI p0) &&& 31)) &&& 1 = 1) := bz_0 hw2 c3
    refine lv_iconst (v := 0) hx hb dX8_yieldsOf_41 (by decide) ?_
    refine k_iret (u := [(oX8 g gi0 (nI mn) g2 g3 g4 g5 g6 g7 g8 g9 g10 (nI ml) g12 g13 gi14 g15 g16 g17 gi18 g19 g20 g21 g22 g23 g24 g25 g26 g27 g28 gi29 gi30 (nI mv) gi32 g33 g34 g35 g36 g37 g38 g39 gi40 g41 g42 gi43 g44 g45), (aIc cI g7 8 G7), (aIc cI g8 8 G8)]) hx hb hr hlk hP hD hS dX8_yieldsOf_42 ?_
    exact rfl
  · skip
    have hc3 : (gi29 >>> ((nI p0) &&& 31)) &&& 1 = 1 := bz_1 hw2 c3
    refine lv_aload_n hx hb dX8_yieldsOf_11 rfl (lv_at hl 0 rfl) ?_
    refine va_get (D := D) (ci := 8) (v := .ref g7) (C := RX8) (T := TX8) (N := 46) hx hb hts hiX8 hown hE.1 hP 0 rfl rfl 7 (by decide) (hts _ (List.mem_cons_of_mem _ wd_121)) (fun _ h9 => h9) rfl dX8_yieldsOf_12 ?_
    refine lv_iload_n hx hb dX8_yieldsOf_15 rfl (lv_at hl 1 rfl) ?_
    refine va_iald hx hb hE.1 hP 1 0 rfl rfl (vp_in_nI (n := p0) (by omega) (by decide)) dX8_yieldsOf_16 ?_
    refine lv_topi (fun v4 ev4 => ?_)
    refine lv_iconst (v := 2) hx hb dX8_yieldsOf_17 (by decide) ?_
    refine lv_icmp_lt (tgt := 41) hx hb dX8_yieldsOf_18 (by decide) (fun c5 => ?_) (fun c5 => ?_)
    · skip
      refine lv_iconst (v := 0) hx hb dX8_yieldsOf_41 (by decide) ?_
      refine k_iret (u := [(oX8 g gi0 (nI mn) g2 g3 g4 g5 g6 g7 g8 g9 g10 (nI ml) g12 g13 gi14 g15 g16 g17 gi18 g19 g20 g21 g22 g23 g24 g25 g26 g27 g28 gi29 gi30 (nI mv) gi32 g33 g34 g35 g36 g37 g38 g39 gi40 g41 g42 gi43 g44 g45), (aIc cI g7 8 G7), (aIc cI g8 8 G8)]) hx hb hr hlk hP hD hS dX8_yieldsOf_42 ?_
      exact rfl
    · skip
      refine lv_aload_n hx hb dX8_yieldsOf_21 rfl (lv_at hl 0 rfl) ?_
      refine va_get (D := D) (ci := 8) (v := .ref g8) (C := RX8) (T := TX8) (N := 46) hx hb hts hiX8 hown hE.1 hP 0 rfl rfl 8 (by decide) (hts _ (List.mem_cons_of_mem _ wd_122)) (fun _ h9 => h9) rfl dX8_yieldsOf_22 ?_
      refine lv_iload_n hx hb dX8_yieldsOf_25 rfl (lv_at hl 1 rfl) ?_
      refine va_iald hx hb hE.1 hP 2 0 rfl rfl (vp_in_nI (n := p0) (by omega) (by decide)) dX8_yieldsOf_26 ?_
      refine lv_topi (fun v6 ev6 => ?_)
      refine lv_aload_n hx hb dX8_yieldsOf_27 rfl (lv_at hl 0 rfl) ?_
      refine va_get (D := D) (ci := 8) (v := .int gi29) (C := RX8) (T := TX8) (N := 46) hx hb hts hiX8 hown hE.1 hP 0 rfl rfl 29 (by decide) (hts _ (List.mem_cons_of_mem _ wd_421)) (fun _ h9 => h9) rfl dX8_yieldsOf_28 ?_
      refine lv_iand hx hb dX8_yieldsOf_31 ?_
      refine lv_topi (fun v7 ev7 => ?_)
      refine lv_iconst (v := 1) hx hb dX8_yieldsOf_32 (by decide) ?_
      refine lv_iload_n hx hb dX8_yieldsOf_33 rfl (lv_at hl 1 rfl) ?_
      refine lv_ishl hx hb dX8_yieldsOf_34 ?_
      refine lv_topi (fun v8 ev8 => ?_)
      refine lv_iconst (v := (-1)) hx hb dX8_yieldsOf_35 (by decide) ?_
      refine lv_ixor hx hb dX8_yieldsOf_36 ?_
      refine lv_topi (fun v9 ev9 => ?_)
      refine lv_iand hx hb dX8_yieldsOf_37 ?_
      refine lv_topi (fun v10 ev10 => ?_)
      refine lv_goto (tgt := 42) hx hb dX8_yieldsOf_38 (by decide) ?_
      refine k_iret (u := [(oX8 g gi0 (nI mn) g2 g3 g4 g5 g6 g7 g8 g9 g10 (nI ml) g12 g13 gi14 g15 g16 g17 gi18 g19 g20 g21 g22 g23 g24 g25 g26 g27 g28 gi29 gi30 (nI mv) gi32 g33 g34 g35 g36 g37 g38 g39 gi40 g41 g42 gi43 g44 g45), (aIc cI g7 8 G7), (aIc cI g8 8 G8)]) hx hb hr hlk hP hD hS dX8_yieldsOf_42 ?_
      exact rfl
theorem dX8_closes_0 : decode cX8_closes 0 = .ok (.iconst 0, 1) := by decide +kernel
theorem dX8_closes_1 : decode cX8_closes 1 = .ok (.istore_n 1, 1) := by decide +kernel
theorem dX8_closes_2 : decode cX8_closes 2 = .ok (.iload_n 1, 1) := by decide +kernel
theorem dX8_closes_3 : decode cX8_closes 3 = .ok (.bipush 8, 2) := by decide +kernel
theorem dX8_closes_5 : decode cX8_closes 5 = .ok (.if_icmp .ge 21, 3) := by decide +kernel
theorem dX8_closes_8 : decode cX8_closes 8 = .ok (.aload_n 0, 1) := by decide +kernel
theorem dX8_closes_9 : decode cX8_closes 9 = .ok (.getfield 61, 3) := by decide +kernel
theorem dX8_closes_12 : decode cX8_closes 12 = .ok (.iload_n 1, 1) := by decide +kernel
theorem dX8_closes_13 : decode cX8_closes 13 = .ok (.aload_n 0, 1) := by decide +kernel
theorem dX8_closes_14 : decode cX8_closes 14 = .ok (.getfield 58, 3) := by decide +kernel
theorem dX8_closes_17 : decode cX8_closes 17 = .ok (.iload_n 1, 1) := by decide +kernel
theorem dX8_closes_18 : decode cX8_closes 18 = .ok (.iaload, 1) := by decide +kernel
theorem dX8_closes_19 : decode cX8_closes 19 = .ok (.iastore, 1) := by decide +kernel
theorem dX8_closes_20 : decode cX8_closes 20 = .ok (.iinc 1 1, 3) := by decide +kernel
theorem dX8_closes_23 : decode cX8_closes 23 = .ok (.goto (-21), 3) := by decide +kernel
theorem dX8_closes_26 : decode cX8_closes 26 = .ok (.iconst 0, 1) := by decide +kernel
theorem dX8_closes_27 : decode cX8_closes 27 = .ok (.istore_n 1, 1) := by decide +kernel
theorem dX8_closes_28 : decode cX8_closes 28 = .ok (.iload_n 1, 1) := by decide +kernel
theorem dX8_closes_29 : decode cX8_closes 29 = .ok (.bipush 8, 2) := by decide +kernel
theorem dX8_closes_31 : decode cX8_closes 31 = .ok (.if_icmp .ge 55, 3) := by decide +kernel
theorem dX8_closes_34 : decode cX8_closes 34 = .ok (.iconst 0, 1) := by decide +kernel
theorem dX8_closes_35 : decode cX8_closes 35 = .ok (.istore_n 2, 1) := by decide +kernel
theorem dX8_closes_36 : decode cX8_closes 36 = .ok (.iload_n 2, 1) := by decide +kernel
theorem dX8_closes_37 : decode cX8_closes 37 = .ok (.bipush 8, 2) := by decide +kernel
theorem dX8_closes_39 : decode cX8_closes 39 = .ok (.if_icmp .ge 41, 3) := by decide +kernel
theorem dX8_closes_42 : decode cX8_closes 42 = .ok (.aload_n 0, 1) := by decide +kernel
theorem dX8_closes_43 : decode cX8_closes 43 = .ok (.getfield 61, 3) := by decide +kernel
theorem dX8_closes_46 : decode cX8_closes 46 = .ok (.iload_n 2, 1) := by decide +kernel
theorem dX8_closes_47 : decode cX8_closes 47 = .ok (.dup2, 1) := by decide +kernel
theorem dX8_closes_48 : decode cX8_closes 48 = .ok (.iaload, 1) := by decide +kernel
theorem dX8_closes_49 : decode cX8_closes 49 = .ok (.aload_n 0, 1) := by decide +kernel
theorem dX8_closes_50 : decode cX8_closes 50 = .ok (.getfield 61, 3) := by decide +kernel
theorem dX8_closes_53 : decode cX8_closes 53 = .ok (.iload_n 2, 1) := by decide +kernel
theorem dX8_closes_54 : decode cX8_closes 54 = .ok (.iaload, 1) := by decide +kernel
theorem dX8_closes_55 : decode cX8_closes 55 = .ok (.iload_n 1, 1) := by decide +kernel
theorem dX8_closes_56 : decode cX8_closes 56 = .ok (.invokestatic 154, 3) := by decide +kernel
theorem dX8_closes_59 : decode cX8_closes 59 = .ok (.ifCond .eq 12, 3) := by decide +kernel
theorem dX8_closes_62 : decode cX8_closes 62 = .ok (.aload_n 0, 1) := by decide +kernel
theorem dX8_closes_63 : decode cX8_closes 63 = .ok (.getfield 61, 3) := by decide +kernel
theorem dX8_closes_66 : decode cX8_closes 66 = .ok (.iload_n 1, 1) := by decide +kernel
theorem dX8_closes_67 : decode cX8_closes 67 = .ok (.iaload, 1) := by decide +kernel
theorem dX8_closes_68 : decode cX8_closes 68 = .ok (.goto 4, 3) := by decide +kernel
theorem dX8_closes_71 : decode cX8_closes 71 = .ok (.iconst 0, 1) := by decide +kernel
theorem dX8_closes_72 : decode cX8_closes 72 = .ok (.ior, 1) := by decide +kernel
theorem dX8_closes_73 : decode cX8_closes 73 = .ok (.iastore, 1) := by decide +kernel
theorem dX8_closes_74 : decode cX8_closes 74 = .ok (.iinc 2 1, 3) := by decide +kernel
theorem dX8_closes_77 : decode cX8_closes 77 = .ok (.goto (-41), 3) := by decide +kernel
theorem dX8_closes_80 : decode cX8_closes 80 = .ok (.iinc 1 1, 3) := by decide +kernel
theorem dX8_closes_83 : decode cX8_closes 83 = .ok (.goto (-55), 3) := by decide +kernel
theorem dX8_closes_86 : decode cX8_closes 86 = .ok (.iconst 0, 1) := by decide +kernel
theorem dX8_closes_87 : decode cX8_closes 87 = .ok (.istore_n 1, 1) := by decide +kernel
theorem dX8_closes_88 : decode cX8_closes 88 = .ok (.iload_n 1, 1) := by decide +kernel
theorem dX8_closes_89 : decode cX8_closes 89 = .ok (.bipush 8, 2) := by decide +kernel
theorem dX8_closes_91 : decode cX8_closes 91 = .ok (.if_icmp .ge 72, 3) := by decide +kernel
theorem dX8_closes_94 : decode cX8_closes 94 = .ok (.aload_n 0, 1) := by decide +kernel
theorem dX8_closes_95 : decode cX8_closes 95 = .ok (.getfield 64, 3) := by decide +kernel
theorem dX8_closes_98 : decode cX8_closes 98 = .ok (.iload_n 1, 1) := by decide +kernel
theorem dX8_closes_99 : decode cX8_closes 99 = .ok (.iconst 0, 1) := by decide +kernel
theorem dX8_closes_100 : decode cX8_closes 100 = .ok (.iastore, 1) := by decide +kernel
theorem dX8_closes_101 : decode cX8_closes 101 = .ok (.iconst 0, 1) := by decide +kernel
theorem dX8_closes_102 : decode cX8_closes 102 = .ok (.istore_n 2, 1) := by decide +kernel
theorem dX8_closes_103 : decode cX8_closes 103 = .ok (.iload_n 2, 1) := by decide +kernel
theorem dX8_closes_104 : decode cX8_closes 104 = .ok (.bipush 8, 2) := by decide +kernel
theorem dX8_closes_106 : decode cX8_closes 106 = .ok (.if_icmp .ge 51, 3) := by decide +kernel
theorem dX8_closes_109 : decode cX8_closes 109 = .ok (.aload_n 0, 1) := by decide +kernel
theorem dX8_closes_110 : decode cX8_closes 110 = .ok (.getfield 64, 3) := by decide +kernel
theorem dX8_closes_113 : decode cX8_closes 113 = .ok (.iload_n 1, 1) := by decide +kernel
theorem dX8_closes_114 : decode cX8_closes 114 = .ok (.dup2, 1) := by decide +kernel
theorem dX8_closes_115 : decode cX8_closes 115 = .ok (.iaload, 1) := by decide +kernel
theorem dX8_closes_116 : decode cX8_closes 116 = .ok (.aload_n 0, 1) := by decide +kernel
theorem dX8_closes_117 : decode cX8_closes 117 = .ok (.getfield 61, 3) := by decide +kernel
theorem dX8_closes_120 : decode cX8_closes 120 = .ok (.iload_n 1, 1) := by decide +kernel
theorem dX8_closes_121 : decode cX8_closes 121 = .ok (.iaload, 1) := by decide +kernel
theorem dX8_closes_122 : decode cX8_closes 122 = .ok (.iload_n 2, 1) := by decide +kernel
theorem dX8_closes_123 : decode cX8_closes 123 = .ok (.invokestatic 154, 3) := by decide +kernel
theorem dX8_closes_126 : decode cX8_closes 126 = .ok (.ifCond .eq 22, 3) := by decide +kernel
theorem dX8_closes_129 : decode cX8_closes 129 = .ok (.aload_n 0, 1) := by decide +kernel
theorem dX8_closes_130 : decode cX8_closes 130 = .ok (.getfield 61, 3) := by decide +kernel
theorem dX8_closes_133 : decode cX8_closes 133 = .ok (.iload_n 2, 1) := by decide +kernel
theorem dX8_closes_134 : decode cX8_closes 134 = .ok (.iaload, 1) := by decide +kernel
theorem dX8_closes_135 : decode cX8_closes 135 = .ok (.iload_n 1, 1) := by decide +kernel
theorem dX8_closes_136 : decode cX8_closes 136 = .ok (.invokestatic 154, 3) := by decide +kernel
theorem dX8_closes_139 : decode cX8_closes 139 = .ok (.ifCond .eq 9, 3) := by decide +kernel
theorem dX8_closes_142 : decode cX8_closes 142 = .ok (.iconst 1, 1) := by decide +kernel
theorem dX8_closes_143 : decode cX8_closes 143 = .ok (.iload_n 2, 1) := by decide +kernel
theorem dX8_closes_144 : decode cX8_closes 144 = .ok (.ishl, 1) := by decide +kernel
theorem dX8_closes_145 : decode cX8_closes 145 = .ok (.goto 4, 3) := by decide +kernel
theorem dX8_closes_148 : decode cX8_closes 148 = .ok (.iconst 0, 1) := by decide +kernel
theorem dX8_closes_149 : decode cX8_closes 149 = .ok (.ior, 1) := by decide +kernel
theorem dX8_closes_150 : decode cX8_closes 150 = .ok (.iastore, 1) := by decide +kernel
theorem dX8_closes_151 : decode cX8_closes 151 = .ok (.iinc 2 1, 3) := by decide +kernel
theorem dX8_closes_154 : decode cX8_closes 154 = .ok (.goto (-51), 3) := by decide +kernel
theorem dX8_closes_157 : decode cX8_closes 157 = .ok (.iinc 1 1, 3) := by decide +kernel
theorem dX8_closes_160 : decode cX8_closes 160 = .ok (.goto (-72), 3) := by decide +kernel
theorem dX8_closes_163 : decode cX8_closes 163 = .ok (.return_, 1) := by decide +kernel
theorem gX8_closes_X8_isOn : GoodIn wtX8_closes (va_wsS RX8 154 yX8_isOn wtX8_isOn) := tb_good (tb_s0 wd_423 wd_424 wd_5 wd_425)
set_option maxHeartbeats 4000000 in
set_option maxRecDepth 100000 in
theorem m_X8_closes (l : Launch) (D : va_G) (cI cJ : ClassId) (sz : Nat) (g g2 g3 g4 g5 g6 g7 g8 g9 g10 g12 g13 g15 g16 g17 g19 g20 g21 g22 g23 g24 g25 g26 g27 g28 g33 g34 g35 g36 g37 g38 g39 g41 g42 g44 g45 mn ml mv : Nat) (gi0 gi14 gi18 gi29 gi30 gi32 gi40 gi43 : Int32) (G21 G22 G23 : Nat → Int32) : Met l yX8_closes wtX8_closes { frames := 1, cells := 0, slots := 0, locals := 21 } (cPc D cI cJ [.ref g] sz [(oX8 g gi0 (nI mn) g2 g3 g4 g5 g6 g7 g8 g9 g10 (nI ml) g12 g13 gi14 g15 g16 g17 gi18 g19 g20 g21 g22 g23 g24 g25 g26 g27 g28 gi29 gi30 (nI mv) gi32 g33 g34 g35 g36 g37 g38 g39 gi40 g41 g42 gi43 g44 g45), (aIc cI g21 8 G21), (aIc cI g22 8 G22), (aIc cI g23 8 G23)]) (cQv D (fun u => ∃ (G22p G23p : Nat → Int32), u = [(oX8 g gi0 (nI mn) g2 g3 g4 g5 g6 g7 g8 g9 g10 (nI ml) g12 g13 gi14 g15 g16 g17 gi18 g19 g20 g21 g22 g23 g24 g25 g26 g27 g28 gi29 gi30 (nI mv) gi32 g33 g34 g35 g36 g37 g38 g39 gi40 g41 g42 gi43 g44 g45), (aIc cI g21 8 G21), (aIc cI g22 8 G22p), (aIc cI g23 8 G23p)]) (va_A [(oX8 g gi0 (nI mn) g2 g3 g4 g5 g6 g7 g8 g9 g10 (nI ml) g12 g13 gi14 g15 g16 g17 gi18 g19 g20 g21 g22 g23 g24 g25 g26 g27 g28 gi29 gi30 (nI mv) gi32 g33 g34 g35 g36 g37 g38 g39 gi40 g41 g42 gi43 g44 g45), (aIc cI g21 8 G21), (aIc cI g22 8 G22), (aIc cI g23 8 G23)] sz)) 0 0 (va_A [(oX8 g gi0 (nI mn) g2 g3 g4 g5 g6 g7 g8 g9 g10 (nI ml) g12 g13 gi14 g15 g16 g17 gi18 g19 g20 g21 g22 g23 g24 g25 g26 g27 g28 gi29 gi30 (nI mv) gi32 g33 g34 g35 g36 g37 g38 g39 gi40 g41 g42 gi43 g44 g45), (aIc cI g21 8 G21), (aIc cI g22 8 G22), (aIc cI g23 8 G23)] sz) := by
  refine k_ofW (Qc := cQv D (fun u => ∃ (G22p G23p : Nat → Int32), u = [(oX8 g gi0 (nI mn) g2 g3 g4 g5 g6 g7 g8 g9 g10 (nI ml) g12 g13 gi14 g15 g16 g17 gi18 g19 g20 g21 g22 g23 g24 g25 g26 g27 g28 gi29 gi30 (nI mv) gi32 g33 g34 g35 g36 g37 g38 g39 gi40 g41 g42 gi43 g44 g45), (aIc cI g21 8 G21), (aIc cI g22 8 G22p), (aIc cI g23 8 G23p)])) (by decide) rfl (Nat.le_of_ble_eq_true rfl) ?_
  intro p e s m below meth c A ls hx hb hr hml hts hown hlk hnm hsz hE hP hD hS hA hl
  have hown : s.vm.findClass RX8 = some m.cls := hown
  have hiX8 : ∀ w ∈ u_ws RX8 TX8 46, w ∈ wtX8_closes := fun w h => List.mem_cons_of_mem _ (iuX8 w h)
  have hl : lv_has ls 3 [(0, .ref g)] := hl
  refine lv_iconst (v := 0) hx hb dX8_closes_0 (by decide) ?_
  refine lv_istore_n (lv' := [(1, .int 0), (0, .ref g)]) hx hb dX8_closes_1 rfl hl (by decide) rfl (fun ls hl => ?_)
  have J2 : ∀ (zz : Nat) (i2 : Nat) (a_g22_2 : Nat → Int32), (i2 ≤ 8) → (8 - i2) < zz → ∀ (H : Heap) (locs : List Loc) (ls : Array Slot), va_P D vwCl [(oX8 g gi0 (nI mn) g2 g3 g4 g5 g6 g7 g8 g9 g10 (nI ml) g12 g13 gi14 g15 g16 g17 gi18 g19 g20 g21 g22 g23 g24 g25 g26 g27 g28 gi29 gi30 (nI mv) gi32 g33 g34 g35 g36 g37 g38 g39 gi40 g41 g42 gi43 g44 g45), (aIc cI g21 8 G21), (aIc cI g22 8 a_g22_2), (aIc cI g23 8 G23)] H → va_D A [(oX8 g gi0 (nI mn) g2 g3 g4 g5 g6 g7 g8 g9 g10 (nI ml) g12 g13 gi14 g15 g16 g17 gi18 g19 g20 g21 g22 g23 g24 g25 g26 g27 g28 gi29 gi30 (nI mv) gi32 g33 g34 g35 g36 g37 g38 g39 gi40 g41 g42 gi43 g44 g45), (aIc cI g21 8 G21), (aIc cI g22 8 a_g22_2), (aIc cI g23 8 G23)] → va_S A s.heap H locs → lv_has ls 3 [(1, .int (nI i2)), (0, .ref g)] → W p l e { frames := 1, cells := 0, slots := 0, locals := 21 } s m [.ref g].toArray below meth c H locs 0 0 (MQ below (cQv D (fun u => ∃ (G22p G23p : Nat → Int32), u = [(oX8 g gi0 (nI mn) g2 g3 g4 g5 g6 g7 g8 g9 g10 (nI ml) g12 g13 gi14 g15 g16 g17 gi18 g19 g20 g21 g22 g23 g24 g25 g26 g27 g28 gi29 gi30 (nI mv) gi32 g33 g34 g35 g36 g37 g38 g39 gi40 g41 g42 gi43 g44 g45), (aIc cI g21 8 G21), (aIc cI g22 8 G22p), (aIc cI g23 8 G23p)]) A) [.ref g].toArray s 0 0 A) (F0 m 2 ls []) := by
    intro zz
    induction zz with
    | zero => intro i2 a_g22_2 _; exact fun h => absurd h (Nat.not_lt_zero _)
    | succ zz ih2 =>
      intro i2 a_g22_2 hc1_2 hmu2 H locs ls hP hD hS hl
      refine lv_iload_n hx hb dX8_closes_2 rfl (lv_at hl 0 rfl) ?_
      refine lv_bipush (v := 8) hx hb dX8_closes_3 (by decide) ?_
      refine lv_icmp_ge (tgt := 26) hx hb dX8_closes_5 (by decide) (fun c1 => ?_) (fun c1 => ?_)
      · skip
        have nc1 : 8 ≤ i2 := (nI_leI (a := 8) (b := i2) (by omega) (by omega)).mp c1
        refine lv_iconst (v := 0) hx hb dX8_closes_26 (by decide) ?_
        refine lv_istore_n (lv' := [(1, .int 0), (0, .ref g)]) hx hb dX8_closes_27 rfl hl (by decide) rfl (fun ls hl => ?_)
        have J28 : ∀ (zz : Nat) (i28 : Nat) (a_g22_28 : Nat → Int32), (i28 ≤ 8) → (8 - i28) < zz → ∀ (H : Heap) (locs : List Loc) (ls : Array Slot), va_P D vwCl [(oX8 g gi0 (nI mn) g2 g3 g4 g5 g6 g7 g8 g9 g10 (nI ml) g12 g13 gi14 g15 g16 g17 gi18 g19 g20 g21 g22 g23 g24 g25 g26 g27 g28 gi29 gi30 (nI mv) gi32 g33 g34 g35 g36 g37 g38 g39 gi40 g41 g42 gi43 g44 g45), (aIc cI g21 8 G21), (aIc cI g22 8 a_g22_28), (aIc cI g23 8 G23)] H → va_D A [(oX8 g gi0 (nI mn) g2 g3 g4 g5 g6 g7 g8 g9 g10 (nI ml) g12 g13 gi14 g15 g16 g17 gi18 g19 g20 g21 g22 g23 g24 g25 g26 g27 g28 gi29 gi30 (nI mv) gi32 g33 g34 g35 g36 g37 g38 g39 gi40 g41 g42 gi43 g44 g45), (aIc cI g21 8 G21), (aIc cI g22 8 a_g22_28), (aIc cI g23 8 G23)] → va_S A s.heap H locs → lv_has ls 3 [(1, .int (nI i28)), (0, .ref g)] → W p l e { frames := 1, cells := 0, slots := 0, locals := 21 } s m [.ref g].toArray below meth c H locs 0 0 (MQ below (cQv D (fun u => ∃ (G22p G23p : Nat → Int32), u = [(oX8 g gi0 (nI mn) g2 g3 g4 g5 g6 g7 g8 g9 g10 (nI ml) g12 g13 gi14 g15 g16 g17 gi18 g19 g20 g21 g22 g23 g24 g25 g26 g27 g28 gi29 gi30 (nI mv) gi32 g33 g34 g35 g36 g37 g38 g39 gi40 g41 g42 gi43 g44 g45), (aIc cI g21 8 G21), (aIc cI g22 8 G22p), (aIc cI g23 8 G23p)]) A) [.ref g].toArray s 0 0 A) (F0 m 28 ls []) := by
          intro zz
          induction zz with
          | zero => intro i28 a_g22_28 _; exact fun h => absurd h (Nat.not_lt_zero _)
          | succ zz ih28 =>
            intro i28 a_g22_28 hc1_28 hmu28 H locs ls hP hD hS hl
            refine lv_iload_n hx hb dX8_closes_28 rfl (lv_at hl 0 rfl) ?_
            refine lv_bipush (v := 8) hx hb dX8_closes_29 (by decide) ?_
            refine lv_icmp_ge (tgt := 86) hx hb dX8_closes_31 (by decide) (fun c2 => ?_) (fun c2 => ?_)
            · skip
              have nc2 : 8 ≤ i28 := (nI_leI (a := 8) (b := i28) (by omega) (by omega)).mp c2
              refine lv_iconst (v := 0) hx hb dX8_closes_86 (by decide) ?_
              refine lv_istore_n (lv' := [(1, .int 0), (0, .ref g)]) hx hb dX8_closes_87 rfl hl (by decide) rfl (fun ls hl => ?_)
              have J88 : ∀ (zz : Nat) (i88 : Nat) (a_g23_88 : Nat → Int32), (i88 ≤ 8) → (8 - i88) < zz → ∀ (H : Heap) (locs : List Loc) (ls : Array Slot), va_P D vwCl [(oX8 g gi0 (nI mn) g2 g3 g4 g5 g6 g7 g8 g9 g10 (nI ml) g12 g13 gi14 g15 g16 g17 gi18 g19 g20 g21 g22 g23 g24 g25 g26 g27 g28 gi29 gi30 (nI mv) gi32 g33 g34 g35 g36 g37 g38 g39 gi40 g41 g42 gi43 g44 g45), (aIc cI g21 8 G21), (aIc cI g22 8 a_g22_28), (aIc cI g23 8 a_g23_88)] H → va_D A [(oX8 g gi0 (nI mn) g2 g3 g4 g5 g6 g7 g8 g9 g10 (nI ml) g12 g13 gi14 g15 g16 g17 gi18 g19 g20 g21 g22 g23 g24 g25 g26 g27 g28 gi29 gi30 (nI mv) gi32 g33 g34 g35 g36 g37 g38 g39 gi40 g41 g42 gi43 g44 g45), (aIc cI g21 8 G21), (aIc cI g22 8 a_g22_28), (aIc cI g23 8 a_g23_88)] → va_S A s.heap H locs → lv_has ls 3 [(1, .int (nI i88)), (0, .ref g)] → W p l e { frames := 1, cells := 0, slots := 0, locals := 21 } s m [.ref g].toArray below meth c H locs 0 0 (MQ below (cQv D (fun u => ∃ (G22p G23p : Nat → Int32), u = [(oX8 g gi0 (nI mn) g2 g3 g4 g5 g6 g7 g8 g9 g10 (nI ml) g12 g13 gi14 g15 g16 g17 gi18 g19 g20 g21 g22 g23 g24 g25 g26 g27 g28 gi29 gi30 (nI mv) gi32 g33 g34 g35 g36 g37 g38 g39 gi40 g41 g42 gi43 g44 g45), (aIc cI g21 8 G21), (aIc cI g22 8 G22p), (aIc cI g23 8 G23p)]) A) [.ref g].toArray s 0 0 A) (F0 m 88 ls []) := by
                intro zz
                induction zz with
                | zero => intro i88 a_g23_88 _; exact fun h => absurd h (Nat.not_lt_zero _)
                | succ zz ih88 =>
                  intro i88 a_g23_88 hc1_88 hmu88 H locs ls hP hD hS hl
                  refine lv_iload_n hx hb dX8_closes_88 rfl (lv_at hl 0 rfl) ?_
                  refine lv_bipush (v := 8) hx hb dX8_closes_89 (by decide) ?_
                  refine lv_icmp_ge (tgt := 163) hx hb dX8_closes_91 (by decide) (fun c3 => ?_) (fun c3 => ?_)
                  · skip
                    have nc3 : 8 ≤ i88 := (nI_leI (a := 8) (b := i88) (by omega) (by omega)).mp c3
                    refine k_vret (u := [(oX8 g gi0 (nI mn) g2 g3 g4 g5 g6 g7 g8 g9 g10 (nI ml) g12 g13 gi14 g15 g16 g17 gi18 g19 g20 g21 g22 g23 g24 g25 g26 g27 g28 gi29 gi30 (nI mv) gi32 g33 g34 g35 g36 g37 g38 g39 gi40 g41 g42 gi43 g44 g45), (aIc cI g21 8 G21), (aIc cI g22 8 a_g22_28), (aIc cI g23 8 a_g23_88)]) hx hb hr hlk hP hD hS dX8_closes_163 ?_
                    exact ⟨a_g22_28, a_g23_88, rfl⟩
                  · skip
                    have nc3 : ¬ 8 ≤ i88 := fun q9 => c3 ((nI_leI (a := 8) (b := i88) (by omega) (by omega)).mpr q9)
                    refine lv_aload_n hx hb dX8_closes_94 rfl (lv_at hl 1 rfl) ?_
                    refine va_get (D := D) (ci := 8) (v := .ref g23) (C := RX8) (T := TX8) (N := 46) hx hb hts hiX8 hown hE.1 hP 0 rfl rfl 23 (by decide) (hts _ (List.mem_cons_of_mem _ wd_134)) (fun _ h9 => h9) rfl dX8_closes_95 ?_
                    refine lv_iload_n hx hb dX8_closes_98 rfl (lv_at hl 0 rfl) ?_
                    refine lv_iconst (v := 0) hx hb dX8_closes_99 (by decide) ?_
                    refine va_iast hx hb hE.1 hP hD hS 3 0 rfl rfl (vp_in_nI (n := i88) (by omega) (by decide)) dX8_closes_100 (fun H locs hP hD hS => ?_)
                    refine k_re (w := [(oX8 g gi0 (nI mn) g2 g3 g4 g5 g6 g7 g8 g9 g10 (nI ml) g12 g13 gi14 g15 g16 g17 gi18 g19 g20 g21 g22 g23 g24 g25 g26 g27 g28 gi29 gi30 (nI mv) gi32 g33 g34 g35 g36 g37 g38 g39 gi40 g41 g42 gi43 g44 g45), (aIc cI g21 8 G21), (aIc cI g22 8 a_g22_28), (aIc cI g23 8 (upd a_g23_88 (Int32.toNatClampNeg (nI i88)) 0))]) hP hD (fun hP hD => ?_)
                    refine lv_iconst (v := 0) hx hb dX8_closes_101 (by decide) ?_
                    refine lv_istore_n (lv' := [(2, .int 0), (1, .int (nI i88)), (0, .ref g)]) hx hb dX8_closes_102 rfl hl (by decide) rfl (fun ls hl => ?_)
                    have J103 : ∀ (zz : Nat) (j103 : Nat) (a_g23_103 : Nat → Int32), (j103 ≤ 8) → (8 - j103) < zz → ∀ (H : Heap) (locs : List Loc) (ls : Array Slot), va_P D vwCl [(oX8 g gi0 (nI mn) g2 g3 g4 g5 g6 g7 g8 g9 g10 (nI ml) g12 g13 gi14 g15 g16 g17 gi18 g19 g20 g21 g22 g23 g24 g25 g26 g27 g28 gi29 gi30 (nI mv) gi32 g33 g34 g35 g36 g37 g38 g39 gi40 g41 g42 gi43 g44 g45), (aIc cI g21 8 G21), (aIc cI g22 8 a_g22_28), (aIc cI g23 8 a_g23_103)] H → va_D A [(oX8 g gi0 (nI mn) g2 g3 g4 g5 g6 g7 g8 g9 g10 (nI ml) g12 g13 gi14 g15 g16 g17 gi18 g19 g20 g21 g22 g23 g24 g25 g26 g27 g28 gi29 gi30 (nI mv) gi32 g33 g34 g35 g36 g37 g38 g39 gi40 g41 g42 gi43 g44 g45), (aIc cI g21 8 G21), (aIc cI g22 8 a_g22_28), (aIc cI g23 8 a_g23_103)] → va_S A s.heap H locs → lv_has ls 3 [(2, .int (nI j103)), (1, .int (nI i88)), (0, .ref g)] → W p l e { frames := 1, cells := 0, slots := 0, locals := 21 } s m [.ref g].toArray below meth c H locs 0 0 (MQ below (cQv D (fun u => ∃ (G22p G23p : Nat → Int32), u = [(oX8 g gi0 (nI mn) g2 g3 g4 g5 g6 g7 g8 g9 g10 (nI ml) g12 g13 gi14 g15 g16 g17 gi18 g19 g20 g21 g22 g23 g24 g25 g26 g27 g28 gi29 gi30 (nI mv) gi32 g33 g34 g35 g36 g37 g38 g39 gi40 g41 g42 gi43 g44 g45), (aIc cI g21 8 G21), (aIc cI g22 8 G22p), (aIc cI g23 8 G23p)]) A) [.ref g].toArray s 0 0 A) (F0 m 103 ls []) := by
                      intro zz
                      induction zz with
                      | zero => intro j103 a_g23_103 _; exact fun h => absurd h (Nat.not_lt_zero _)
                      | succ zz ih103 =>
                        intro j103 a_g23_103 hc2_103 hmu103 H locs ls hP hD hS hl
                        refine lv_iload_n hx hb dX8_closes_103 rfl (lv_at hl 0 rfl) ?_
                        refine lv_bipush (v := 8) hx hb dX8_closes_104 (by decide) ?_
                        refine lv_icmp_ge (tgt := 157) hx hb dX8_closes_106 (by decide) (fun c4 => ?_) (fun c4 => ?_)
                        · skip
                          have nc4 : 8 ≤ j103 := (nI_leI (a := 8) (b := j103) (by omega) (by omega)).mp c4
                          refine lv_iinc (v := (nI (i88 + 1))) (lv' := [(1, .int (nI (i88 + 1))), (2, .int (nI j103)), (0, .ref g)]) hx hb dX8_closes_157 hl (k := 1) rfl (nI_1 _) (by decide) rfl (fun ls hl => ?_)
                          refine lv_goto (tgt := 88) hx hb dX8_closes_160 (by decide) ?_
                          exact ih88 (i88 + 1) a_g23_103 (by omega) (by omega) _ _ _ hP hD hS (lv_sub hl [0, 2] rfl)
                        · skip
                          have nc4 : ¬ 8 ≤ j103 := fun q9 => c4 ((nI_leI (a := 8) (b := j103) (by omega) (by omega)).mpr q9)
                          refine lv_aload_n hx hb dX8_closes_109 rfl (lv_at hl 2 rfl) ?_
                          refine va_get (D := D) (ci := 8) (v := .ref g23) (C := RX8) (T := TX8) (N := 46) hx hb hts hiX8 hown hE.1 hP 0 rfl rfl 23 (by decide) (hts _ (List.mem_cons_of_mem _ wd_134)) (fun _ h9 => h9) rfl dX8_closes_110 ?_
                          refine lv_iload_n hx hb dX8_closes_113 rfl (lv_at hl 1 rfl) ?_
                          refine lv_dup2_11 hx hb dX8_closes_114 rfl rfl ?_
                          refine va_iald hx hb hE.1 hP 3 0 rfl rfl (vp_in_nI (n := i88) (by omega) (by decide)) dX8_closes_115 ?_
                          refine lv_topi (fun v5 ev5 => ?_)
                          refine lv_aload_n hx hb dX8_closes_116 rfl (lv_at hl 2 rfl) ?_
                          refine va_get (D := D) (ci := 8) (v := .ref g22) (C := RX8) (T := TX8) (N := 46) hx hb hts hiX8 hown hE.1 hP 0 rfl rfl 22 (by decide) (hts _ (List.mem_cons_of_mem _ wd_133)) (fun _ h9 => h9) rfl dX8_closes_117 ?_
                          refine lv_iload_n hx hb dX8_closes_120 rfl (lv_at hl 1 rfl) ?_
                          refine va_iald hx hb hE.1 hP 2 0 rfl rfl (vp_in_nI (n := i88) (by omega) (by decide)) dX8_closes_121 ?_
                          refine lv_topi (fun v6 ev6 => ?_)
                          refine lv_iload_n hx hb dX8_closes_122 rfl (lv_at hl 0 rfl) ?_
                          refine k_iS (va_runS (As := [.int v6, .int (nI j103)]) (rest := [.int v5, .int (nI i88), .ref g23]) ⟨hx, hb, hml, hown, hts⟩ (m_X8_isOn l D cI cJ H.size v6 (nI j103)) (va_cwS 2 hts gX8_closes_X8_isOn rfl rfl rfl (by decide +kernel) ⟨Nat.le_of_ble_eq_true rfl, Nat.le_of_ble_eq_true rfl⟩) (k_pre hE hP hD [] (by decide +kernel) rfl) rfl rfl hl.1 rfl (lv_room (Nat.le_of_ble_eq_true rfl)) dX8_closes_123 ⟨Nat.le_of_ble_eq_true rfl, Nat.le_of_ble_eq_true rfl⟩) hP hD hS hA [] rfl (fun _ _ h9 => h9.2) (fun r7 H locs hw8 hP hD hS => ?_)
                          obtain ⟨hw8, -⟩ := hw8
                          refine lv_if_eq (tgt := 148) hx hb dX8_closes_126 (by decide) (fun c9 => ?_) (fun c9 => ?_)
                          · skip
                            have hc9 : ¬ ((v6 >>> ((nI j103) &&& 31)) &&& 1 = 1) := bz_0 hw8 c9
                            refine lv_iconst (v := 0) hx hb dX8_closes_148 (by decide) ?_
                            refine lv_ior hx hb dX8_closes_149 ?_
                            refine lv_topi (fun v10 ev10 => ?_)
                            refine va_iast hx hb hE.1 hP hD hS 3 0 rfl rfl (vp_in_nI (n := i88) (by omega) (by decide)) dX8_closes_150 (fun H locs hP hD hS => ?_)
                            refine k_re (w := [(oX8 g gi0 (nI mn) g2 g3 g4 g5 g6 g7 g8 g9 g10 (nI ml) g12 g13 gi14 g15 g16 g17 gi18 g19 g20 g21 g22 g23 g24 g25 g26 g27 g28 gi29 gi30 (nI mv) gi32 g33 g34 g35 g36 g37 g38 g39 gi40 g41 g42 gi43 g44 g45), (aIc cI g21 8 G21), (aIc cI g22 8 a_g22_28), (aIc cI g23 8 (upd a_g23_103 (Int32.toNatClampNeg (nI i88)) v10))]) hP hD (fun hP hD => ?_)
                            refine lv_iinc (v := (nI (j103 + 1))) (lv' := [(2, .int (nI (j103 + 1))), (1, .int (nI i88)), (0, .ref g)]) hx hb dX8_closes_151 hl (k := 0) rfl (nI_1 _) (by decide) rfl (fun ls hl => ?_)
                            refine lv_goto (tgt := 103) hx hb dX8_closes_154 (by decide) ?_
                            exact ih103 (j103 + 1) (upd a_g23_103 (Int32.toNatClampNeg (nI i88)) v10) (by omega) (by omega) _ _ _ hP hD hS (lv_sub hl [0, 1, 2] rfl)
                          · skip
                            have hc9 : (v6 >>> ((nI j103) &&& 31)) &&& 1 = 1 := bz_1 hw8 c9
                            refine lv_aload_n hx hb dX8_closes_129 rfl (lv_at hl 2 rfl) ?_
                            refine va_get (D := D) (ci := 8) (v := .ref g22) (C := RX8) (T := TX8) (N := 46) hx hb hts hiX8 hown hE.1 hP 0 rfl rfl 22 (by decide) (hts _ (List.mem_cons_of_mem _ wd_133)) (fun _ h9 => h9) rfl dX8_closes_130 ?_
                            refine lv_iload_n hx hb dX8_closes_133 rfl (lv_at hl 0 rfl) ?_
                            refine va_iald hx hb hE.1 hP 2 0 rfl rfl (vp_in_nI (n := j103) (by omega) (by decide)) dX8_closes_134 ?_
                            refine lv_topi (fun v11 ev11 => ?_)
                            refine lv_iload_n hx hb dX8_closes_135 rfl (lv_at hl 1 rfl) ?_
                            refine k_iS (va_runS (As := [.int v11, .int (nI i88)]) (rest := [.int v5, .int (nI i88), .ref g23]) ⟨hx, hb, hml, hown, hts⟩ (m_X8_isOn l D cI cJ H.size v11 (nI i88)) (va_cwS 2 hts gX8_closes_X8_isOn rfl rfl rfl (by decide +kernel) ⟨Nat.le_of_ble_eq_true rfl, Nat.le_of_ble_eq_true rfl⟩) (k_pre hE hP hD [] (by decide +kernel) rfl) rfl rfl hl.1 rfl (lv_room (Nat.le_of_ble_eq_true rfl)) dX8_closes_136 ⟨Nat.le_of_ble_eq_true rfl, Nat.le_of_ble_eq_true rfl⟩) hP hD hS hA [] rfl (fun _ _ h9 => h9.2) (fun r12 H locs hw13 hP hD hS => ?_)
                            obtain ⟨hw13, -⟩ := hw13
                            refine lv_if_eq (tgt := 148) hx hb dX8_closes_139 (by decide) (fun c14 => ?_) (fun c14 => ?_)
                            · skip
                              have hc14 : ¬ ((v11 >>> ((nI i88) &&& 31)) &&& 1 = 1) := bz_0 hw13 c14
                              refine lv_iconst (v := 0) hx hb dX8_closes_148 (by decide) ?_
                              refine lv_ior hx hb dX8_closes_149 ?_
                              refine lv_topi (fun v15 ev15 => ?_)
                              refine va_iast hx hb hE.1 hP hD hS 3 0 rfl rfl (vp_in_nI (n := i88) (by omega) (by decide)) dX8_closes_150 (fun H locs hP hD hS => ?_)
                              refine k_re (w := [(oX8 g gi0 (nI mn) g2 g3 g4 g5 g6 g7 g8 g9 g10 (nI ml) g12 g13 gi14 g15 g16 g17 gi18 g19 g20 g21 g22 g23 g24 g25 g26 g27 g28 gi29 gi30 (nI mv) gi32 g33 g34 g35 g36 g37 g38 g39 gi40 g41 g42 gi43 g44 g45), (aIc cI g21 8 G21), (aIc cI g22 8 a_g22_28), (aIc cI g23 8 (upd a_g23_103 (Int32.toNatClampNeg (nI i88)) v15))]) hP hD (fun hP hD => ?_)
                              refine lv_iinc (v := (nI (j103 + 1))) (lv' := [(2, .int (nI (j103 + 1))), (1, .int (nI i88)), (0, .ref g)]) hx hb dX8_closes_151 hl (k := 0) rfl (nI_1 _) (by decide) rfl (fun ls hl => ?_)
                              refine lv_goto (tgt := 103) hx hb dX8_closes_154 (by decide) ?_
                              exact ih103 (j103 + 1) (upd a_g23_103 (Int32.toNatClampNeg (nI i88)) v15) (by omega) (by omega) _ _ _ hP hD hS (lv_sub hl [0, 1, 2] rfl)
                            · skip
                              have hc14 : (v11 >>> ((nI i88) &&& 31)) &&& 1 = 1 := bz_1 hw13 c14
                              refine lv_iconst (v := 1) hx hb dX8_closes_142 (by decide) ?_
                              refine lv_iload_n hx hb dX8_closes_143 rfl (lv_at hl 0 rfl) ?_
                              refine lv_ishl hx hb dX8_closes_144 ?_
                              refine lv_topi (fun v16 ev16 => ?_)
                              refine lv_goto (tgt := 149) hx hb dX8_closes_145 (by decide) ?_
                              refine lv_ior hx hb dX8_closes_149 ?_
                              refine lv_topi (fun v17 ev17 => ?_)
                              refine va_iast hx hb hE.1 hP hD hS 3 0 rfl rfl (vp_in_nI (n := i88) (by omega) (by decide)) dX8_closes_150 (fun H locs hP hD hS => ?_)
                              refine k_re (w := [(oX8 g gi0 (nI mn) g2 g3 g4 g5 g6 g7 g8 g9 g10 (nI ml) g12 g13 gi14 g15 g16 g17 gi18 g19 g20 g21 g22 g23 g24 g25 g26 g27 g28 gi29 gi30 (nI mv) gi32 g33 g34 g35 g36 g37 g38 g39 gi40 g41 g42 gi43 g44 g45), (aIc cI g21 8 G21), (aIc cI g22 8 a_g22_28), (aIc cI g23 8 (upd a_g23_103 (Int32.toNatClampNeg (nI i88)) v17))]) hP hD (fun hP hD => ?_)
                              refine lv_iinc (v := (nI (j103 + 1))) (lv' := [(2, .int (nI (j103 + 1))), (1, .int (nI i88)), (0, .ref g)]) hx hb dX8_closes_151 hl (k := 0) rfl (nI_1 _) (by decide) rfl (fun ls hl => ?_)
                              refine lv_goto (tgt := 103) hx hb dX8_closes_154 (by decide) ?_
                              exact ih103 (j103 + 1) (upd a_g23_103 (Int32.toNatClampNeg (nI i88)) v17) (by omega) (by omega) _ _ _ hP hD hS (lv_sub hl [0, 1, 2] rfl)
                    exact J103 _ 0 (upd a_g23_88 (Int32.toNatClampNeg (nI i88)) 0) (by omega) (Nat.lt_succ_self _) _ _ _ hP hD hS (lv_sub hl [0, 1, 2] rfl)
              exact J88 _ 0 G23 (by omega) (Nat.lt_succ_self _) _ _ _ hP hD hS (lv_sub hl [0, 1] rfl)
            · skip
              have nc2 : ¬ 8 ≤ i28 := fun q9 => c2 ((nI_leI (a := 8) (b := i28) (by omega) (by omega)).mpr q9)
              refine lv_iconst (v := 0) hx hb dX8_closes_34 (by decide) ?_
              refine lv_istore_n (lv' := [(2, .int 0), (1, .int (nI i28)), (0, .ref g)]) hx hb dX8_closes_35 rfl hl (by decide) rfl (fun ls hl => ?_)
              have J36 : ∀ (zz : Nat) (j36 : Nat) (a_g22_36 : Nat → Int32), (j36 ≤ 8) → (8 - j36) < zz → ∀ (H : Heap) (locs : List Loc) (ls : Array Slot), va_P D vwCl [(oX8 g gi0 (nI mn) g2 g3 g4 g5 g6 g7 g8 g9 g10 (nI ml) g12 g13 gi14 g15 g16 g17 gi18 g19 g20 g21 g22 g23 g24 g25 g26 g27 g28 gi29 gi30 (nI mv) gi32 g33 g34 g35 g36 g37 g38 g39 gi40 g41 g42 gi43 g44 g45), (aIc cI g21 8 G21), (aIc cI g22 8 a_g22_36), (aIc cI g23 8 G23)] H → va_D A [(oX8 g gi0 (nI mn) g2 g3 g4 g5 g6 g7 g8 g9 g10 (nI ml) g12 g13 gi14 g15 g16 g17 gi18 g19 g20 g21 g22 g23 g24 g25 g26 g27 g28 gi29 gi30 (nI mv) gi32 g33 g34 g35 g36 g37 g38 g39 gi40 g41 g42 gi43 g44 g45), (aIc cI g21 8 G21), (aIc cI g22 8 a_g22_36), (aIc cI g23 8 G23)] → va_S A s.heap H locs → lv_has ls 3 [(2, .int (nI j36)), (1, .int (nI i28)), (0, .ref g)] → W p l e { frames := 1, cells := 0, slots := 0, locals := 21 } s m [.ref g].toArray below meth c H locs 0 0 (MQ below (cQv D (fun u => ∃ (G22p G23p : Nat → Int32), u = [(oX8 g gi0 (nI mn) g2 g3 g4 g5 g6 g7 g8 g9 g10 (nI ml) g12 g13 gi14 g15 g16 g17 gi18 g19 g20 g21 g22 g23 g24 g25 g26 g27 g28 gi29 gi30 (nI mv) gi32 g33 g34 g35 g36 g37 g38 g39 gi40 g41 g42 gi43 g44 g45), (aIc cI g21 8 G21), (aIc cI g22 8 G22p), (aIc cI g23 8 G23p)]) A) [.ref g].toArray s 0 0 A) (F0 m 36 ls []) := by
                intro zz
                induction zz with
                | zero => intro j36 a_g22_36 _; exact fun h => absurd h (Nat.not_lt_zero _)
                | succ zz ih36 =>
                  intro j36 a_g22_36 hc2_36 hmu36 H locs ls hP hD hS hl
                  refine lv_iload_n hx hb dX8_closes_36 rfl (lv_at hl 0 rfl) ?_
                  refine lv_bipush (v := 8) hx hb dX8_closes_37 (by decide) ?_
                  refine lv_icmp_ge (tgt := 80) hx hb dX8_closes_39 (by decide) (fun c18 => ?_) (fun c18 => ?_)
                  · skip
                    have nc18 : 8 ≤ j36 := (nI_leI (a := 8) (b := j36) (by omega) (by omega)).mp c18
                    refine lv_iinc (v := (nI (i28 + 1))) (lv' := [(1, .int (nI (i28 + 1))), (2, .int (nI j36)), (0, .ref g)]) hx hb dX8_closes_80 hl (k := 1) rfl (nI_1 _) (by decide) rfl (fun ls hl => ?_)
                    refine lv_goto (tgt := 28) hx hb dX8_closes_83 (by decide) ?_
                    exact ih28 (i28 + 1) a_g22_36 (by omega) (by omega) _ _ _ hP hD hS (lv_sub hl [0, 2] rfl)
                  · skip
                    have nc18 : ¬ 8 ≤ j36 := fun q9 => c18 ((nI_leI (a := 8) (b := j36) (by omega) (by omega)).mpr q9)
                    refine lv_aload_n hx hb dX8_closes_42 rfl (lv_at hl 2 rfl) ?_
                    refine va_get (D := D) (ci := 8) (v := .ref g22) (C := RX8) (T := TX8) (N := 46) hx hb hts hiX8 hown hE.1 hP 0 rfl rfl 22 (by decide) (hts _ (List.mem_cons_of_mem _ wd_133)) (fun _ h9 => h9) rfl dX8_closes_43 ?_
                    refine lv_iload_n hx hb dX8_closes_46 rfl (lv_at hl 0 rfl) ?_
                    refine lv_dup2_11 hx hb dX8_closes_47 rfl rfl ?_
                    refine va_iald hx hb hE.1 hP 2 0 rfl rfl (vp_in_nI (n := j36) (by omega) (by decide)) dX8_closes_48 ?_
                    refine lv_topi (fun v19 ev19 => ?_)
                    refine lv_aload_n hx hb dX8_closes_49 rfl (lv_at hl 2 rfl) ?_
                    refine va_get (D := D) (ci := 8) (v := .ref g22) (C := RX8) (T := TX8) (N := 46) hx hb hts hiX8 hown hE.1 hP 0 rfl rfl 22 (by decide) (hts _ (List.mem_cons_of_mem _ wd_133)) (fun _ h9 => h9) rfl dX8_closes_50 ?_
                    refine lv_iload_n hx hb dX8_closes_53 rfl (lv_at hl 0 rfl) ?_
                    refine va_iald hx hb hE.1 hP 2 0 rfl rfl (vp_in_nI (n := j36) (by omega) (by decide)) dX8_closes_54 ?_
                    refine lv_topi (fun v20 ev20 => ?_)
                    refine lv_iload_n hx hb dX8_closes_55 rfl (lv_at hl 1 rfl) ?_
                    refine k_iS (va_runS (As := [.int v20, .int (nI i28)]) (rest := [.int v19, .int (nI j36), .ref g22]) ⟨hx, hb, hml, hown, hts⟩ (m_X8_isOn l D cI cJ H.size v20 (nI i28)) (va_cwS 2 hts gX8_closes_X8_isOn rfl rfl rfl (by decide +kernel) ⟨Nat.le_of_ble_eq_true rfl, Nat.le_of_ble_eq_true rfl⟩) (k_pre hE hP hD [] (by decide +kernel) rfl) rfl rfl hl.1 rfl (lv_room (Nat.le_of_ble_eq_true rfl)) dX8_closes_56 ⟨Nat.le_of_ble_eq_true rfl, Nat.le_of_ble_eq_true rfl⟩) hP hD hS hA [] rfl (fun _ _ h9 => h9.2) (fun r21 H locs hw22 hP hD hS => ?_)
                    obtain ⟨hw22, -⟩ := hw22
                    refine lv_if_eq (tgt := 71) hx hb dX8_closes_59 (by decide) (fun c23 => ?_) (fun c23 => ?_)
                    · skip
                      have hc23 : ¬ ((v20 >>> ((nI i28) &&& 31)) &&& 1 = 1) := bz_0 hw22 c23
                      refine lv_iconst (v := 0) hx hb dX8_closes_71 (by decide) ?_
                      refine lv_ior hx hb dX8_closes_72 ?_
                      refine lv_topi (fun v24 ev24 => ?_)
                      refine va_iast hx hb hE.1 hP hD hS 2 0 rfl rfl (vp_in_nI (n := j36) (by omega) (by decide)) dX8_closes_73 (fun H locs hP hD hS => ?_)
                      refine k_re (w := [(oX8 g gi0 (nI mn) g2 g3 g4 g5 g6 g7 g8 g9 g10 (nI ml) g12 g13 gi14 g15 g16 g17 gi18 g19 g20 g21 g22 g23 g24 g25 g26 g27 g28 gi29 gi30 (nI mv) gi32 g33 g34 g35 g36 g37 g38 g39 gi40 g41 g42 gi43 g44 g45), (aIc cI g21 8 G21), (aIc cI g22 8 (upd a_g22_36 (Int32.toNatClampNeg (nI j36)) v24)), (aIc cI g23 8 G23)]) hP hD (fun hP hD => ?_)
                      refine lv_iinc (v := (nI (j36 + 1))) (lv' := [(2, .int (nI (j36 + 1))), (1, .int (nI i28)), (0, .ref g)]) hx hb dX8_closes_74 hl (k := 0) rfl (nI_1 _) (by decide) rfl (fun ls hl => ?_)
                      refine lv_goto (tgt := 36) hx hb dX8_closes_77 (by decide) ?_
                      exact ih36 (j36 + 1) (upd a_g22_36 (Int32.toNatClampNeg (nI j36)) v24) (by omega) (by omega) _ _ _ hP hD hS (lv_sub hl [0, 1, 2] rfl)
                    · skip
                      have hc23 : (v20 >>> ((nI i28) &&& 31)) &&& 1 = 1 := bz_1 hw22 c23
                      refine lv_aload_n hx hb dX8_closes_62 rfl (lv_at hl 2 rfl) ?_
                      refine va_get (D := D) (ci := 8) (v := .ref g22) (C := RX8) (T := TX8) (N := 46) hx hb hts hiX8 hown hE.1 hP 0 rfl rfl 22 (by decide) (hts _ (List.mem_cons_of_mem _ wd_133)) (fun _ h9 => h9) rfl dX8_closes_63 ?_
                      refine lv_iload_n hx hb dX8_closes_66 rfl (lv_at hl 1 rfl) ?_
                      refine va_iald hx hb hE.1 hP 2 0 rfl rfl (vp_in_nI (n := i28) (by omega) (by decide)) dX8_closes_67 ?_
                      refine lv_topi (fun v25 ev25 => ?_)
                      refine lv_goto (tgt := 72) hx hb dX8_closes_68 (by decide) ?_
                      refine lv_ior hx hb dX8_closes_72 ?_
                      refine lv_topi (fun v26 ev26 => ?_)
                      refine va_iast hx hb hE.1 hP hD hS 2 0 rfl rfl (vp_in_nI (n := j36) (by omega) (by decide)) dX8_closes_73 (fun H locs hP hD hS => ?_)
                      refine k_re (w := [(oX8 g gi0 (nI mn) g2 g3 g4 g5 g6 g7 g8 g9 g10 (nI ml) g12 g13 gi14 g15 g16 g17 gi18 g19 g20 g21 g22 g23 g24 g25 g26 g27 g28 gi29 gi30 (nI mv) gi32 g33 g34 g35 g36 g37 g38 g39 gi40 g41 g42 gi43 g44 g45), (aIc cI g21 8 G21), (aIc cI g22 8 (upd a_g22_36 (Int32.toNatClampNeg (nI j36)) v26)), (aIc cI g23 8 G23)]) hP hD (fun hP hD => ?_)
                      refine lv_iinc (v := (nI (j36 + 1))) (lv' := [(2, .int (nI (j36 + 1))), (1, .int (nI i28)), (0, .ref g)]) hx hb dX8_closes_74 hl (k := 0) rfl (nI_1 _) (by decide) rfl (fun ls hl => ?_)
                      refine lv_goto (tgt := 36) hx hb dX8_closes_77 (by decide) ?_
                      exact ih36 (j36 + 1) (upd a_g22_36 (Int32.toNatClampNeg (nI j36)) v26) (by omega) (by omega) _ _ _ hP hD hS (lv_sub hl [0, 1, 2] rfl)
              exact J36 _ 0 a_g22_28 (by omega) (Nat.lt_succ_self _) _ _ _ hP hD hS (lv_sub hl [0, 1, 2] rfl)
        exact J28 _ 0 a_g22_2 (by omega) (Nat.lt_succ_self _) _ _ _ hP hD hS (lv_sub hl [0, 1] rfl)
      · skip
        have nc1 : ¬ 8 ≤ i2 := fun q9 => c1 ((nI_leI (a := 8) (b := i2) (by omega) (by omega)).mpr q9)
        refine lv_aload_n hx hb dX8_closes_8 rfl (lv_at hl 1 rfl) ?_
        refine va_get (D := D) (ci := 8) (v := .ref g22) (C := RX8) (T := TX8) (N := 46) hx hb hts hiX8 hown hE.1 hP 0 rfl rfl 22 (by decide) (hts _ (List.mem_cons_of_mem _ wd_133)) (fun _ h9 => h9) rfl dX8_closes_9 ?_
        refine lv_iload_n hx hb dX8_closes_12 rfl (lv_at hl 0 rfl) ?_
        refine lv_aload_n hx hb dX8_closes_13 rfl (lv_at hl 1 rfl) ?_
        refine va_get (D := D) (ci := 8) (v := .ref g21) (C := RX8) (T := TX8) (N := 46) hx hb hts hiX8 hown hE.1 hP 0 rfl rfl 21 (by decide) (hts _ (List.mem_cons_of_mem _ wd_132)) (fun _ h9 => h9) rfl dX8_closes_14 ?_
        refine lv_iload_n hx hb dX8_closes_17 rfl (lv_at hl 0 rfl) ?_
        refine va_iald hx hb hE.1 hP 1 0 rfl rfl (vp_in_nI (n := i2) (by omega) (by decide)) dX8_closes_18 ?_
        refine lv_topi (fun v27 ev27 => ?_)
        refine va_iast hx hb hE.1 hP hD hS 2 0 rfl rfl (vp_in_nI (n := i2) (by omega) (by decide)) dX8_closes_19 (fun H locs hP hD hS => ?_)
        refine k_re (w := [(oX8 g gi0 (nI mn) g2 g3 g4 g5 g6 g7 g8 g9 g10 (nI ml) g12 g13 gi14 g15 g16 g17 gi18 g19 g20 g21 g22 g23 g24 g25 g26 g27 g28 gi29 gi30 (nI mv) gi32 g33 g34 g35 g36 g37 g38 g39 gi40 g41 g42 gi43 g44 g45), (aIc cI g21 8 G21), (aIc cI g22 8 (upd a_g22_2 (Int32.toNatClampNeg (nI i2)) v27)), (aIc cI g23 8 G23)]) hP hD (fun hP hD => ?_)
        refine lv_iinc (v := (nI (i2 + 1))) (lv' := [(1, .int (nI (i2 + 1))), (0, .ref g)]) hx hb dX8_closes_20 hl (k := 0) rfl (nI_1 _) (by decide) rfl (fun ls hl => ?_)
        refine lv_goto (tgt := 2) hx hb dX8_closes_23 (by decide) ?_
        exact ih2 (i2 + 1) (upd a_g22_2 (Int32.toNatClampNeg (nI i2)) v27) (by omega) (by omega) _ _ _ hP hD hS (lv_sub hl [0, 1] rfl)
  exact J2 _ 0 G22 (by omega) (Nat.lt_succ_self _) _ _ _ hP hD hS (lv_sub hl [0, 1] rfl)

