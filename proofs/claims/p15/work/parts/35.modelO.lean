theorem dX8_share_0 : decode cX8_share 0 = .ok (.aload_n 0, 1) := by decide +kernel
theorem dX8_share_1 : decode cX8_share 1 = .ok (.aload_n 0, 1) := by decide +kernel
theorem dX8_share_2 : decode cX8_share 2 = .ok (.iload_n 1, 1) := by decide +kernel
theorem dX8_share_3 : decode cX8_share 3 = .ok (.invokevirtual 252, 3) := by decide +kernel
theorem dX8_share_6 : decode cX8_share 6 = .ok (.ifCond .eq 27, 3) := by decide +kernel
theorem dX8_share_9 : decode cX8_share 9 = .ok (.aload_n 0, 1) := by decide +kernel
theorem dX8_share_10 : decode cX8_share 10 = .ok (.iload_n 2, 1) := by decide +kernel
theorem dX8_share_11 : decode cX8_share 11 = .ok (.invokevirtual 140, 3) := by decide +kernel
theorem dX8_share_14 : decode cX8_share 14 = .ok (.ifCond .eq 19, 3) := by decide +kernel
theorem dX8_share_17 : decode cX8_share 17 = .ok (.iload_n 3, 1) := by decide +kernel
theorem dX8_share_18 : decode cX8_share 18 = .ok (.i2l, 1) := by decide +kernel
theorem dX8_share_19 : decode cX8_share 19 = .ok (.lconst 0, 1) := by decide +kernel
theorem dX8_share_20 : decode cX8_share 20 = .ok (.ldc2_w 262, 3) := by decide +kernel
theorem dX8_share_23 : decode cX8_share 23 = .ok (.invokestatic 123, 3) := by decide +kernel
theorem dX8_share_26 : decode cX8_share 26 = .ok (.ifCond .eq 7, 3) := by decide +kernel
theorem dX8_share_29 : decode cX8_share 29 = .ok (.iconst 0, 1) := by decide +kernel
theorem dX8_share_30 : decode cX8_share 30 = .ok (.goto 4, 3) := by decide +kernel
theorem dX8_share_33 : decode cX8_share 33 = .ok (.iconst 1, 1) := by decide +kernel
theorem dX8_share_34 : decode cX8_share 34 = .ok (.putfield 116, 3) := by decide +kernel
theorem dX8_share_37 : decode cX8_share 37 = .ok (.aload_n 0, 1) := by decide +kernel
theorem dX8_share_38 : decode cX8_share 38 = .ok (.getfield 116, 3) := by decide +kernel
theorem dX8_share_41 : decode cX8_share 41 = .ok (.ifCond .le 5, 3) := by decide +kernel
theorem dX8_share_44 : decode cX8_share 44 = .ok (.iconst 0, 1) := by decide +kernel
theorem dX8_share_45 : decode cX8_share 45 = .ok (.ireturn, 1) := by decide +kernel
theorem dX8_share_46 : decode cX8_share 46 = .ok (.aload_n 0, 1) := by decide +kernel
theorem dX8_share_47 : decode cX8_share 47 = .ok (.iload_n 1, 1) := by decide +kernel
theorem dX8_share_48 : decode cX8_share 48 = .ok (.aload_n 0, 1) := by decide +kernel
theorem dX8_share_49 : decode cX8_share 49 = .ok (.invokevirtual 220, 3) := by decide +kernel
theorem dX8_share_52 : decode cX8_share 52 = .ok (.invokevirtual 224, 3) := by decide +kernel
theorem dX8_share_55 : decode cX8_share 55 = .ok (.iload_n 3, 1) := by decide +kernel
theorem dX8_share_56 : decode cX8_share 56 = .ok (.tableswitch 104 0 7 #[48, 55, 62, 69, 76, 83, 90, 97], 48) := by decide +kernel
theorem dX8_share_104 : decode cX8_share 104 = .ok (.aload_n 0, 1) := by decide +kernel
theorem dX8_share_105 : decode cX8_share 105 = .ok (.getfield 55, 3) := by decide +kernel
theorem dX8_share_108 : decode cX8_share 108 = .ok (.iload_n 2, 1) := by decide +kernel
theorem dX8_share_109 : decode cX8_share 109 = .ok (.iaload, 1) := by decide +kernel
theorem dX8_share_110 : decode cX8_share 110 = .ok (.ireturn, 1) := by decide +kernel
theorem dX8_share_111 : decode cX8_share 111 = .ok (.aload_n 0, 1) := by decide +kernel
theorem dX8_share_112 : decode cX8_share 112 = .ok (.getfield 70, 3) := by decide +kernel
theorem dX8_share_115 : decode cX8_share 115 = .ok (.iload_n 2, 1) := by decide +kernel
theorem dX8_share_116 : decode cX8_share 116 = .ok (.iaload, 1) := by decide +kernel
theorem dX8_share_117 : decode cX8_share 117 = .ok (.ireturn, 1) := by decide +kernel
theorem dX8_share_118 : decode cX8_share 118 = .ok (.aload_n 0, 1) := by decide +kernel
theorem dX8_share_119 : decode cX8_share 119 = .ok (.getfield 73, 3) := by decide +kernel
theorem dX8_share_122 : decode cX8_share 122 = .ok (.iload_n 2, 1) := by decide +kernel
theorem dX8_share_123 : decode cX8_share 123 = .ok (.iaload, 1) := by decide +kernel
theorem dX8_share_124 : decode cX8_share 124 = .ok (.ireturn, 1) := by decide +kernel
theorem dX8_share_125 : decode cX8_share 125 = .ok (.aload_n 0, 1) := by decide +kernel
theorem dX8_share_126 : decode cX8_share 126 = .ok (.getfield 76, 3) := by decide +kernel
theorem dX8_share_129 : decode cX8_share 129 = .ok (.iload_n 2, 1) := by decide +kernel
theorem dX8_share_130 : decode cX8_share 130 = .ok (.iaload, 1) := by decide +kernel
theorem dX8_share_131 : decode cX8_share 131 = .ok (.ireturn, 1) := by decide +kernel
theorem dX8_share_132 : decode cX8_share 132 = .ok (.aload_n 0, 1) := by decide +kernel
theorem dX8_share_133 : decode cX8_share 133 = .ok (.getfield 64, 3) := by decide +kernel
theorem dX8_share_136 : decode cX8_share 136 = .ok (.iload_n 2, 1) := by decide +kernel
theorem dX8_share_137 : decode cX8_share 137 = .ok (.iaload, 1) := by decide +kernel
theorem dX8_share_138 : decode cX8_share 138 = .ok (.ireturn, 1) := by decide +kernel
theorem dX8_share_139 : decode cX8_share 139 = .ok (.aload_n 0, 1) := by decide +kernel
theorem dX8_share_140 : decode cX8_share 140 = .ok (.getfield 58, 3) := by decide +kernel
theorem dX8_share_143 : decode cX8_share 143 = .ok (.iload_n 2, 1) := by decide +kernel
theorem dX8_share_144 : decode cX8_share 144 = .ok (.iaload, 1) := by decide +kernel
theorem dX8_share_145 : decode cX8_share 145 = .ok (.ireturn, 1) := by decide +kernel
theorem dX8_share_146 : decode cX8_share 146 = .ok (.aload_n 0, 1) := by decide +kernel
theorem dX8_share_147 : decode cX8_share 147 = .ok (.getfield 67, 3) := by decide +kernel
theorem dX8_share_150 : decode cX8_share 150 = .ok (.iload_n 2, 1) := by decide +kernel
theorem dX8_share_151 : decode cX8_share 151 = .ok (.iaload, 1) := by decide +kernel
theorem dX8_share_152 : decode cX8_share 152 = .ok (.ireturn, 1) := by decide +kernel
theorem dX8_share_153 : decode cX8_share 153 = .ok (.aload_n 0, 1) := by decide +kernel
theorem dX8_share_154 : decode cX8_share 154 = .ok (.getfield 52, 3) := by decide +kernel
theorem dX8_share_157 : decode cX8_share 157 = .ok (.iload_n 2, 1) := by decide +kernel
theorem dX8_share_158 : decode cX8_share 158 = .ok (.iaload, 1) := by decide +kernel
theorem dX8_share_159 : decode cX8_share 159 = .ok (.ireturn, 1) := by decide +kernel
theorem dX8_share_160 : decode cX8_share 160 = .ok (.aload_n 0, 1) := by decide +kernel
theorem dX8_share_161 : decode cX8_share 161 = .ok (.getfield 70, 3) := by decide +kernel
theorem dX8_share_164 : decode cX8_share 164 = .ok (.iload_n 2, 1) := by decide +kernel
theorem dX8_share_165 : decode cX8_share 165 = .ok (.iaload, 1) := by decide +kernel
theorem dX8_share_166 : decode cX8_share 166 = .ok (.iconst (-1), 1) := by decide +kernel
theorem dX8_share_167 : decode cX8_share 167 = .ok (.if_icmp .ne 7, 3) := by decide +kernel
theorem dX8_share_170 : decode cX8_share 170 = .ok (.iconst (-1), 1) := by decide +kernel
theorem dX8_share_171 : decode cX8_share 171 = .ok (.goto 14, 3) := by decide +kernel
theorem dX8_share_174 : decode cX8_share 174 = .ok (.aload_n 0, 1) := by decide +kernel
theorem dX8_share_175 : decode cX8_share 175 = .ok (.getfield 82, 3) := by decide +kernel
theorem dX8_share_178 : decode cX8_share 178 = .ok (.aload_n 0, 1) := by decide +kernel
theorem dX8_share_179 : decode cX8_share 179 = .ok (.getfield 70, 3) := by decide +kernel
theorem dX8_share_182 : decode cX8_share 182 = .ok (.iload_n 2, 1) := by decide +kernel
theorem dX8_share_183 : decode cX8_share 183 = .ok (.iaload, 1) := by decide +kernel
theorem dX8_share_184 : decode cX8_share 184 = .ok (.iaload, 1) := by decide +kernel
theorem dX8_share_185 : decode cX8_share 185 = .ok (.ireturn, 1) := by decide +kernel
theorem gX8_share_X8_all : GoodIn wtX8_share (wsV RX8 220 RX8 yX8_all wtX8_all) := tb_good (tb_v0 wd_413 wd_414 wd_415 wd_5 wd_416)
theorem gX8_share_X8_in : GoodIn wtX8_share (va_wsS RX8 123 yX8_in wtX8_in) := tb_good (tb_s0 wd_177 wd_178 wd_5 wd_179)
theorem gX8_share_X8_isLoss : GoodIn wtX8_share (wsV RX8 252 RX8 yX8_isLoss wtX8_isLoss) := tb_good (tb_v0 wd_554 wd_555 wd_556 wd_5 wd_557)
theorem gX8_share_X8_isPolicy : GoodIn wtX8_share (wsV RX8 140 RX8 yX8_isPolicy wtX8_isPolicy) := tb_good (tb_v0 wd_198 wd_199 wd_200 wd_5 wd_201)
theorem gX8_share_X8_settlesTo : GoodIn wtX8_share (wsV RX8 224 RX8 yX8_settlesTo wtX8_settlesTo) := tb_good (tb_v0 wd_482 wd_483 wd_484 wd_5 wd_485)
set_option maxHeartbeats 4000000 in
set_option maxRecDepth 100000 in
theorem m_X8_share (l : Launch) (D : va_G) (cI cJ : ClassId) (sz : Nat) (g g2 g3 g4 g5 g6 g7 g8 g9 g10 g12 g13 g15 g16 g17 g19 g20 g21 g22 g23 g24 g25 g26 g27 g28 g33 g34 g35 g36 g37 g38 g39 g41 g42 g44 g45 mn ml mv tt : Nat) (gi0 gi14 gi18 gi29 gi30 gi40 gi43 p0 p1 p2 : Int32) (G2 G3 G4 G5 G6 G7 G8 G10 G12 G13 G19 G20 G21 G22 G23 G24 G25 G26 G27 G28 G33 G34 G35 G36 : Nat → Int32) (G37 : Nat → Int64) (li0 wo0 de0 ag0 : Nat → Nat) (hmn : mn ≤ 8) (hmL : ml ≤ 10) (hit : ∀ k, k < 10 → ∃ j : Nat, j < 8 ∧ G12 k = nI j) (hsu : ∀ k, k < 64 → ∃ j : Nat, j ≤ 1000001 ∧ G10 k = nI j) (hliv : nv G2 li0) (hlib : ∀ k, k < 8 → li0 k ≤ 1000000) (hwov : nv G5 wo0) (hwob : ∀ k, k < 8 → wo0 k ≤ 9000000) (hdev : nv G4 de0) (hdeb : ∀ k, k < 8 → de0 k ≤ 99999) (hagv : nv G3 ag0) (hagb : ∀ k, k < 8 → ag0 k ≤ 9000000) (hamt : ∀ k, k < 10 → ∃ j : Nat, j < 1000001 ∧ G13 k = nI j) (hLE : LE G19) (hLO : LO G20) (hLW : LW G25) (hSH : SH G27 tt) (htt : tt ≤ 1000000) (hmv : mv ≤ 8) : Met l yX8_share wtX8_share { frames := 8, cells := 0, slots := 0, locals := 189 } (cPc D cI cJ [.ref g, .int p0, .int p1, .int p2] sz [(oX8 g gi0 (nI mn) g2 g3 g4 g5 g6 g7 g8 g9 g10 (nI ml) g12 g13 gi14 g15 g16 g17 gi18 g19 g20 g21 g22 g23 g24 g25 g26 g27 g28 gi29 gi30 (nI mv) (nI tt) g33 g34 g35 g36 g37 g38 g39 gi40 g41 g42 gi43 g44 g45), (aIc cI g2 8 G2), (aIc cI g3 8 G3), (aIc cI g4 8 G4), (aIc cI g5 8 G5), (aIc cI g6 8 G6), (aIc cI g7 8 G7), (aIc cI g8 8 G8), (aIc cI g10 64 G10), (aIc cI g12 10 G12), (aIc cI g13 10 G13), (aIc cI g19 8 G19), (aIc cI g20 8 G20), (aIc cI g21 8 G21), (aIc cI g22 8 G22), (aIc cI g23 8 G23), (aIc cI g24 8 G24), (aIc cI g25 8 G25), (aIc cI g26 8 G26), (aIc cI g27 8 G27), (aIc cI g28 8 G28), (aIc cI g33 8 G33), (aIc cI g34 8 G34), (aIc cI g35 8 G35), (aIc cI g36 8 G36), (aJc cJ g37 8 G37)]) (cQi D (fun r u => ∃ (G19p G20p G21p G22p G23p G24p G25p G26p G27p G28p G33p G34p G35p G36p : Nat → Int32) (G37p : Nat → Int64) (gi29p gi30p gi18p : Int32) (mvp ttp : Nat) (gi0p : Int32), (LE G19p) ∧ (LO G20p) ∧ (LW G25p) ∧ (SH G27p ttp) ∧ (ttp ≤ 1000000) ∧ (mvp ≤ 8) ∧ u = [(oX8 g gi0p (nI mn) g2 g3 g4 g5 g6 g7 g8 g9 g10 (nI ml) g12 g13 gi14 g15 g16 g17 gi18p g19 g20 g21 g22 g23 g24 g25 g26 g27 g28 gi29p gi30p (nI mvp) (nI ttp) g33 g34 g35 g36 g37 g38 g39 gi40 g41 g42 gi43 g44 g45), (aIc cI g2 8 G2), (aIc cI g3 8 G3), (aIc cI g4 8 G4), (aIc cI g5 8 G5), (aIc cI g6 8 G6), (aIc cI g7 8 G7), (aIc cI g8 8 G8), (aIc cI g10 64 G10), (aIc cI g12 10 G12), (aIc cI g13 10 G13), (aIc cI g19 8 G19p), (aIc cI g20 8 G20p), (aIc cI g21 8 G21p), (aIc cI g22 8 G22p), (aIc cI g23 8 G23p), (aIc cI g24 8 G24p), (aIc cI g25 8 G25p), (aIc cI g26 8 G26p), (aIc cI g27 8 G27p), (aIc cI g28 8 G28p), (aIc cI g33 8 G33p), (aIc cI g34 8 G34p), (aIc cI g35 8 G35p), (aIc cI g36 8 G36p), (aJc cJ g37 8 G37p)]) (va_A [(oX8 g gi0 (nI mn) g2 g3 g4 g5 g6 g7 g8 g9 g10 (nI ml) g12 g13 gi14 g15 g16 g17 gi18 g19 g20 g21 g22 g23 g24 g25 g26 g27 g28 gi29 gi30 (nI mv) (nI tt) g33 g34 g35 g36 g37 g38 g39 gi40 g41 g42 gi43 g44 g45), (aIc cI g2 8 G2), (aIc cI g3 8 G3), (aIc cI g4 8 G4), (aIc cI g5 8 G5), (aIc cI g6 8 G6), (aIc cI g7 8 G7), (aIc cI g8 8 G8), (aIc cI g10 64 G10), (aIc cI g12 10 G12), (aIc cI g13 10 G13), (aIc cI g19 8 G19), (aIc cI g20 8 G20), (aIc cI g21 8 G21), (aIc cI g22 8 G22), (aIc cI g23 8 G23), (aIc cI g24 8 G24), (aIc cI g25 8 G25), (aIc cI g26 8 G26), (aIc cI g27 8 G27), (aIc cI g28 8 G28), (aIc cI g33 8 G33), (aIc cI g34 8 G34), (aIc cI g35 8 G35), (aIc cI g36 8 G36), (aJc cJ g37 8 G37)] sz)) 0 0 (va_A [(oX8 g gi0 (nI mn) g2 g3 g4 g5 g6 g7 g8 g9 g10 (nI ml) g12 g13 gi14 g15 g16 g17 gi18 g19 g20 g21 g22 g23 g24 g25 g26 g27 g28 gi29 gi30 (nI mv) (nI tt) g33 g34 g35 g36 g37 g38 g39 gi40 g41 g42 gi43 g44 g45), (aIc cI g2 8 G2), (aIc cI g3 8 G3), (aIc cI g4 8 G4), (aIc cI g5 8 G5), (aIc cI g6 8 G6), (aIc cI g7 8 G7), (aIc cI g8 8 G8), (aIc cI g10 64 G10), (aIc cI g12 10 G12), (aIc cI g13 10 G13), (aIc cI g19 8 G19), (aIc cI g20 8 G20), (aIc cI g21 8 G21), (aIc cI g22 8 G22), (aIc cI g23 8 G23), (aIc cI g24 8 G24), (aIc cI g25 8 G25), (aIc cI g26 8 G26), (aIc cI g27 8 G27), (aIc cI g28 8 G28), (aIc cI g33 8 G33), (aIc cI g34 8 G34), (aIc cI g35 8 G35), (aIc cI g36 8 G36), (aJc cJ g37 8 G37)] sz) := by
  refine k_ofW (Qc := cQi D (fun r u => ∃ (G19p G20p G21p G22p G23p G24p G25p G26p G27p G28p G33p G34p G35p G36p : Nat → Int32) (G37p : Nat → Int64) (gi29p gi30p gi18p : Int32) (mvp ttp : Nat) (gi0p : Int32), (LE G19p) ∧ (LO G20p) ∧ (LW G25p) ∧ (SH G27p ttp) ∧ (ttp ≤ 1000000) ∧ (mvp ≤ 8) ∧ u = [(oX8 g gi0p (nI mn) g2 g3 g4 g5 g6 g7 g8 g9 g10 (nI ml) g12 g13 gi14 g15 g16 g17 gi18p g19 g20 g21 g22 g23 g24 g25 g26 g27 g28 gi29p gi30p (nI mvp) (nI ttp) g33 g34 g35 g36 g37 g38 g39 gi40 g41 g42 gi43 g44 g45), (aIc cI g2 8 G2), (aIc cI g3 8 G3), (aIc cI g4 8 G4), (aIc cI g5 8 G5), (aIc cI g6 8 G6), (aIc cI g7 8 G7), (aIc cI g8 8 G8), (aIc cI g10 64 G10), (aIc cI g12 10 G12), (aIc cI g13 10 G13), (aIc cI g19 8 G19p), (aIc cI g20 8 G20p), (aIc cI g21 8 G21p), (aIc cI g22 8 G22p), (aIc cI g23 8 G23p), (aIc cI g24 8 G24p), (aIc cI g25 8 G25p), (aIc cI g26 8 G26p), (aIc cI g27 8 G27p), (aIc cI g28 8 G28p), (aIc cI g33 8 G33p), (aIc cI g34 8 G34p), (aIc cI g35 8 G35p), (aIc cI g36 8 G36p), (aJc cJ g37 8 G37p)])) (by decide) rfl (Nat.le_of_ble_eq_true rfl) ?_
  intro p e s m below meth c A ls hx hb hr hml hts hown hlk hnm hsz hE hP hD hS hA hl
  have hown : s.vm.findClass RX8 = some m.cls := hown
  have hiX8 : ∀ w ∈ u_ws RX8 TX8 46, w ∈ wtX8_share := fun w h => List.mem_cons_of_mem _ (iuX8 w h)
  have hl : lv_has ls 4 [(0, .ref g), (1, .int p0), (2, .int p1), (3, .int p2)] := hl
  refine lv_aload_n hx hb dX8_share_0 rfl (lv_at hl 0 rfl) ?_
  refine lv_aload_n hx hb dX8_share_1 rfl (lv_at hl 0 rfl) ?_
  refine lv_iload_n hx hb dX8_share_2 rfl (lv_at hl 1 rfl) ?_
  refine k_iS (va_runV (As := [.int p0]) (rest := [.ref g]) ⟨hx, hb, hml, hown, hts⟩ (m_X8_isLoss l D cI cJ (s.heap).size g g2 g3 g4 g5 g6 g7 g8 g9 g10 g12 g13 g15 g16 g17 g19 g20 g21 g22 g23 g24 g25 g26 g27 g28 g33 g34 g35 g36 g37 g38 g39 g41 g42 g44 g45 mn ml mv gi0 gi14 gi18 gi29 gi30 (nI tt) gi40 gi43 p0) (cwV 1 hts gX8_share_X8_isLoss rfl rfl rfl (by decide +kernel) ⟨Nat.le_of_ble_eq_true rfl, Nat.le_of_ble_eq_true rfl⟩) (k_preV hE hP hD [0] (by decide +kernel) rfl 0 rfl rfl) rfl rfl hl.1 rfl (lv_room (Nat.le_of_ble_eq_true rfl)) dX8_share_3 ⟨Nat.le_of_ble_eq_true rfl, Nat.le_of_ble_eq_true rfl⟩) hP hD hS hA [0] rfl (fun _ _ ⟨_, h9⟩ => h9) (fun r1 H locs hw2 hP hD hS => ?_)
  obtain ⟨hb3, -⟩ := hw2
  refine lv_if_eq (tgt := 33) hx hb dX8_share_6 (by decide) (fun c4 => ?_) (fun c4 => ?_)
  · skip
    have hc4 : ¬ (0 ≤ p0 ∧ p0 ≤ nI ml - 1) := bz_0 hb3 c4
    refine lv_iconst (v := 1) hx hb dX8_share_33 (by decide) ?_
    refine va_put (D := D) (ci := 8) (v := .int 1) (ty := .int) (C := RX8) (T := TX8) (N := 46) hx hb hts hiX8 tyX8 tyX8_ok nmX8 hown hE.1 hP hD hS 0 rfl rfl 0 (by decide) (hts _ (List.mem_cons_of_mem _ wd_171)) (fun _ h9 => h9) rfl (by decide +kernel) rfl rfl (Nat.le_of_ble_eq_true rfl) dX8_share_34 (fun H locs hP hD hS => ?_)
    refine k_re (w := [(oX8 g 1 (nI mn) g2 g3 g4 g5 g6 g7 g8 g9 g10 (nI ml) g12 g13 gi14 g15 g16 g17 gi18 g19 g20 g21 g22 g23 g24 g25 g26 g27 g28 gi29 gi30 (nI mv) (nI tt) g33 g34 g35 g36 g37 g38 g39 gi40 g41 g42 gi43 g44 g45), (aIc cI g2 8 G2), (aIc cI g3 8 G3), (aIc cI g4 8 G4), (aIc cI g5 8 G5), (aIc cI g6 8 G6), (aIc cI g7 8 G7), (aIc cI g8 8 G8), (aIc cI g10 64 G10), (aIc cI g12 10 G12), (aIc cI g13 10 G13), (aIc cI g19 8 G19), (aIc cI g20 8 G20), (aIc cI g21 8 G21), (aIc cI g22 8 G22), (aIc cI g23 8 G23), (aIc cI g24 8 G24), (aIc cI g25 8 G25), (aIc cI g26 8 G26), (aIc cI g27 8 G27), (aIc cI g28 8 G28), (aIc cI g33 8 G33), (aIc cI g34 8 G34), (aIc cI g35 8 G35), (aIc cI g36 8 G36), (aJc cJ g37 8 G37)]) hP hD (fun hP hD => ?_)
    refine lv_aload_n hx hb dX8_share_37 rfl (lv_at hl 0 rfl) ?_
    refine va_get (D := D) (ci := 8) (v := .int 1) (C := RX8) (T := TX8) (N := 46) hx hb hts hiX8 hown hE.1 hP 0 rfl rfl 0 (by decide) (hts _ (List.mem_cons_of_mem _ wd_171)) (fun _ h9 => h9) rfl dX8_share_38 ?_
    refine lv_if_le (tgt := 46) hx hb dX8_share_41 (by decide) (fun c5 => absurd c5 (by decide)) (fun _ => ?_)
    refine lv_iconst (v := 0) hx hb dX8_share_44 (by decide) ?_
    refine k_iret (u := [(oX8 g 1 (nI mn) g2 g3 g4 g5 g6 g7 g8 g9 g10 (nI ml) g12 g13 gi14 g15 g16 g17 gi18 g19 g20 g21 g22 g23 g24 g25 g26 g27 g28 gi29 gi30 (nI mv) (nI tt) g33 g34 g35 g36 g37 g38 g39 gi40 g41 g42 gi43 g44 g45), (aIc cI g2 8 G2), (aIc cI g3 8 G3), (aIc cI g4 8 G4), (aIc cI g5 8 G5), (aIc cI g6 8 G6), (aIc cI g7 8 G7), (aIc cI g8 8 G8), (aIc cI g10 64 G10), (aIc cI g12 10 G12), (aIc cI g13 10 G13), (aIc cI g19 8 G19), (aIc cI g20 8 G20), (aIc cI g21 8 G21), (aIc cI g22 8 G22), (aIc cI g23 8 G23), (aIc cI g24 8 G24), (aIc cI g25 8 G25), (aIc cI g26 8 G26), (aIc cI g27 8 G27), (aIc cI g28 8 G28), (aIc cI g33 8 G33), (aIc cI g34 8 G34), (aIc cI g35 8 G35), (aIc cI g36 8 G36), (aJc cJ g37 8 G37)]) hx hb hr hlk hP hD hS dX8_share_45 ?_
    exact ⟨G19, G20, G21, G22, G23, G24, G25, G26, G27, G28, G33, G34, G35, G36, G37, gi29, gi30, gi18, mv, tt, 1, hLE, hLO, hLW, hSH, htt, hmv, rfl⟩
  · skip
    have hc4 : 0 ≤ p0 ∧ p0 ≤ nI ml - 1 := bz_1 hb3 c4
    refine lv_aload_n hx hb dX8_share_9 rfl (lv_at hl 0 rfl) ?_
    refine lv_iload_n hx hb dX8_share_10 rfl (lv_at hl 2 rfl) ?_
    refine k_iS (va_runV (As := [.int p1]) (rest := [.ref g]) ⟨hx, hb, hml, hown, hts⟩ (m_X8_isPolicy l D cI cJ H.size g g2 g3 g4 g5 g6 g7 g8 g9 g10 g12 g13 g15 g16 g17 g19 g20 g21 g22 g23 g24 g25 g26 g27 g28 g33 g34 g35 g36 g37 g38 g39 g41 g42 g44 g45 mn ml mv gi0 gi14 gi18 gi29 gi30 (nI tt) gi40 gi43 p1) (cwV 1 hts gX8_share_X8_isPolicy rfl rfl rfl (by decide +kernel) ⟨Nat.le_of_ble_eq_true rfl, Nat.le_of_ble_eq_true rfl⟩) (k_preV hE hP hD [0] (by decide +kernel) rfl 0 rfl rfl) rfl rfl hl.1 rfl (lv_room (Nat.le_of_ble_eq_true rfl)) dX8_share_11 ⟨Nat.le_of_ble_eq_true rfl, Nat.le_of_ble_eq_true rfl⟩) hP hD hS hA [0] rfl (fun _ _ ⟨_, h9⟩ => h9) (fun r6 H locs hw7 hP hD hS => ?_)
    obtain ⟨hb8, -⟩ := hw7
    refine lv_if_eq (tgt := 33) hx hb dX8_share_14 (by decide) (fun c9 => ?_) (fun c9 => ?_)
    · skip
      have hc9 : ¬ (0 ≤ p1 ∧ p1 ≤ nI mn - 1) := bz_0 hb8 c9
      refine lv_iconst (v := 1) hx hb dX8_share_33 (by decide) ?_
      refine va_put (D := D) (ci := 8) (v := .int 1) (ty := .int) (C := RX8) (T := TX8) (N := 46) hx hb hts hiX8 tyX8 tyX8_ok nmX8 hown hE.1 hP hD hS 0 rfl rfl 0 (by decide) (hts _ (List.mem_cons_of_mem _ wd_171)) (fun _ h9 => h9) rfl (by decide +kernel) rfl rfl (Nat.le_of_ble_eq_true rfl) dX8_share_34 (fun H locs hP hD hS => ?_)
      refine k_re (w := [(oX8 g 1 (nI mn) g2 g3 g4 g5 g6 g7 g8 g9 g10 (nI ml) g12 g13 gi14 g15 g16 g17 gi18 g19 g20 g21 g22 g23 g24 g25 g26 g27 g28 gi29 gi30 (nI mv) (nI tt) g33 g34 g35 g36 g37 g38 g39 gi40 g41 g42 gi43 g44 g45), (aIc cI g2 8 G2), (aIc cI g3 8 G3), (aIc cI g4 8 G4), (aIc cI g5 8 G5), (aIc cI g6 8 G6), (aIc cI g7 8 G7), (aIc cI g8 8 G8), (aIc cI g10 64 G10), (aIc cI g12 10 G12), (aIc cI g13 10 G13), (aIc cI g19 8 G19), (aIc cI g20 8 G20), (aIc cI g21 8 G21), (aIc cI g22 8 G22), (aIc cI g23 8 G23), (aIc cI g24 8 G24), (aIc cI g25 8 G25), (aIc cI g26 8 G26), (aIc cI g27 8 G27), (aIc cI g28 8 G28), (aIc cI g33 8 G33), (aIc cI g34 8 G34), (aIc cI g35 8 G35), (aIc cI g36 8 G36), (aJc cJ g37 8 G37)]) hP hD (fun hP hD => ?_)
      refine lv_aload_n hx hb dX8_share_37 rfl (lv_at hl 0 rfl) ?_
      refine va_get (D := D) (ci := 8) (v := .int 1) (C := RX8) (T := TX8) (N := 46) hx hb hts hiX8 hown hE.1 hP 0 rfl rfl 0 (by decide) (hts _ (List.mem_cons_of_mem _ wd_171)) (fun _ h9 => h9) rfl dX8_share_38 ?_
      refine lv_if_le (tgt := 46) hx hb dX8_share_41 (by decide) (fun c10 => absurd c10 (by decide)) (fun _ => ?_)
      refine lv_iconst (v := 0) hx hb dX8_share_44 (by decide) ?_
      refine k_iret (u := [(oX8 g 1 (nI mn) g2 g3 g4 g5 g6 g7 g8 g9 g10 (nI ml) g12 g13 gi14 g15 g16 g17 gi18 g19 g20 g21 g22 g23 g24 g25 g26 g27 g28 gi29 gi30 (nI mv) (nI tt) g33 g34 g35 g36 g37 g38 g39 gi40 g41 g42 gi43 g44 g45), (aIc cI g2 8 G2), (aIc cI g3 8 G3), (aIc cI g4 8 G4), (aIc cI g5 8 G5), (aIc cI g6 8 G6), (aIc cI g7 8 G7), (aIc cI g8 8 G8), (aIc cI g10 64 G10), (aIc cI g12 10 G12), (aIc cI g13 10 G13), (aIc cI g19 8 G19), (aIc cI g20 8 G20), (aIc cI g21 8 G21), (aIc cI g22 8 G22), (aIc cI g23 8 G23), (aIc cI g24 8 G24), (aIc cI g25 8 G25), (aIc cI g26 8 G26), (aIc cI g27 8 G27), (aIc cI g28 8 G28), (aIc cI g33 8 G33), (aIc cI g34 8 G34), (aIc cI g35 8 G35), (aIc cI g36 8 G36), (aJc cJ g37 8 G37)]) hx hb hr hlk hP hD hS dX8_share_45 ?_
      exact ⟨G19, G20, G21, G22, G23, G24, G25, G26, G27, G28, G33, G34, G35, G36, G37, gi29, gi30, gi18, mv, tt, 1, hLE, hLO, hLW, hSH, htt, hmv, rfl⟩
    · skip
      have hc9 : 0 ≤ p1 ∧ p1 ≤ nI mn - 1 := bz_1 hb8 c9
      refine lv_iload_n hx hb dX8_share_17 rfl (lv_at hl 3 rfl) ?_
      refine lv_i2l hx hb dX8_share_18 rfl ?_
      refine lv_lconst (v := 0) hx hb dX8_share_19 (by decide) ?_
      refine lv_ldc2 (v := 8) hx hb hown (hts _ (List.mem_cons_of_mem _ wd_597)) dX8_share_20 ?_
      refine k_iS (va_runS (As := [.long (Int32.toInt64 p2), .long 0, .long 8]) (rest := [.ref g]) ⟨hx, hb, hml, hown, hts⟩ (m_X8_in l D cI cJ H.size (Int32.toInt64 p2) 0 8) (va_cwS 3 hts gX8_share_X8_in rfl rfl rfl (by decide +kernel) ⟨Nat.le_of_ble_eq_true rfl, Nat.le_of_ble_eq_true rfl⟩) (k_pre hE hP hD [] (by decide +kernel) rfl) rfl rfl hl.1 rfl (lv_room (Nat.le_of_ble_eq_true rfl)) dX8_share_23 ⟨Nat.le_of_ble_eq_true rfl, Nat.le_of_ble_eq_true rfl⟩) hP hD hS hA [] rfl (fun _ _ h9 => h9.2) (fun r11 H locs hw12 hP hD hS => ?_)
      obtain ⟨hw12, -⟩ := hw12
      have hw13 : r11 = bz (0 ≤ p2 ∧ p2 ≤ 8) := by rw [hw12]; exact bz_c (w3 (a := p2) (lo := 0) (hi := 8) (by decide) (by decide))
      refine lv_if_eq (tgt := 33) hx hb dX8_share_26 (by decide) (fun c14 => ?_) (fun c14 => ?_)
      · skip
        have hc14 : ¬ (0 ≤ p2 ∧ p2 ≤ 8) := bz_0 hw13 c14
        refine lv_iconst (v := 1) hx hb dX8_share_33 (by decide) ?_
        refine va_put (D := D) (ci := 8) (v := .int 1) (ty := .int) (C := RX8) (T := TX8) (N := 46) hx hb hts hiX8 tyX8 tyX8_ok nmX8 hown hE.1 hP hD hS 0 rfl rfl 0 (by decide) (hts _ (List.mem_cons_of_mem _ wd_171)) (fun _ h9 => h9) rfl (by decide +kernel) rfl rfl (Nat.le_of_ble_eq_true rfl) dX8_share_34 (fun H locs hP hD hS => ?_)
        refine k_re (w := [(oX8 g 1 (nI mn) g2 g3 g4 g5 g6 g7 g8 g9 g10 (nI ml) g12 g13 gi14 g15 g16 g17 gi18 g19 g20 g21 g22 g23 g24 g25 g26 g27 g28 gi29 gi30 (nI mv) (nI tt) g33 g34 g35 g36 g37 g38 g39 gi40 g41 g42 gi43 g44 g45), (aIc cI g2 8 G2), (aIc cI g3 8 G3), (aIc cI g4 8 G4), (aIc cI g5 8 G5), (aIc cI g6 8 G6), (aIc cI g7 8 G7), (aIc cI g8 8 G8), (aIc cI g10 64 G10), (aIc cI g12 10 G12), (aIc cI g13 10 G13), (aIc cI g19 8 G19), (aIc cI g20 8 G20), (aIc cI g21 8 G21), (aIc cI g22 8 G22), (aIc cI g23 8 G23), (aIc cI g24 8 G24), (aIc cI g25 8 G25), (aIc cI g26 8 G26), (aIc cI g27 8 G27), (aIc cI g28 8 G28), (aIc cI g33 8 G33), (aIc cI g34 8 G34), (aIc cI g35 8 G35), (aIc cI g36 8 G36), (aJc cJ g37 8 G37)]) hP hD (fun hP hD => ?_)
        refine lv_aload_n hx hb dX8_share_37 rfl (lv_at hl 0 rfl) ?_
        refine va_get (D := D) (ci := 8) (v := .int 1) (C := RX8) (T := TX8) (N := 46) hx hb hts hiX8 hown hE.1 hP 0 rfl rfl 0 (by decide) (hts _ (List.mem_cons_of_mem _ wd_171)) (fun _ h9 => h9) rfl dX8_share_38 ?_
        refine lv_if_le (tgt := 46) hx hb dX8_share_41 (by decide) (fun c15 => absurd c15 (by decide)) (fun _ => ?_)
        refine lv_iconst (v := 0) hx hb dX8_share_44 (by decide) ?_
        refine k_iret (u := [(oX8 g 1 (nI mn) g2 g3 g4 g5 g6 g7 g8 g9 g10 (nI ml) g12 g13 gi14 g15 g16 g17 gi18 g19 g20 g21 g22 g23 g24 g25 g26 g27 g28 gi29 gi30 (nI mv) (nI tt) g33 g34 g35 g36 g37 g38 g39 gi40 g41 g42 gi43 g44 g45), (aIc cI g2 8 G2), (aIc cI g3 8 G3), (aIc cI g4 8 G4), (aIc cI g5 8 G5), (aIc cI g6 8 G6), (aIc cI g7 8 G7), (aIc cI g8 8 G8), (aIc cI g10 64 G10), (aIc cI g12 10 G12), (aIc cI g13 10 G13), (aIc cI g19 8 G19), (aIc cI g20 8 G20), (aIc cI g21 8 G21), (aIc cI g22 8 G22), (aIc cI g23 8 G23), (aIc cI g24 8 G24), (aIc cI g25 8 G25), (aIc cI g26 8 G26), (aIc cI g27 8 G27), (aIc cI g28 8 G28), (aIc cI g33 8 G33), (aIc cI g34 8 G34), (aIc cI g35 8 G35), (aIc cI g36 8 G36), (aJc cJ g37 8 G37)]) hx hb hr hlk hP hD hS dX8_share_45 ?_
        exact ⟨G19, G20, G21, G22, G23, G24, G25, G26, G27, G28, G33, G34, G35, G36, G37, gi29, gi30, gi18, mv, tt, 1, hLE, hLO, hLW, hSH, htt, hmv, rfl⟩
      · skip
        have hc14 : 0 ≤ p2 ∧ p2 ≤ 8 := bz_1 hw13 c14
        refine lv_iconst (v := 0) hx hb dX8_share_29 (by decide) ?_
        refine lv_goto (tgt := 34) hx hb dX8_share_30 (by decide) ?_
        refine va_put (D := D) (ci := 8) (v := .int 0) (ty := .int) (C := RX8) (T := TX8) (N := 46) hx hb hts hiX8 tyX8 tyX8_ok nmX8 hown hE.1 hP hD hS 0 rfl rfl 0 (by decide) (hts _ (List.mem_cons_of_mem _ wd_171)) (fun _ h9 => h9) rfl (by decide +kernel) rfl rfl (Nat.le_of_ble_eq_true rfl) dX8_share_34 (fun H locs hP hD hS => ?_)
        refine k_re (w := [(oX8 g 0 (nI mn) g2 g3 g4 g5 g6 g7 g8 g9 g10 (nI ml) g12 g13 gi14 g15 g16 g17 gi18 g19 g20 g21 g22 g23 g24 g25 g26 g27 g28 gi29 gi30 (nI mv) (nI tt) g33 g34 g35 g36 g37 g38 g39 gi40 g41 g42 gi43 g44 g45), (aIc cI g2 8 G2), (aIc cI g3 8 G3), (aIc cI g4 8 G4), (aIc cI g5 8 G5), (aIc cI g6 8 G6), (aIc cI g7 8 G7), (aIc cI g8 8 G8), (aIc cI g10 64 G10), (aIc cI g12 10 G12), (aIc cI g13 10 G13), (aIc cI g19 8 G19), (aIc cI g20 8 G20), (aIc cI g21 8 G21), (aIc cI g22 8 G22), (aIc cI g23 8 G23), (aIc cI g24 8 G24), (aIc cI g25 8 G25), (aIc cI g26 8 G26), (aIc cI g27 8 G27), (aIc cI g28 8 G28), (aIc cI g33 8 G33), (aIc cI g34 8 G34), (aIc cI g35 8 G35), (aIc cI g36 8 G36), (aJc cJ g37 8 G37)]) hP hD (fun hP hD => ?_)
        refine lv_aload_n hx hb dX8_share_37 rfl (lv_at hl 0 rfl) ?_
        refine va_get (D := D) (ci := 8) (v := .int 0) (C := RX8) (T := TX8) (N := 46) hx hb hts hiX8 hown hE.1 hP 0 rfl rfl 0 (by decide) (hts _ (List.mem_cons_of_mem _ wd_171)) (fun _ h9 => h9) rfl dX8_share_38 ?_
        refine lv_if_le (tgt := 46) hx hb dX8_share_41 (by decide) (fun _ => ?_) (fun c16 => absurd (by decide) c16)
        obtain ⟨lj, hlj, elj⟩ := wi_n (by omega) hc4
        rw [elj] at hl
        obtain ⟨pj, hpj, epj⟩ := wi_n (by omega) hc9
        rw [epj] at hl
        refine lv_aload_n hx hb dX8_share_46 rfl (lv_at hl 0 rfl) ?_
        refine lv_iload_n hx hb dX8_share_47 rfl (lv_at hl 1 rfl) ?_
        refine lv_aload_n hx hb dX8_share_48 rfl (lv_at hl 0 rfl) ?_
        refine k_iS (va_runV (As := []) (rest := [.int (nI lj), .ref g]) ⟨hx, hb, hml, hown, hts⟩ (m_X8_all l D cI cJ H.size g g2 g3 g4 g5 g6 g7 g8 g9 g10 g12 g13 g15 g16 g17 g19 g20 g21 g22 g23 g24 g25 g26 g27 g28 g33 g34 g35 g36 g37 g38 g39 g41 g42 g44 g45 mn ml mv 0 gi14 gi18 gi29 gi30 (nI tt) gi40 gi43 hmn) (cwV 0 hts gX8_share_X8_all rfl rfl rfl (by decide +kernel) ⟨Nat.le_of_ble_eq_true rfl, Nat.le_of_ble_eq_true rfl⟩) (k_preV hE hP hD [0] (by decide +kernel) rfl 0 rfl rfl) rfl rfl hl.1 rfl (lv_room (Nat.le_of_ble_eq_true rfl)) dX8_share_49 ⟨Nat.le_of_ble_eq_true rfl, Nat.le_of_ble_eq_true rfl⟩) hP hD hS hA [0] rfl (fun _ _ ⟨_, h9⟩ => h9) (fun r17 H locs hw18 hP hD hS => ?_)
        obtain ⟨rfl, -⟩ := hw18
        refine k_v (va_runV (As := [.int (nI lj), .int (nI (2 ^ mn - 1))]) (rest := []) ⟨hx, hb, hml, hown, hts⟩ (m_X8_settlesTo l D cI cJ H.size g g2 g3 g4 g5 g6 g7 g8 g9 g10 g12 g13 g15 g16 g17 g19 g20 g21 g22 g23 g24 g25 g26 g27 g28 g33 g34 g35 g36 g37 g38 g39 g41 g42 g44 g45 mn ml mv tt (lj + 1) 0 gi14 gi18 gi29 gi30 gi40 gi43 (nI lj) (nI (2 ^ mn - 1)) G2 G3 G4 G5 G6 G7 G8 G10 G12 G13 G19 G20 G21 G22 G23 G24 G25 G26 G27 G28 G33 G34 G35 G36 G37 li0 wo0 de0 ag0 (nI_pred lj).symm (by omega) hit hsu hliv hlib hwov hwob hdev hdeb hagv hagb hamt hLE hLO hLW hSH htt hmv) (cwV 2 hts gX8_share_X8_settlesTo rfl rfl rfl (by decide +kernel) ⟨Nat.le_of_ble_eq_true rfl, Nat.le_of_ble_eq_true rfl⟩) (k_preV hE hP hD [0, 1, 2, 3, 4, 5, 6, 7, 8, 9, 10, 11, 12, 13, 14, 15, 16, 17, 18, 19, 20, 21, 22, 23, 24, 25] (by decide +kernel) rfl 0 rfl rfl) rfl rfl hl.1 rfl (lv_room (Nat.le_of_ble_eq_true rfl)) dX8_share_52 ⟨Nat.le_of_ble_eq_true rfl, Nat.le_of_ble_eq_true rfl⟩) hP hD hS hA [0, 1, 2, 3, 4, 5, 6, 7, 8, 9, 10, 11, 12, 13, 14, 15, 16, 17, 18, 19, 20, 21, 22, 23, 24, 25] [] rfl (wr := []) rfl (by decide +kernel) (by decide +kernel) (fun u H locs hw19 hP hD hS => ?_)
        obtain ⟨z20, z21, z22, z23, z24, z25, z26, z27, z28, z29, z30, z31, z32, z33, z34, z35, z36, z37, z38, z39, hz40, hz41, hz42, hz43, hz44, hz45, hz46, rfl⟩ := hw19
        refine k_re (w := [(oX8 g 0 (nI mn) g2 g3 g4 g5 g6 g7 g8 g9 g10 (nI ml) g12 g13 gi14 g15 g16 g17 z37 g19 g20 g21 g22 g23 g24 g25 g26 g27 g28 z35 z36 (nI z38) (nI z39) g33 g34 g35 g36 g37 g38 g39 gi40 g41 g42 gi43 g44 g45), (aIc cI g2 8 G2), (aIc cI g3 8 G3), (aIc cI g4 8 G4), (aIc cI g5 8 G5), (aIc cI g6 8 G6), (aIc cI g7 8 G7), (aIc cI g8 8 G8), (aIc cI g10 64 G10), (aIc cI g12 10 G12), (aIc cI g13 10 G13), (aIc cI g19 8 z20), (aIc cI g20 8 z21), (aIc cI g21 8 z22), (aIc cI g22 8 z23), (aIc cI g23 8 z24), (aIc cI g24 8 z25), (aIc cI g25 8 z26), (aIc cI g26 8 z27), (aIc cI g27 8 z28), (aIc cI g28 8 z29), (aIc cI g33 8 z30), (aIc cI g34 8 z31), (aIc cI g35 8 z32), (aIc cI g36 8 z33), (aJc cJ g37 8 z34)]) hP hD (fun hP hD => ?_)
        refine lv_iload_n hx hb dX8_share_55 rfl (lv_at hl 3 rfl) ?_
        by_cases c47 : p2 = 0
        · skip
          refine lv_tableIn (tgt := 104) hx hb dX8_share_56 (by rw [c47]; decide) (by rw [c47]; decide) (off := 48) (by rw [c47]; rfl) (by decide) ?_
          refine lv_aload_n hx hb dX8_share_104 rfl (lv_at hl 0 rfl) ?_
          refine va_get (D := D) (ci := 8) (v := .ref g20) (C := RX8) (T := TX8) (N := 46) hx hb hts hiX8 hown hE.1 hP 0 rfl rfl 20 (by decide) (hts _ (List.mem_cons_of_mem _ wd_131)) (fun _ h9 => h9) rfl dX8_share_105 ?_
          refine lv_iload_n hx hb dX8_share_108 rfl (lv_at hl 2 rfl) ?_
          refine va_iald hx hb hE.1 hP 12 0 rfl rfl (vp_in_nI (n := pj) (by omega) (by decide)) dX8_share_109 ?_
          refine lv_topi (fun v48 ev48 => ?_)
          refine k_iret (u := [(oX8 g 0 (nI mn) g2 g3 g4 g5 g6 g7 g8 g9 g10 (nI ml) g12 g13 gi14 g15 g16 g17 z37 g19 g20 g21 g22 g23 g24 g25 g26 g27 g28 z35 z36 (nI z38) (nI z39) g33 g34 g35 g36 g37 g38 g39 gi40 g41 g42 gi43 g44 g45), (aIc cI g2 8 G2), (aIc cI g3 8 G3), (aIc cI g4 8 G4), (aIc cI g5 8 G5), (aIc cI g6 8 G6), (aIc cI g7 8 G7), (aIc cI g8 8 G8), (aIc cI g10 64 G10), (aIc cI g12 10 G12), (aIc cI g13 10 G13), (aIc cI g19 8 z20), (aIc cI g20 8 z21), (aIc cI g21 8 z22), (aIc cI g22 8 z23), (aIc cI g23 8 z24), (aIc cI g24 8 z25), (aIc cI g25 8 z26), (aIc cI g26 8 z27), (aIc cI g27 8 z28), (aIc cI g28 8 z29), (aIc cI g33 8 z30), (aIc cI g34 8 z31), (aIc cI g35 8 z32), (aIc cI g36 8 z33), (aJc cJ g37 8 z34)]) hx hb hr hlk hP hD hS dX8_share_110 ?_
          exact ⟨z20, z21, z22, z23, z24, z25, z26, z27, z28, z29, z30, z31, z32, z33, z34, z35, z36, z37, z38, z39, 0, hz40, hz41, hz42, hz43, hz44, hz45, rfl⟩
        by_cases c49 : p2 = 1
        · skip
          refine lv_tableIn (tgt := 111) hx hb dX8_share_56 (by rw [c49]; decide) (by rw [c49]; decide) (off := 55) (by rw [c49]; rfl) (by decide) ?_
          refine lv_aload_n hx hb dX8_share_111 rfl (lv_at hl 0 rfl) ?_
          refine va_get (D := D) (ci := 8) (v := .ref g25) (C := RX8) (T := TX8) (N := 46) hx hb hts hiX8 hown hE.1 hP 0 rfl rfl 25 (by decide) (hts _ (List.mem_cons_of_mem _ wd_136)) (fun _ h9 => h9) rfl dX8_share_112 ?_
          refine lv_iload_n hx hb dX8_share_115 rfl (lv_at hl 2 rfl) ?_
          refine va_iald hx hb hE.1 hP 17 0 rfl rfl (vp_in_nI (n := pj) (by omega) (by decide)) dX8_share_116 ?_
          refine lv_topi (fun v50 ev50 => ?_)
          refine k_iret (u := [(oX8 g 0 (nI mn) g2 g3 g4 g5 g6 g7 g8 g9 g10 (nI ml) g12 g13 gi14 g15 g16 g17 z37 g19 g20 g21 g22 g23 g24 g25 g26 g27 g28 z35 z36 (nI z38) (nI z39) g33 g34 g35 g36 g37 g38 g39 gi40 g41 g42 gi43 g44 g45), (aIc cI g2 8 G2), (aIc cI g3 8 G3), (aIc cI g4 8 G4), (aIc cI g5 8 G5), (aIc cI g6 8 G6), (aIc cI g7 8 G7), (aIc cI g8 8 G8), (aIc cI g10 64 G10), (aIc cI g12 10 G12), (aIc cI g13 10 G13), (aIc cI g19 8 z20), (aIc cI g20 8 z21), (aIc cI g21 8 z22), (aIc cI g22 8 z23), (aIc cI g23 8 z24), (aIc cI g24 8 z25), (aIc cI g25 8 z26), (aIc cI g26 8 z27), (aIc cI g27 8 z28), (aIc cI g28 8 z29), (aIc cI g33 8 z30), (aIc cI g34 8 z31), (aIc cI g35 8 z32), (aIc cI g36 8 z33), (aJc cJ g37 8 z34)]) hx hb hr hlk hP hD hS dX8_share_117 ?_
          exact ⟨z20, z21, z22, z23, z24, z25, z26, z27, z28, z29, z30, z31, z32, z33, z34, z35, z36, z37, z38, z39, 0, hz40, hz41, hz42, hz43, hz44, hz45, rfl⟩
        by_cases c51 : p2 = 2
        · skip
          refine lv_tableIn (tgt := 118) hx hb dX8_share_56 (by rw [c51]; decide) (by rw [c51]; decide) (off := 62) (by rw [c51]; rfl) (by decide) ?_
          refine lv_aload_n hx hb dX8_share_118 rfl (lv_at hl 0 rfl) ?_
          refine va_get (D := D) (ci := 8) (v := .ref g26) (C := RX8) (T := TX8) (N := 46) hx hb hts hiX8 hown hE.1 hP 0 rfl rfl 26 (by decide) (hts _ (List.mem_cons_of_mem _ wd_137)) (fun _ h9 => h9) rfl dX8_share_119 ?_
          refine lv_iload_n hx hb dX8_share_122 rfl (lv_at hl 2 rfl) ?_
          refine va_iald hx hb hE.1 hP 18 0 rfl rfl (vp_in_nI (n := pj) (by omega) (by decide)) dX8_share_123 ?_
          refine lv_topi (fun v52 ev52 => ?_)
          refine k_iret (u := [(oX8 g 0 (nI mn) g2 g3 g4 g5 g6 g7 g8 g9 g10 (nI ml) g12 g13 gi14 g15 g16 g17 z37 g19 g20 g21 g22 g23 g24 g25 g26 g27 g28 z35 z36 (nI z38) (nI z39) g33 g34 g35 g36 g37 g38 g39 gi40 g41 g42 gi43 g44 g45), (aIc cI g2 8 G2), (aIc cI g3 8 G3), (aIc cI g4 8 G4), (aIc cI g5 8 G5), (aIc cI g6 8 G6), (aIc cI g7 8 G7), (aIc cI g8 8 G8), (aIc cI g10 64 G10), (aIc cI g12 10 G12), (aIc cI g13 10 G13), (aIc cI g19 8 z20), (aIc cI g20 8 z21), (aIc cI g21 8 z22), (aIc cI g22 8 z23), (aIc cI g23 8 z24), (aIc cI g24 8 z25), (aIc cI g25 8 z26), (aIc cI g26 8 z27), (aIc cI g27 8 z28), (aIc cI g28 8 z29), (aIc cI g33 8 z30), (aIc cI g34 8 z31), (aIc cI g35 8 z32), (aIc cI g36 8 z33), (aJc cJ g37 8 z34)]) hx hb hr hlk hP hD hS dX8_share_124 ?_
          exact ⟨z20, z21, z22, z23, z24, z25, z26, z27, z28, z29, z30, z31, z32, z33, z34, z35, z36, z37, z38, z39, 0, hz40, hz41, hz42, hz43, hz44, hz45, rfl⟩
        by_cases c53 : p2 = 3
        · skip
          refine lv_tableIn (tgt := 125) hx hb dX8_share_56 (by rw [c53]; decide) (by rw [c53]; decide) (off := 69) (by rw [c53]; rfl) (by decide) ?_
          refine lv_aload_n hx hb dX8_share_125 rfl (lv_at hl 0 rfl) ?_
          refine va_get (D := D) (ci := 8) (v := .ref g27) (C := RX8) (T := TX8) (N := 46) hx hb hts hiX8 hown hE.1 hP 0 rfl rfl 27 (by decide) (hts _ (List.mem_cons_of_mem _ wd_138)) (fun _ h9 => h9) rfl dX8_share_126 ?_
          refine lv_iload_n hx hb dX8_share_129 rfl (lv_at hl 2 rfl) ?_
          refine va_iald hx hb hE.1 hP 19 0 rfl rfl (vp_in_nI (n := pj) (by omega) (by decide)) dX8_share_130 ?_
          refine lv_topi (fun v54 ev54 => ?_)
          refine k_iret (u := [(oX8 g 0 (nI mn) g2 g3 g4 g5 g6 g7 g8 g9 g10 (nI ml) g12 g13 gi14 g15 g16 g17 z37 g19 g20 g21 g22 g23 g24 g25 g26 g27 g28 z35 z36 (nI z38) (nI z39) g33 g34 g35 g36 g37 g38 g39 gi40 g41 g42 gi43 g44 g45), (aIc cI g2 8 G2), (aIc cI g3 8 G3), (aIc cI g4 8 G4), (aIc cI g5 8 G5), (aIc cI g6 8 G6), (aIc cI g7 8 G7), (aIc cI g8 8 G8), (aIc cI g10 64 G10), (aIc cI g12 10 G12), (aIc cI g13 10 G13), (aIc cI g19 8 z20), (aIc cI g20 8 z21), (aIc cI g21 8 z22), (aIc cI g22 8 z23), (aIc cI g23 8 z24), (aIc cI g24 8 z25), (aIc cI g25 8 z26), (aIc cI g26 8 z27), (aIc cI g27 8 z28), (aIc cI g28 8 z29), (aIc cI g33 8 z30), (aIc cI g34 8 z31), (aIc cI g35 8 z32), (aIc cI g36 8 z33), (aJc cJ g37 8 z34)]) hx hb hr hlk hP hD hS dX8_share_131 ?_
          exact ⟨z20, z21, z22, z23, z24, z25, z26, z27, z28, z29, z30, z31, z32, z33, z34, z35, z36, z37, z38, z39, 0, hz40, hz41, hz42, hz43, hz44, hz45, rfl⟩
        by_cases c55 : p2 = 4
        · skip
          refine lv_tableIn (tgt := 132) hx hb dX8_share_56 (by rw [c55]; decide) (by rw [c55]; decide) (off := 76) (by rw [c55]; rfl) (by decide) ?_
          refine lv_aload_n hx hb dX8_share_132 rfl (lv_at hl 0 rfl) ?_
          refine va_get (D := D) (ci := 8) (v := .ref g23) (C := RX8) (T := TX8) (N := 46) hx hb hts hiX8 hown hE.1 hP 0 rfl rfl 23 (by decide) (hts _ (List.mem_cons_of_mem _ wd_134)) (fun _ h9 => h9) rfl dX8_share_133 ?_
          refine lv_iload_n hx hb dX8_share_136 rfl (lv_at hl 2 rfl) ?_
          refine va_iald hx hb hE.1 hP 15 0 rfl rfl (vp_in_nI (n := pj) (by omega) (by decide)) dX8_share_137 ?_
          refine lv_topi (fun v56 ev56 => ?_)
          refine k_iret (u := [(oX8 g 0 (nI mn) g2 g3 g4 g5 g6 g7 g8 g9 g10 (nI ml) g12 g13 gi14 g15 g16 g17 z37 g19 g20 g21 g22 g23 g24 g25 g26 g27 g28 z35 z36 (nI z38) (nI z39) g33 g34 g35 g36 g37 g38 g39 gi40 g41 g42 gi43 g44 g45), (aIc cI g2 8 G2), (aIc cI g3 8 G3), (aIc cI g4 8 G4), (aIc cI g5 8 G5), (aIc cI g6 8 G6), (aIc cI g7 8 G7), (aIc cI g8 8 G8), (aIc cI g10 64 G10), (aIc cI g12 10 G12), (aIc cI g13 10 G13), (aIc cI g19 8 z20), (aIc cI g20 8 z21), (aIc cI g21 8 z22), (aIc cI g22 8 z23), (aIc cI g23 8 z24), (aIc cI g24 8 z25), (aIc cI g25 8 z26), (aIc cI g26 8 z27), (aIc cI g27 8 z28), (aIc cI g28 8 z29), (aIc cI g33 8 z30), (aIc cI g34 8 z31), (aIc cI g35 8 z32), (aIc cI g36 8 z33), (aJc cJ g37 8 z34)]) hx hb hr hlk hP hD hS dX8_share_138 ?_
          exact ⟨z20, z21, z22, z23, z24, z25, z26, z27, z28, z29, z30, z31, z32, z33, z34, z35, z36, z37, z38, z39, 0, hz40, hz41, hz42, hz43, hz44, hz45, rfl⟩
        by_cases c57 : p2 = 5
        · skip
          refine lv_tableIn (tgt := 139) hx hb dX8_share_56 (by rw [c57]; decide) (by rw [c57]; decide) (off := 83) (by rw [c57]; rfl) (by decide) ?_
          refine lv_aload_n hx hb dX8_share_139 rfl (lv_at hl 0 rfl) ?_
          refine va_get (D := D) (ci := 8) (v := .ref g21) (C := RX8) (T := TX8) (N := 46) hx hb hts hiX8 hown hE.1 hP 0 rfl rfl 21 (by decide) (hts _ (List.mem_cons_of_mem _ wd_132)) (fun _ h9 => h9) rfl dX8_share_140 ?_
          refine lv_iload_n hx hb dX8_share_143 rfl (lv_at hl 2 rfl) ?_
          refine va_iald hx hb hE.1 hP 13 0 rfl rfl (vp_in_nI (n := pj) (by omega) (by decide)) dX8_share_144 ?_
          refine lv_topi (fun v58 ev58 => ?_)
          refine k_iret (u := [(oX8 g 0 (nI mn) g2 g3 g4 g5 g6 g7 g8 g9 g10 (nI ml) g12 g13 gi14 g15 g16 g17 z37 g19 g20 g21 g22 g23 g24 g25 g26 g27 g28 z35 z36 (nI z38) (nI z39) g33 g34 g35 g36 g37 g38 g39 gi40 g41 g42 gi43 g44 g45), (aIc cI g2 8 G2), (aIc cI g3 8 G3), (aIc cI g4 8 G4), (aIc cI g5 8 G5), (aIc cI g6 8 G6), (aIc cI g7 8 G7), (aIc cI g8 8 G8), (aIc cI g10 64 G10), (aIc cI g12 10 G12), (aIc cI g13 10 G13), (aIc cI g19 8 z20), (aIc cI g20 8 z21), (aIc cI g21 8 z22), (aIc cI g22 8 z23), (aIc cI g23 8 z24), (aIc cI g24 8 z25), (aIc cI g25 8 z26), (aIc cI g26 8 z27), (aIc cI g27 8 z28), (aIc cI g28 8 z29), (aIc cI g33 8 z30), (aIc cI g34 8 z31), (aIc cI g35 8 z32), (aIc cI g36 8 z33), (aJc cJ g37 8 z34)]) hx hb hr hlk hP hD hS dX8_share_145 ?_
          exact ⟨z20, z21, z22, z23, z24, z25, z26, z27, z28, z29, z30, z31, z32, z33, z34, z35, z36, z37, z38, z39, 0, hz40, hz41, hz42, hz43, hz44, hz45, rfl⟩
        by_cases c59 : p2 = 6
        · skip
          refine lv_tableIn (tgt := 146) hx hb dX8_share_56 (by rw [c59]; decide) (by rw [c59]; decide) (off := 90) (by rw [c59]; rfl) (by decide) ?_
          refine lv_aload_n hx hb dX8_share_146 rfl (lv_at hl 0 rfl) ?_
          refine va_get (D := D) (ci := 8) (v := .ref g24) (C := RX8) (T := TX8) (N := 46) hx hb hts hiX8 hown hE.1 hP 0 rfl rfl 24 (by decide) (hts _ (List.mem_cons_of_mem _ wd_135)) (fun _ h9 => h9) rfl dX8_share_147 ?_
          refine lv_iload_n hx hb dX8_share_150 rfl (lv_at hl 2 rfl) ?_
          refine va_iald hx hb hE.1 hP 16 0 rfl rfl (vp_in_nI (n := pj) (by omega) (by decide)) dX8_share_151 ?_
          refine lv_topi (fun v60 ev60 => ?_)
          refine k_iret (u := [(oX8 g 0 (nI mn) g2 g3 g4 g5 g6 g7 g8 g9 g10 (nI ml) g12 g13 gi14 g15 g16 g17 z37 g19 g20 g21 g22 g23 g24 g25 g26 g27 g28 z35 z36 (nI z38) (nI z39) g33 g34 g35 g36 g37 g38 g39 gi40 g41 g42 gi43 g44 g45), (aIc cI g2 8 G2), (aIc cI g3 8 G3), (aIc cI g4 8 G4), (aIc cI g5 8 G5), (aIc cI g6 8 G6), (aIc cI g7 8 G7), (aIc cI g8 8 G8), (aIc cI g10 64 G10), (aIc cI g12 10 G12), (aIc cI g13 10 G13), (aIc cI g19 8 z20), (aIc cI g20 8 z21), (aIc cI g21 8 z22), (aIc cI g22 8 z23), (aIc cI g23 8 z24), (aIc cI g24 8 z25), (aIc cI g25 8 z26), (aIc cI g26 8 z27), (aIc cI g27 8 z28), (aIc cI g28 8 z29), (aIc cI g33 8 z30), (aIc cI g34 8 z31), (aIc cI g35 8 z32), (aIc cI g36 8 z33), (aJc cJ g37 8 z34)]) hx hb hr hlk hP hD hS dX8_share_152 ?_
          exact ⟨z20, z21, z22, z23, z24, z25, z26, z27, z28, z29, z30, z31, z32, z33, z34, z35, z36, z37, z38, z39, 0, hz40, hz41, hz42, hz43, hz44, hz45, rfl⟩
        by_cases c61 : p2 = 7
        · skip
          refine lv_tableIn (tgt := 153) hx hb dX8_share_56 (by rw [c61]; decide) (by rw [c61]; decide) (off := 97) (by rw [c61]; rfl) (by decide) ?_
          refine lv_aload_n hx hb dX8_share_153 rfl (lv_at hl 0 rfl) ?_
          refine va_get (D := D) (ci := 8) (v := .ref g19) (C := RX8) (T := TX8) (N := 46) hx hb hts hiX8 hown hE.1 hP 0 rfl rfl 19 (by decide) (hts _ (List.mem_cons_of_mem _ wd_130)) (fun _ h9 => h9) rfl dX8_share_154 ?_
          refine lv_iload_n hx hb dX8_share_157 rfl (lv_at hl 2 rfl) ?_
          refine va_iald hx hb hE.1 hP 11 0 rfl rfl (vp_in_nI (n := pj) (by omega) (by decide)) dX8_share_158 ?_
          refine lv_topi (fun v62 ev62 => ?_)
          refine k_iret (u := [(oX8 g 0 (nI mn) g2 g3 g4 g5 g6 g7 g8 g9 g10 (nI ml) g12 g13 gi14 g15 g16 g17 z37 g19 g20 g21 g22 g23 g24 g25 g26 g27 g28 z35 z36 (nI z38) (nI z39) g33 g34 g35 g36 g37 g38 g39 gi40 g41 g42 gi43 g44 g45), (aIc cI g2 8 G2), (aIc cI g3 8 G3), (aIc cI g4 8 G4), (aIc cI g5 8 G5), (aIc cI g6 8 G6), (aIc cI g7 8 G7), (aIc cI g8 8 G8), (aIc cI g10 64 G10), (aIc cI g12 10 G12), (aIc cI g13 10 G13), (aIc cI g19 8 z20), (aIc cI g20 8 z21), (aIc cI g21 8 z22), (aIc cI g22 8 z23), (aIc cI g23 8 z24), (aIc cI g24 8 z25), (aIc cI g25 8 z26), (aIc cI g26 8 z27), (aIc cI g27 8 z28), (aIc cI g28 8 z29), (aIc cI g33 8 z30), (aIc cI g34 8 z31), (aIc cI g35 8 z32), (aIc cI g36 8 z33), (aJc cJ g37 8 z34)]) hx hb hr hlk hP hD hS dX8_share_159 ?_
          exact ⟨z20, z21, z22, z23, z24, z25, z26, z27, z28, z29, z30, z31, z32, z33, z34, z35, z36, z37, z38, z39, 0, hz40, hz41, hz42, hz43, hz44, hz45, rfl⟩
        refine lv_tableOut (tgt := 160) hx hb dX8_share_56 (sw_out8 c47 c49 c51 c53 c55 c57 c59 c61) (by decide) ?_
        refine lv_aload_n hx hb dX8_share_160 rfl (lv_at hl 0 rfl) ?_
        refine va_get (D := D) (ci := 8) (v := .ref g25) (C := RX8) (T := TX8) (N := 46) hx hb hts hiX8 hown hE.1 hP 0 rfl rfl 25 (by decide) (hts _ (List.mem_cons_of_mem _ wd_136)) (fun _ h9 => h9) rfl dX8_share_161 ?_
        refine lv_iload_n hx hb dX8_share_164 rfl (lv_at hl 2 rfl) ?_
        refine va_iald hx hb hE.1 hP 17 0 rfl rfl (vp_in_nI (n := pj) (by omega) (by decide)) dX8_share_165 ?_
        refine lv_topi (fun v63 ev63 => ?_)
        refine lv_iconst (v := (-1)) hx hb dX8_share_166 (by decide) ?_
        refine lv_icmp_ne (tgt := 174) hx hb dX8_share_167 (by decide) (fun c64 => ?_) (fun c64 => ?_)
        · skip
          refine lv_aload_n hx hb dX8_share_174 rfl (lv_at hl 0 rfl) ?_
          refine va_get (D := D) (ci := 8) (v := .ref g33) (C := RX8) (T := TX8) (N := 46) hx hb hts hiX8 hown hE.1 hP 0 rfl rfl 33 (by decide) (hts _ (List.mem_cons_of_mem _ wd_140)) (fun _ h9 => h9) rfl dX8_share_175 ?_
          refine lv_aload_n hx hb dX8_share_178 rfl (lv_at hl 0 rfl) ?_
          refine va_get (D := D) (ci := 8) (v := .ref g25) (C := RX8) (T := TX8) (N := 46) hx hb hts hiX8 hown hE.1 hP 0 rfl rfl 25 (by decide) (hts _ (List.mem_cons_of_mem _ wd_136)) (fun _ h9 => h9) rfl dX8_share_179 ?_
          refine lv_iload_n hx hb dX8_share_182 rfl (lv_at hl 2 rfl) ?_
          refine va_iald hx hb hE.1 hP 17 0 rfl rfl (vp_in_nI (n := pj) (by omega) (by decide)) dX8_share_183 ?_
          refine lv_topi (fun v65 ev65 => ?_)
          obtain ⟨n66, hn66, en66⟩ := lw_at hz42 (by omega) ev63 c64
          obtain rfl : v65 = nI n66 := ev65.trans en66
          refine va_iald hx hb hE.1 hP 21 0 rfl rfl (vp_in_nI (n := n66) (by omega) (by decide)) dX8_share_184 ?_
          refine lv_topi (fun v67 ev67 => ?_)
          refine k_iret (u := [(oX8 g 0 (nI mn) g2 g3 g4 g5 g6 g7 g8 g9 g10 (nI ml) g12 g13 gi14 g15 g16 g17 z37 g19 g20 g21 g22 g23 g24 g25 g26 g27 g28 z35 z36 (nI z38) (nI z39) g33 g34 g35 g36 g37 g38 g39 gi40 g41 g42 gi43 g44 g45), (aIc cI g2 8 G2), (aIc cI g3 8 G3), (aIc cI g4 8 G4), (aIc cI g5 8 G5), (aIc cI g6 8 G6), (aIc cI g7 8 G7), (aIc cI g8 8 G8), (aIc cI g10 64 G10), (aIc cI g12 10 G12), (aIc cI g13 10 G13), (aIc cI g19 8 z20), (aIc cI g20 8 z21), (aIc cI g21 8 z22), (aIc cI g22 8 z23), (aIc cI g23 8 z24), (aIc cI g24 8 z25), (aIc cI g25 8 z26), (aIc cI g26 8 z27), (aIc cI g27 8 z28), (aIc cI g28 8 z29), (aIc cI g33 8 z30), (aIc cI g34 8 z31), (aIc cI g35 8 z32), (aIc cI g36 8 z33), (aJc cJ g37 8 z34)]) hx hb hr hlk hP hD hS dX8_share_185 ?_
          exact ⟨z20, z21, z22, z23, z24, z25, z26, z27, z28, z29, z30, z31, z32, z33, z34, z35, z36, z37, z38, z39, 0, hz40, hz41, hz42, hz43, hz44, hz45, rfl⟩
        · skip
          refine lv_iconst (v := (-1)) hx hb dX8_share_170 (by decide) ?_
          refine lv_goto (tgt := 185) hx hb dX8_share_171 (by decide) ?_
          refine k_iret (u := [(oX8 g 0 (nI mn) g2 g3 g4 g5 g6 g7 g8 g9 g10 (nI ml) g12 g13 gi14 g15 g16 g17 z37 g19 g20 g21 g22 g23 g24 g25 g26 g27 g28 z35 z36 (nI z38) (nI z39) g33 g34 g35 g36 g37 g38 g39 gi40 g41 g42 gi43 g44 g45), (aIc cI g2 8 G2), (aIc cI g3 8 G3), (aIc cI g4 8 G4), (aIc cI g5 8 G5), (aIc cI g6 8 G6), (aIc cI g7 8 G7), (aIc cI g8 8 G8), (aIc cI g10 64 G10), (aIc cI g12 10 G12), (aIc cI g13 10 G13), (aIc cI g19 8 z20), (aIc cI g20 8 z21), (aIc cI g21 8 z22), (aIc cI g22 8 z23), (aIc cI g23 8 z24), (aIc cI g24 8 z25), (aIc cI g25 8 z26), (aIc cI g26 8 z27), (aIc cI g27 8 z28), (aIc cI g28 8 z29), (aIc cI g33 8 z30), (aIc cI g34 8 z31), (aIc cI g35 8 z32), (aIc cI g36 8 z33), (aJc cJ g37 8 z34)]) hx hb hr hlk hP hD hS dX8_share_185 ?_
          exact ⟨z20, z21, z22, z23, z24, z25, z26, z27, z28, z29, z30, z31, z32, z33, z34, z35, z36, z37, z38, z39, 0, hz40, hz41, hz42, hz43, hz44, hz45, rfl⟩
theorem dX8_isBoth_0 : decode cX8_isBoth 0 = .ok (.aload_n 0, 1) := by decide +kernel
theorem dX8_isBoth_1 : decode cX8_isBoth 1 = .ok (.iconst 0, 1) := by decide +kernel
theorem dX8_isBoth_2 : decode cX8_isBoth 2 = .ok (.putfield 116, 3) := by decide +kernel
theorem dX8_isBoth_5 : decode cX8_isBoth 5 = .ok (.aload_n 0, 1) := by decide +kernel
theorem dX8_isBoth_6 : decode cX8_isBoth 6 = .ok (.iload_n 1, 1) := by decide +kernel
theorem dX8_isBoth_7 : decode cX8_isBoth 7 = .ok (.invokevirtual 252, 3) := by decide +kernel
theorem dX8_isBoth_10 : decode cX8_isBoth 10 = .ok (.ifCond .eq 11, 3) := by decide +kernel
theorem dX8_isBoth_13 : decode cX8_isBoth 13 = .ok (.aload_n 0, 1) := by decide +kernel
theorem dX8_isBoth_14 : decode cX8_isBoth 14 = .ok (.iload_n 2, 1) := by decide +kernel
theorem dX8_isBoth_15 : decode cX8_isBoth 15 = .ok (.invokevirtual 140, 3) := by decide +kernel
theorem dX8_isBoth_18 : decode cX8_isBoth 18 = .ok (.ifCond .ne 5, 3) := by decide +kernel
theorem dX8_isBoth_21 : decode cX8_isBoth 21 = .ok (.iconst 0, 1) := by decide +kernel
theorem dX8_isBoth_22 : decode cX8_isBoth 22 = .ok (.ireturn, 1) := by decide +kernel
theorem dX8_isBoth_23 : decode cX8_isBoth 23 = .ok (.aload_n 0, 1) := by decide +kernel
theorem dX8_isBoth_24 : decode cX8_isBoth 24 = .ok (.iload_n 1, 1) := by decide +kernel
theorem dX8_isBoth_25 : decode cX8_isBoth 25 = .ok (.aload_n 0, 1) := by decide +kernel
theorem dX8_isBoth_26 : decode cX8_isBoth 26 = .ok (.invokevirtual 220, 3) := by decide +kernel
theorem dX8_isBoth_29 : decode cX8_isBoth 29 = .ok (.invokevirtual 224, 3) := by decide +kernel
theorem dX8_isBoth_32 : decode cX8_isBoth 32 = .ok (.iconst 1, 1) := by decide +kernel
theorem dX8_isBoth_33 : decode cX8_isBoth 33 = .ok (.ireturn, 1) := by decide +kernel
theorem gX8_isBoth_X8_all : GoodIn wtX8_isBoth (wsV RX8 220 RX8 yX8_all wtX8_all) := tb_good (tb_v0 wd_413 wd_414 wd_415 wd_5 wd_416)
theorem gX8_isBoth_X8_isLoss : GoodIn wtX8_isBoth (wsV RX8 252 RX8 yX8_isLoss wtX8_isLoss) := tb_good (tb_v0 wd_554 wd_555 wd_556 wd_5 wd_557)
theorem gX8_isBoth_X8_isPolicy : GoodIn wtX8_isBoth (wsV RX8 140 RX8 yX8_isPolicy wtX8_isPolicy) := tb_good (tb_v0 wd_198 wd_199 wd_200 wd_5 wd_201)
theorem gX8_isBoth_X8_settlesTo : GoodIn wtX8_isBoth (wsV RX8 224 RX8 yX8_settlesTo wtX8_settlesTo) := tb_good (tb_v0 wd_482 wd_483 wd_484 wd_5 wd_485)
set_option maxHeartbeats 4000000 in
set_option maxRecDepth 100000 in
theorem m_X8_isBoth (l : Launch) (D : va_G) (cI cJ : ClassId) (sz : Nat) (g g2 g3 g4 g5 g6 g7 g8 g9 g10 g12 g13 g15 g16 g17 g19 g20 g21 g22 g23 g24 g25 g26 g27 g28 g33 g34 g35 g36 g37 g38 g39 g41 g42 g44 g45 mn ml mv tt : Nat) (gi0 gi14 gi18 gi29 gi30 gi40 gi43 p0 p1 : Int32) (G2 G3 G4 G5 G6 G7 G8 G10 G12 G13 G19 G20 G21 G22 G23 G24 G25 G26 G27 G28 G33 G34 G35 G36 : Nat → Int32) (G37 : Nat → Int64) (li0 wo0 de0 ag0 : Nat → Nat) (hmn : mn ≤ 8) (hmL : ml ≤ 10) (hit : ∀ k, k < 10 → ∃ j : Nat, j < 8 ∧ G12 k = nI j) (hsu : ∀ k, k < 64 → ∃ j : Nat, j ≤ 1000001 ∧ G10 k = nI j) (hliv : nv G2 li0) (hlib : ∀ k, k < 8 → li0 k ≤ 1000000) (hwov : nv G5 wo0) (hwob : ∀ k, k < 8 → wo0 k ≤ 9000000) (hdev : nv G4 de0) (hdeb : ∀ k, k < 8 → de0 k ≤ 99999) (hagv : nv G3 ag0) (hagb : ∀ k, k < 8 → ag0 k ≤ 9000000) (hamt : ∀ k, k < 10 → ∃ j : Nat, j < 1000001 ∧ G13 k = nI j) (hLE : LE G19) (hLO : LO G20) (hLW : LW G25) (hSH : SH G27 tt) (htt : tt ≤ 1000000) (hmv : mv ≤ 8) : Met l yX8_isBoth wtX8_isBoth { frames := 8, cells := 0, slots := 0, locals := 189 } (cPc D cI cJ [.ref g, .int p0, .int p1] sz [(oX8 g gi0 (nI mn) g2 g3 g4 g5 g6 g7 g8 g9 g10 (nI ml) g12 g13 gi14 g15 g16 g17 gi18 g19 g20 g21 g22 g23 g24 g25 g26 g27 g28 gi29 gi30 (nI mv) (nI tt) g33 g34 g35 g36 g37 g38 g39 gi40 g41 g42 gi43 g44 g45), (aIc cI g2 8 G2), (aIc cI g3 8 G3), (aIc cI g4 8 G4), (aIc cI g5 8 G5), (aIc cI g6 8 G6), (aIc cI g7 8 G7), (aIc cI g8 8 G8), (aIc cI g10 64 G10), (aIc cI g12 10 G12), (aIc cI g13 10 G13), (aIc cI g19 8 G19), (aIc cI g20 8 G20), (aIc cI g21 8 G21), (aIc cI g22 8 G22), (aIc cI g23 8 G23), (aIc cI g24 8 G24), (aIc cI g25 8 G25), (aIc cI g26 8 G26), (aIc cI g27 8 G27), (aIc cI g28 8 G28), (aIc cI g33 8 G33), (aIc cI g34 8 G34), (aIc cI g35 8 G35), (aIc cI g36 8 G36), (aJc cJ g37 8 G37)]) (cQi D (fun r u => ∃ (G19p G20p G21p G22p G23p G24p G25p G26p G27p G28p G33p G34p G35p G36p : Nat → Int32) (G37p : Nat → Int64) (gi29p gi30p gi18p : Int32) (mvp ttp : Nat) (gi0p : Int32), (LE G19p) ∧ (LO G20p) ∧ (LW G25p) ∧ (SH G27p ttp) ∧ (ttp ≤ 1000000) ∧ (mvp ≤ 8) ∧ (r = 0 ∨ (r = 1 ∧ (0 ≤ p0 ∧ p0 ≤ nI ml - 1) ∧ 0 ≤ p1 ∧ p1 ≤ nI mn - 1)) ∧ u = [(oX8 g gi0p (nI mn) g2 g3 g4 g5 g6 g7 g8 g9 g10 (nI ml) g12 g13 gi14 g15 g16 g17 gi18p g19 g20 g21 g22 g23 g24 g25 g26 g27 g28 gi29p gi30p (nI mvp) (nI ttp) g33 g34 g35 g36 g37 g38 g39 gi40 g41 g42 gi43 g44 g45), (aIc cI g2 8 G2), (aIc cI g3 8 G3), (aIc cI g4 8 G4), (aIc cI g5 8 G5), (aIc cI g6 8 G6), (aIc cI g7 8 G7), (aIc cI g8 8 G8), (aIc cI g10 64 G10), (aIc cI g12 10 G12), (aIc cI g13 10 G13), (aIc cI g19 8 G19p), (aIc cI g20 8 G20p), (aIc cI g21 8 G21p), (aIc cI g22 8 G22p), (aIc cI g23 8 G23p), (aIc cI g24 8 G24p), (aIc cI g25 8 G25p), (aIc cI g26 8 G26p), (aIc cI g27 8 G27p), (aIc cI g28 8 G28p), (aIc cI g33 8 G33p), (aIc cI g34 8 G34p), (aIc cI g35 8 G35p), (aIc cI g36 8 G36p), (aJc cJ g37 8 G37p)]) (va_A [(oX8 g gi0 (nI mn) g2 g3 g4 g5 g6 g7 g8 g9 g10 (nI ml) g12 g13 gi14 g15 g16 g17 gi18 g19 g20 g21 g22 g23 g24 g25 g26 g27 g28 gi29 gi30 (nI mv) (nI tt) g33 g34 g35 g36 g37 g38 g39 gi40 g41 g42 gi43 g44 g45), (aIc cI g2 8 G2), (aIc cI g3 8 G3), (aIc cI g4 8 G4), (aIc cI g5 8 G5), (aIc cI g6 8 G6), (aIc cI g7 8 G7), (aIc cI g8 8 G8), (aIc cI g10 64 G10), (aIc cI g12 10 G12), (aIc cI g13 10 G13), (aIc cI g19 8 G19), (aIc cI g20 8 G20), (aIc cI g21 8 G21), (aIc cI g22 8 G22), (aIc cI g23 8 G23), (aIc cI g24 8 G24), (aIc cI g25 8 G25), (aIc cI g26 8 G26), (aIc cI g27 8 G27), (aIc cI g28 8 G28), (aIc cI g33 8 G33), (aIc cI g34 8 G34), (aIc cI g35 8 G35), (aIc cI g36 8 G36), (aJc cJ g37 8 G37)] sz)) 0 0 (va_A [(oX8 g gi0 (nI mn) g2 g3 g4 g5 g6 g7 g8 g9 g10 (nI ml) g12 g13 gi14 g15 g16 g17 gi18 g19 g20 g21 g22 g23 g24 g25 g26 g27 g28 gi29 gi30 (nI mv) (nI tt) g33 g34 g35 g36 g37 g38 g39 gi40 g41 g42 gi43 g44 g45), (aIc cI g2 8 G2), (aIc cI g3 8 G3), (aIc cI g4 8 G4), (aIc cI g5 8 G5), (aIc cI g6 8 G6), (aIc cI g7 8 G7), (aIc cI g8 8 G8), (aIc cI g10 64 G10), (aIc cI g12 10 G12), (aIc cI g13 10 G13), (aIc cI g19 8 G19), (aIc cI g20 8 G20), (aIc cI g21 8 G21), (aIc cI g22 8 G22), (aIc cI g23 8 G23), (aIc cI g24 8 G24), (aIc cI g25 8 G25), (aIc cI g26 8 G26), (aIc cI g27 8 G27), (aIc cI g28 8 G28), (aIc cI g33 8 G33), (aIc cI g34 8 G34), (aIc cI g35 8 G35), (aIc cI g36 8 G36), (aJc cJ g37 8 G37)] sz) := by
  refine k_ofW (Qc := cQi D (fun r u => ∃ (G19p G20p G21p G22p G23p G24p G25p G26p G27p G28p G33p G34p G35p G36p : Nat → Int32) (G37p : Nat → Int64) (gi29p gi30p gi18p : Int32) (mvp ttp : Nat) (gi0p : Int32), (LE G19p) ∧ (LO G20p) ∧ (LW G25p) ∧ (SH G27p ttp) ∧ (ttp ≤ 1000000) ∧ (mvp ≤ 8) ∧ (r = 0 ∨ (r = 1 ∧ (0 ≤ p0 ∧ p0 ≤ nI ml - 1) ∧ 0 ≤ p1 ∧ p1 ≤ nI mn - 1)) ∧ u = [(oX8 g gi0p (nI mn) g2 g3 g4 g5 g6 g7 g8 g9 g10 (nI ml) g12 g13 gi14 g15 g16 g17 gi18p g19 g20 g21 g22 g23 g24 g25 g26 g27 g28 gi29p gi30p (nI mvp) (nI ttp) g33 g34 g35 g36 g37 g38 g39 gi40 g41 g42 gi43 g44 g45), (aIc cI g2 8 G2), (aIc cI g3 8 G3), (aIc cI g4 8 G4), (aIc cI g5 8 G5), (aIc cI g6 8 G6), (aIc cI g7 8 G7), (aIc cI g8 8 G8), (aIc cI g10 64 G10), (aIc cI g12 10 G12), (aIc cI g13 10 G13), (aIc cI g19 8 G19p), (aIc cI g20 8 G20p), (aIc cI g21 8 G21p), (aIc cI g22 8 G22p), (aIc cI g23 8 G23p), (aIc cI g24 8 G24p), (aIc cI g25 8 G25p), (aIc cI g26 8 G26p), (aIc cI g27 8 G27p), (aIc cI g28 8 G28p), (aIc cI g33 8 G33p), (aIc cI g34 8 G34p), (aIc cI g35 8 G35p), (aIc cI g36 8 G36p), (aJc cJ g37 8 G37p)])) (by decide) rfl (Nat.le_of_ble_eq_true rfl) ?_
  intro p e s m below meth c A ls hx hb hr hml hts hown hlk hnm hsz hE hP hD hS hA hl
  have hown : s.vm.findClass RX8 = some m.cls := hown
  have hiX8 : ∀ w ∈ u_ws RX8 TX8 46, w ∈ wtX8_isBoth := fun w h => List.mem_cons_of_mem _ (iuX8 w h)
  have hl : lv_has ls 3 [(0, .ref g), (1, .int p0), (2, .int p1)] := hl
  refine lv_aload_n hx hb dX8_isBoth_0 rfl (lv_at hl 0 rfl) ?_
  refine lv_iconst (v := 0) hx hb dX8_isBoth_1 (by decide) ?_
  refine va_put (D := D) (ci := 8) (v := .int 0) (ty := .int) (C := RX8) (T := TX8) (N := 46) hx hb hts hiX8 tyX8 tyX8_ok nmX8 hown hE.1 hP hD hS 0 rfl rfl 0 (by decide) (hts _ (List.mem_cons_of_mem _ wd_171)) (fun _ h9 => h9) rfl (by decide +kernel) rfl rfl (Nat.le_of_ble_eq_true rfl) dX8_isBoth_2 (fun H locs hP hD hS => ?_)
  refine k_re (w := [(oX8 g 0 (nI mn) g2 g3 g4 g5 g6 g7 g8 g9 g10 (nI ml) g12 g13 gi14 g15 g16 g17 gi18 g19 g20 g21 g22 g23 g24 g25 g26 g27 g28 gi29 gi30 (nI mv) (nI tt) g33 g34 g35 g36 g37 g38 g39 gi40 g41 g42 gi43 g44 g45), (aIc cI g2 8 G2), (aIc cI g3 8 G3), (aIc cI g4 8 G4), (aIc cI g5 8 G5), (aIc cI g6 8 G6), (aIc cI g7 8 G7), (aIc cI g8 8 G8), (aIc cI g10 64 G10), (aIc cI g12 10 G12), (aIc cI g13 10 G13), (aIc cI g19 8 G19), (aIc cI g20 8 G20), (aIc cI g21 8 G21), (aIc cI g22 8 G22), (aIc cI g23 8 G23), (aIc cI g24 8 G24), (aIc cI g25 8 G25), (aIc cI g26 8 G26), (aIc cI g27 8 G27), (aIc cI g28 8 G28), (aIc cI g33 8 G33), (aIc cI g34 8 G34), (aIc cI g35 8 G35), (aIc cI g36 8 G36), (aJc cJ g37 8 G37)]) hP hD (fun hP hD => ?_)
  refine lv_aload_n hx hb dX8_isBoth_5 rfl (lv_at hl 0 rfl) ?_
  refine lv_iload_n hx hb dX8_isBoth_6 rfl (lv_at hl 1 rfl) ?_
  refine k_iS (va_runV (As := [.int p0]) (rest := []) ⟨hx, hb, hml, hown, hts⟩ (m_X8_isLoss l D cI cJ H.size g g2 g3 g4 g5 g6 g7 g8 g9 g10 g12 g13 g15 g16 g17 g19 g20 g21 g22 g23 g24 g25 g26 g27 g28 g33 g34 g35 g36 g37 g38 g39 g41 g42 g44 g45 mn ml mv 0 gi14 gi18 gi29 gi30 (nI tt) gi40 gi43 p0) (cwV 1 hts gX8_isBoth_X8_isLoss rfl rfl rfl (by decide +kernel) ⟨Nat.le_of_ble_eq_true rfl, Nat.le_of_ble_eq_true rfl⟩) (k_preV hE hP hD [0] (by decide +kernel) rfl 0 rfl rfl) rfl rfl hl.1 rfl (lv_room (Nat.le_of_ble_eq_true rfl)) dX8_isBoth_7 ⟨Nat.le_of_ble_eq_true rfl, Nat.le_of_ble_eq_true rfl⟩) hP hD hS hA [0] rfl (fun _ _ ⟨_, h9⟩ => h9) (fun r1 H locs hw2 hP hD hS => ?_)
  obtain ⟨hb3, -⟩ := hw2
  refine lv_if_eq (tgt := 21) hx hb dX8_isBoth_10 (by decide) (fun c4 => ?_) (fun c4 => ?_)
  · skip
    have hc4 : ¬ (0 ≤ p0 ∧ p0 ≤ nI ml - 1) := bz_0 hb3 c4
    refine lv_iconst (v := 0) hx hb dX8_isBoth_21 (by decide) ?_
    refine k_zret (u := [(oX8 g 0 (nI mn) g2 g3 g4 g5 g6 g7 g8 g9 g10 (nI ml) g12 g13 gi14 g15 g16 g17 gi18 g19 g20 g21 g22 g23 g24 g25 g26 g27 g28 gi29 gi30 (nI mv) (nI tt) g33 g34 g35 g36 g37 g38 g39 gi40 g41 g42 gi43 g44 g45), (aIc cI g2 8 G2), (aIc cI g3 8 G3), (aIc cI g4 8 G4), (aIc cI g5 8 G5), (aIc cI g6 8 G6), (aIc cI g7 8 G7), (aIc cI g8 8 G8), (aIc cI g10 64 G10), (aIc cI g12 10 G12), (aIc cI g13 10 G13), (aIc cI g19 8 G19), (aIc cI g20 8 G20), (aIc cI g21 8 G21), (aIc cI g22 8 G22), (aIc cI g23 8 G23), (aIc cI g24 8 G24), (aIc cI g25 8 G25), (aIc cI g26 8 G26), (aIc cI g27 8 G27), (aIc cI g28 8 G28), (aIc cI g33 8 G33), (aIc cI g34 8 G34), (aIc cI g35 8 G35), (aIc cI g36 8 G36), (aJc cJ g37 8 G37)]) hx hb hr (by decide) hlk hP hD hS dX8_isBoth_22 ?_
    exact ⟨G19, G20, G21, G22, G23, G24, G25, G26, G27, G28, G33, G34, G35, G36, G37, gi29, gi30, gi18, mv, tt, 0, hLE, hLO, hLW, hSH, htt, hmv, (by first | exact Or.inl rfl | exact Or.inr ⟨rfl, hc4⟩), rfl⟩
  · skip
    have hc4 : 0 ≤ p0 ∧ p0 ≤ nI ml - 1 := bz_1 hb3 c4
    refine lv_aload_n hx hb dX8_isBoth_13 rfl (lv_at hl 0 rfl) ?_
    refine lv_iload_n hx hb dX8_isBoth_14 rfl (lv_at hl 2 rfl) ?_
    refine k_iS (va_runV (As := [.int p1]) (rest := []) ⟨hx, hb, hml, hown, hts⟩ (m_X8_isPolicy l D cI cJ H.size g g2 g3 g4 g5 g6 g7 g8 g9 g10 g12 g13 g15 g16 g17 g19 g20 g21 g22 g23 g24 g25 g26 g27 g28 g33 g34 g35 g36 g37 g38 g39 g41 g42 g44 g45 mn ml mv 0 gi14 gi18 gi29 gi30 (nI tt) gi40 gi43 p1) (cwV 1 hts gX8_isBoth_X8_isPolicy rfl rfl rfl (by decide +kernel) ⟨Nat.le_of_ble_eq_true rfl, Nat.le_of_ble_eq_true rfl⟩) (k_preV hE hP hD [0] (by decide +kernel) rfl 0 rfl rfl) rfl rfl hl.1 rfl (lv_room (Nat.le_of_ble_eq_true rfl)) dX8_isBoth_15 ⟨Nat.le_of_ble_eq_true rfl, Nat.le_of_ble_eq_true rfl⟩) hP hD hS hA [0] rfl (fun _ _ ⟨_, h9⟩ => h9) (fun r5 H locs hw6 hP hD hS => ?_)
    obtain ⟨hb7, -⟩ := hw6
    refine lv_if_ne (tgt := 23) hx hb dX8_isBoth_18 (by decide) (fun c8 => ?_) (fun c8 => ?_)
    · skip
      have hc8 : 0 ≤ p1 ∧ p1 ≤ nI mn - 1 := bz_1 hb7 c8
      obtain ⟨lj, hlj, elj⟩ := wi_n (by omega) hc4
      rw [elj] at hl
      refine lv_aload_n hx hb dX8_isBoth_23 rfl (lv_at hl 0 rfl) ?_
      refine lv_iload_n hx hb dX8_isBoth_24 rfl (lv_at hl 1 rfl) ?_
      refine lv_aload_n hx hb dX8_isBoth_25 rfl (lv_at hl 0 rfl) ?_
      refine k_iS (va_runV (As := []) (rest := [.int (nI lj), .ref g]) ⟨hx, hb, hml, hown, hts⟩ (m_X8_all l D cI cJ H.size g g2 g3 g4 g5 g6 g7 g8 g9 g10 g12 g13 g15 g16 g17 g19 g20 g21 g22 g23 g24 g25 g26 g27 g28 g33 g34 g35 g36 g37 g38 g39 g41 g42 g44 g45 mn ml mv 0 gi14 gi18 gi29 gi30 (nI tt) gi40 gi43 hmn) (cwV 0 hts gX8_isBoth_X8_all rfl rfl rfl (by decide +kernel) ⟨Nat.le_of_ble_eq_true rfl, Nat.le_of_ble_eq_true rfl⟩) (k_preV hE hP hD [0] (by decide +kernel) rfl 0 rfl rfl) rfl rfl hl.1 rfl (lv_room (Nat.le_of_ble_eq_true rfl)) dX8_isBoth_26 ⟨Nat.le_of_ble_eq_true rfl, Nat.le_of_ble_eq_true rfl⟩) hP hD hS hA [0] rfl (fun _ _ ⟨_, h9⟩ => h9) (fun r9 H locs hw10 hP hD hS => ?_)
      obtain ⟨rfl, -⟩ := hw10
      refine k_v (va_runV (As := [.int (nI lj), .int (nI (2 ^ mn - 1))]) (rest := []) ⟨hx, hb, hml, hown, hts⟩ (m_X8_settlesTo l D cI cJ H.size g g2 g3 g4 g5 g6 g7 g8 g9 g10 g12 g13 g15 g16 g17 g19 g20 g21 g22 g23 g24 g25 g26 g27 g28 g33 g34 g35 g36 g37 g38 g39 g41 g42 g44 g45 mn ml mv tt (lj + 1) 0 gi14 gi18 gi29 gi30 gi40 gi43 (nI lj) (nI (2 ^ mn - 1)) G2 G3 G4 G5 G6 G7 G8 G10 G12 G13 G19 G20 G21 G22 G23 G24 G25 G26 G27 G28 G33 G34 G35 G36 G37 li0 wo0 de0 ag0 (nI_pred lj).symm (by omega) hit hsu hliv hlib hwov hwob hdev hdeb hagv hagb hamt hLE hLO hLW hSH htt hmv) (cwV 2 hts gX8_isBoth_X8_settlesTo rfl rfl rfl (by decide +kernel) ⟨Nat.le_of_ble_eq_true rfl, Nat.le_of_ble_eq_true rfl⟩) (k_preV hE hP hD [0, 1, 2, 3, 4, 5, 6, 7, 8, 9, 10, 11, 12, 13, 14, 15, 16, 17, 18, 19, 20, 21, 22, 23, 24, 25] (by decide +kernel) rfl 0 rfl rfl) rfl rfl hl.1 rfl (lv_room (Nat.le_of_ble_eq_true rfl)) dX8_isBoth_29 ⟨Nat.le_of_ble_eq_true rfl, Nat.le_of_ble_eq_true rfl⟩) hP hD hS hA [0, 1, 2, 3, 4, 5, 6, 7, 8, 9, 10, 11, 12, 13, 14, 15, 16, 17, 18, 19, 20, 21, 22, 23, 24, 25] [] rfl (wr := []) rfl (by decide +kernel) (by decide +kernel) (fun u H locs hw11 hP hD hS => ?_)
      obtain ⟨z12, z13, z14, z15, z16, z17, z18, z19, z20, z21, z22, z23, z24, z25, z26, z27, z28, z29, z30, z31, hz32, hz33, hz34, hz35, hz36, hz37, hz38, rfl⟩ := hw11
      refine k_re (w := [(oX8 g 0 (nI mn) g2 g3 g4 g5 g6 g7 g8 g9 g10 (nI ml) g12 g13 gi14 g15 g16 g17 z29 g19 g20 g21 g22 g23 g24 g25 g26 g27 g28 z27 z28 (nI z30) (nI z31) g33 g34 g35 g36 g37 g38 g39 gi40 g41 g42 gi43 g44 g45), (aIc cI g2 8 G2), (aIc cI g3 8 G3), (aIc cI g4 8 G4), (aIc cI g5 8 G5), (aIc cI g6 8 G6), (aIc cI g7 8 G7), (aIc cI g8 8 G8), (aIc cI g10 64 G10), (aIc cI g12 10 G12), (aIc cI g13 10 G13), (aIc cI g19 8 z12), (aIc cI g20 8 z13), (aIc cI g21 8 z14), (aIc cI g22 8 z15), (aIc cI g23 8 z16), (aIc cI g24 8 z17), (aIc cI g25 8 z18), (aIc cI g26 8 z19), (aIc cI g27 8 z20), (aIc cI g28 8 z21), (aIc cI g33 8 z22), (aIc cI g34 8 z23), (aIc cI g35 8 z24), (aIc cI g36 8 z25), (aJc cJ g37 8 z26)]) hP hD (fun hP hD => ?_)
      refine lv_iconst (v := 1) hx hb dX8_isBoth_32 (by decide) ?_
      refine k_zret (u := [(oX8 g 0 (nI mn) g2 g3 g4 g5 g6 g7 g8 g9 g10 (nI ml) g12 g13 gi14 g15 g16 g17 z29 g19 g20 g21 g22 g23 g24 g25 g26 g27 g28 z27 z28 (nI z30) (nI z31) g33 g34 g35 g36 g37 g38 g39 gi40 g41 g42 gi43 g44 g45), (aIc cI g2 8 G2), (aIc cI g3 8 G3), (aIc cI g4 8 G4), (aIc cI g5 8 G5), (aIc cI g6 8 G6), (aIc cI g7 8 G7), (aIc cI g8 8 G8), (aIc cI g10 64 G10), (aIc cI g12 10 G12), (aIc cI g13 10 G13), (aIc cI g19 8 z12), (aIc cI g20 8 z13), (aIc cI g21 8 z14), (aIc cI g22 8 z15), (aIc cI g23 8 z16), (aIc cI g24 8 z17), (aIc cI g25 8 z18), (aIc cI g26 8 z19), (aIc cI g27 8 z20), (aIc cI g28 8 z21), (aIc cI g33 8 z22), (aIc cI g34 8 z23), (aIc cI g35 8 z24), (aIc cI g36 8 z25), (aJc cJ g37 8 z26)]) hx hb hr (by decide) hlk hP hD hS dX8_isBoth_33 ?_
      exact ⟨z12, z13, z14, z15, z16, z17, z18, z19, z20, z21, z22, z23, z24, z25, z26, z27, z28, z29, z30, z31, 0, hz32, hz33, hz34, hz35, hz36, hz37, (by first | exact Or.inl rfl | exact Or.inr ⟨rfl, hc4, hc8⟩), rfl⟩
    · skip
      have hc8 : ¬ (0 ≤ p1 ∧ p1 ≤ nI mn - 1) := bz_0 hb7 c8
      refine lv_iconst (v := 0) hx hb dX8_isBoth_21 (by decide) ?_
      refine k_zret (u := [(oX8 g 0 (nI mn) g2 g3 g4 g5 g6 g7 g8 g9 g10 (nI ml) g12 g13 gi14 g15 g16 g17 gi18 g19 g20 g21 g22 g23 g24 g25 g26 g27 g28 gi29 gi30 (nI mv) (nI tt) g33 g34 g35 g36 g37 g38 g39 gi40 g41 g42 gi43 g44 g45), (aIc cI g2 8 G2), (aIc cI g3 8 G3), (aIc cI g4 8 G4), (aIc cI g5 8 G5), (aIc cI g6 8 G6), (aIc cI g7 8 G7), (aIc cI g8 8 G8), (aIc cI g10 64 G10), (aIc cI g12 10 G12), (aIc cI g13 10 G13), (aIc cI g19 8 G19), (aIc cI g20 8 G20), (aIc cI g21 8 G21), (aIc cI g22 8 G22), (aIc cI g23 8 G23), (aIc cI g24 8 G24), (aIc cI g25 8 G25), (aIc cI g26 8 G26), (aIc cI g27 8 G27), (aIc cI g28 8 G28), (aIc cI g33 8 G33), (aIc cI g34 8 G34), (aIc cI g35 8 G35), (aIc cI g36 8 G36), (aJc cJ g37 8 G37)]) hx hb hr (by decide) hlk hP hD hS dX8_isBoth_22 ?_
      exact ⟨G19, G20, G21, G22, G23, G24, G25, G26, G27, G28, G33, G34, G35, G36, G37, gi29, gi30, gi18, mv, tt, 0, hLE, hLO, hLW, hSH, htt, hmv, (by first | exact Or.inl rfl | exact Or.inr ⟨rfl, hc4, hc8⟩), rfl⟩
theorem dX8_step_0 : decode cX8_step 0 = .ok (.aload_n 0, 1) := by decide +kernel
theorem dX8_step_1 : decode cX8_step 1 = .ok (.iconst 0, 1) := by decide +kernel
theorem dX8_step_2 : decode cX8_step 2 = .ok (.putfield 116, 3) := by decide +kernel
theorem dX8_step_5 : decode cX8_step 5 = .ok (.aload_n 0, 1) := by decide +kernel
theorem dX8_step_6 : decode cX8_step 6 = .ok (.iload_n 1, 1) := by decide +kernel
theorem dX8_step_7 : decode cX8_step 7 = .ok (.invokevirtual 252, 3) := by decide +kernel
theorem dX8_step_10 : decode cX8_step 10 = .ok (.ifCond .ne 5, 3) := by decide +kernel
theorem dX8_step_13 : decode cX8_step 13 = .ok (.iconst (-1), 1) := by decide +kernel
theorem dX8_step_14 : decode cX8_step 14 = .ok (.ireturn, 1) := by decide +kernel
theorem dX8_step_15 : decode cX8_step 15 = .ok (.aload_n 0, 1) := by decide +kernel
theorem dX8_step_16 : decode cX8_step 16 = .ok (.iload_n 1, 1) := by decide +kernel
theorem dX8_step_17 : decode cX8_step 17 = .ok (.aload_n 0, 1) := by decide +kernel
theorem dX8_step_18 : decode cX8_step 18 = .ok (.invokevirtual 220, 3) := by decide +kernel
theorem dX8_step_21 : decode cX8_step 21 = .ok (.invokevirtual 224, 3) := by decide +kernel
theorem dX8_step_24 : decode cX8_step 24 = .ok (.iload_n 2, 1) := by decide +kernel
theorem dX8_step_25 : decode cX8_step 25 = .ok (.i2l, 1) := by decide +kernel
theorem dX8_step_26 : decode cX8_step 26 = .ok (.lconst 0, 1) := by decide +kernel
theorem dX8_step_27 : decode cX8_step 27 = .ok (.aload_n 0, 1) := by decide +kernel
theorem dX8_step_28 : decode cX8_step 28 = .ok (.getfield 165, 3) := by decide +kernel
theorem dX8_step_31 : decode cX8_step 31 = .ok (.iconst 1, 1) := by decide +kernel
theorem dX8_step_32 : decode cX8_step 32 = .ok (.isub, 1) := by decide +kernel
theorem dX8_step_33 : decode cX8_step 33 = .ok (.i2l, 1) := by decide +kernel
theorem dX8_step_34 : decode cX8_step 34 = .ok (.invokestatic 123, 3) := by decide +kernel
theorem dX8_step_37 : decode cX8_step 37 = .ok (.ifCond .eq 12, 3) := by decide +kernel
theorem dX8_step_40 : decode cX8_step 40 = .ok (.aload_n 0, 1) := by decide +kernel
theorem dX8_step_41 : decode cX8_step 41 = .ok (.getfield 85, 3) := by decide +kernel
theorem dX8_step_44 : decode cX8_step 44 = .ok (.iload_n 2, 1) := by decide +kernel
theorem dX8_step_45 : decode cX8_step 45 = .ok (.iaload, 1) := by decide +kernel
theorem dX8_step_46 : decode cX8_step 46 = .ok (.goto 4, 3) := by decide +kernel
theorem dX8_step_49 : decode cX8_step 49 = .ok (.iconst (-1), 1) := by decide +kernel
theorem dX8_step_50 : decode cX8_step 50 = .ok (.ireturn, 1) := by decide +kernel
theorem gX8_step_X8_all : GoodIn wtX8_step (wsV RX8 220 RX8 yX8_all wtX8_all) := tb_good (tb_v0 wd_413 wd_414 wd_415 wd_5 wd_416)
theorem gX8_step_X8_in : GoodIn wtX8_step (va_wsS RX8 123 yX8_in wtX8_in) := tb_good (tb_s0 wd_177 wd_178 wd_5 wd_179)
theorem gX8_step_X8_isLoss : GoodIn wtX8_step (wsV RX8 252 RX8 yX8_isLoss wtX8_isLoss) := tb_good (tb_v0 wd_554 wd_555 wd_556 wd_5 wd_557)
theorem gX8_step_X8_settlesTo : GoodIn wtX8_step (wsV RX8 224 RX8 yX8_settlesTo wtX8_settlesTo) := tb_good (tb_v0 wd_482 wd_483 wd_484 wd_5 wd_485)
set_option maxHeartbeats 4000000 in
set_option maxRecDepth 100000 in
theorem m_X8_step (l : Launch) (D : va_G) (cI cJ : ClassId) (sz : Nat) (g g2 g3 g4 g5 g6 g7 g8 g9 g10 g12 g13 g15 g16 g17 g19 g20 g21 g22 g23 g24 g25 g26 g27 g28 g33 g34 g35 g36 g37 g38 g39 g41 g42 g44 g45 mn ml mv tt : Nat) (gi0 gi14 gi18 gi29 gi30 gi40 gi43 p0 p1 : Int32) (G2 G3 G4 G5 G6 G7 G8 G10 G12 G13 G19 G20 G21 G22 G23 G24 G25 G26 G27 G28 G33 G34 G35 G36 : Nat → Int32) (G37 : Nat → Int64) (li0 wo0 de0 ag0 : Nat → Nat) (hmn : mn ≤ 8) (hmL : ml ≤ 10) (hit : ∀ k, k < 10 → ∃ j : Nat, j < 8 ∧ G12 k = nI j) (hsu : ∀ k, k < 64 → ∃ j : Nat, j ≤ 1000001 ∧ G10 k = nI j) (hliv : nv G2 li0) (hlib : ∀ k, k < 8 → li0 k ≤ 1000000) (hwov : nv G5 wo0) (hwob : ∀ k, k < 8 → wo0 k ≤ 9000000) (hdev : nv G4 de0) (hdeb : ∀ k, k < 8 → de0 k ≤ 99999) (hagv : nv G3 ag0) (hagb : ∀ k, k < 8 → ag0 k ≤ 9000000) (hamt : ∀ k, k < 10 → ∃ j : Nat, j < 1000001 ∧ G13 k = nI j) (hLE : LE G19) (hLO : LO G20) (hLW : LW G25) (hSH : SH G27 tt) (htt : tt ≤ 1000000) (hmv : mv ≤ 8) : Met l yX8_step wtX8_step { frames := 8, cells := 0, slots := 0, locals := 189 } (cPc D cI cJ [.ref g, .int p0, .int p1] sz [(oX8 g gi0 (nI mn) g2 g3 g4 g5 g6 g7 g8 g9 g10 (nI ml) g12 g13 gi14 g15 g16 g17 gi18 g19 g20 g21 g22 g23 g24 g25 g26 g27 g28 gi29 gi30 (nI mv) (nI tt) g33 g34 g35 g36 g37 g38 g39 gi40 g41 g42 gi43 g44 g45), (aIc cI g2 8 G2), (aIc cI g3 8 G3), (aIc cI g4 8 G4), (aIc cI g5 8 G5), (aIc cI g6 8 G6), (aIc cI g7 8 G7), (aIc cI g8 8 G8), (aIc cI g10 64 G10), (aIc cI g12 10 G12), (aIc cI g13 10 G13), (aIc cI g19 8 G19), (aIc cI g20 8 G20), (aIc cI g21 8 G21), (aIc cI g22 8 G22), (aIc cI g23 8 G23), (aIc cI g24 8 G24), (aIc cI g25 8 G25), (aIc cI g26 8 G26), (aIc cI g27 8 G27), (aIc cI g28 8 G28), (aIc cI g33 8 G33), (aIc cI g34 8 G34), (aIc cI g35 8 G35), (aIc cI g36 8 G36), (aJc cJ g37 8 G37)]) (cQi D (fun r u => ∃ (G19p G20p G21p G22p G23p G24p G25p G26p G27p G28p G33p G34p G35p G36p : Nat → Int32) (G37p : Nat → Int64) (gi29p gi30p gi18p : Int32) (mvp ttp : Nat) (gi0p : Int32), (LE G19p) ∧ (LO G20p) ∧ (LW G25p) ∧ (SH G27p ttp) ∧ (ttp ≤ 1000000) ∧ (mvp ≤ 8) ∧ u = [(oX8 g gi0p (nI mn) g2 g3 g4 g5 g6 g7 g8 g9 g10 (nI ml) g12 g13 gi14 g15 g16 g17 gi18p g19 g20 g21 g22 g23 g24 g25 g26 g27 g28 gi29p gi30p (nI mvp) (nI ttp) g33 g34 g35 g36 g37 g38 g39 gi40 g41 g42 gi43 g44 g45), (aIc cI g2 8 G2), (aIc cI g3 8 G3), (aIc cI g4 8 G4), (aIc cI g5 8 G5), (aIc cI g6 8 G6), (aIc cI g7 8 G7), (aIc cI g8 8 G8), (aIc cI g10 64 G10), (aIc cI g12 10 G12), (aIc cI g13 10 G13), (aIc cI g19 8 G19p), (aIc cI g20 8 G20p), (aIc cI g21 8 G21p), (aIc cI g22 8 G22p), (aIc cI g23 8 G23p), (aIc cI g24 8 G24p), (aIc cI g25 8 G25p), (aIc cI g26 8 G26p), (aIc cI g27 8 G27p), (aIc cI g28 8 G28p), (aIc cI g33 8 G33p), (aIc cI g34 8 G34p), (aIc cI g35 8 G35p), (aIc cI g36 8 G36p), (aJc cJ g37 8 G37p)]) (va_A [(oX8 g gi0 (nI mn) g2 g3 g4 g5 g6 g7 g8 g9 g10 (nI ml) g12 g13 gi14 g15 g16 g17 gi18 g19 g20 g21 g22 g23 g24 g25 g26 g27 g28 gi29 gi30 (nI mv) (nI tt) g33 g34 g35 g36 g37 g38 g39 gi40 g41 g42 gi43 g44 g45), (aIc cI g2 8 G2), (aIc cI g3 8 G3), (aIc cI g4 8 G4), (aIc cI g5 8 G5), (aIc cI g6 8 G6), (aIc cI g7 8 G7), (aIc cI g8 8 G8), (aIc cI g10 64 G10), (aIc cI g12 10 G12), (aIc cI g13 10 G13), (aIc cI g19 8 G19), (aIc cI g20 8 G20), (aIc cI g21 8 G21), (aIc cI g22 8 G22), (aIc cI g23 8 G23), (aIc cI g24 8 G24), (aIc cI g25 8 G25), (aIc cI g26 8 G26), (aIc cI g27 8 G27), (aIc cI g28 8 G28), (aIc cI g33 8 G33), (aIc cI g34 8 G34), (aIc cI g35 8 G35), (aIc cI g36 8 G36), (aJc cJ g37 8 G37)] sz)) 0 0 (va_A [(oX8 g gi0 (nI mn) g2 g3 g4 g5 g6 g7 g8 g9 g10 (nI ml) g12 g13 gi14 g15 g16 g17 gi18 g19 g20 g21 g22 g23 g24 g25 g26 g27 g28 gi29 gi30 (nI mv) (nI tt) g33 g34 g35 g36 g37 g38 g39 gi40 g41 g42 gi43 g44 g45), (aIc cI g2 8 G2), (aIc cI g3 8 G3), (aIc cI g4 8 G4), (aIc cI g5 8 G5), (aIc cI g6 8 G6), (aIc cI g7 8 G7), (aIc cI g8 8 G8), (aIc cI g10 64 G10), (aIc cI g12 10 G12), (aIc cI g13 10 G13), (aIc cI g19 8 G19), (aIc cI g20 8 G20), (aIc cI g21 8 G21), (aIc cI g22 8 G22), (aIc cI g23 8 G23), (aIc cI g24 8 G24), (aIc cI g25 8 G25), (aIc cI g26 8 G26), (aIc cI g27 8 G27), (aIc cI g28 8 G28), (aIc cI g33 8 G33), (aIc cI g34 8 G34), (aIc cI g35 8 G35), (aIc cI g36 8 G36), (aJc cJ g37 8 G37)] sz) := by
  refine k_ofW (Qc := cQi D (fun r u => ∃ (G19p G20p G21p G22p G23p G24p G25p G26p G27p G28p G33p G34p G35p G36p : Nat → Int32) (G37p : Nat → Int64) (gi29p gi30p gi18p : Int32) (mvp ttp : Nat) (gi0p : Int32), (LE G19p) ∧ (LO G20p) ∧ (LW G25p) ∧ (SH G27p ttp) ∧ (ttp ≤ 1000000) ∧ (mvp ≤ 8) ∧ u = [(oX8 g gi0p (nI mn) g2 g3 g4 g5 g6 g7 g8 g9 g10 (nI ml) g12 g13 gi14 g15 g16 g17 gi18p g19 g20 g21 g22 g23 g24 g25 g26 g27 g28 gi29p gi30p (nI mvp) (nI ttp) g33 g34 g35 g36 g37 g38 g39 gi40 g41 g42 gi43 g44 g45), (aIc cI g2 8 G2), (aIc cI g3 8 G3), (aIc cI g4 8 G4), (aIc cI g5 8 G5), (aIc cI g6 8 G6), (aIc cI g7 8 G7), (aIc cI g8 8 G8), (aIc cI g10 64 G10), (aIc cI g12 10 G12), (aIc cI g13 10 G13), (aIc cI g19 8 G19p), (aIc cI g20 8 G20p), (aIc cI g21 8 G21p), (aIc cI g22 8 G22p), (aIc cI g23 8 G23p), (aIc cI g24 8 G24p), (aIc cI g25 8 G25p), (aIc cI g26 8 G26p), (aIc cI g27 8 G27p), (aIc cI g28 8 G28p), (aIc cI g33 8 G33p), (aIc cI g34 8 G34p), (aIc cI g35 8 G35p), (aIc cI g36 8 G36p), (aJc cJ g37 8 G37p)])) (by decide) rfl (Nat.le_of_ble_eq_true rfl) ?_
  intro p e s m below meth c A ls hx hb hr hml hts hown hlk hnm hsz hE hP hD hS hA hl
  have hown : s.vm.findClass RX8 = some m.cls := hown
  have hiX8 : ∀ w ∈ u_ws RX8 TX8 46, w ∈ wtX8_step := fun w h => List.mem_cons_of_mem _ (iuX8 w h)
  have hl : lv_has ls 3 [(0, .ref g), (1, .int p0), (2, .int p1)] := hl
  refine lv_aload_n hx hb dX8_step_0 rfl (lv_at hl 0 rfl) ?_
  refine lv_iconst (v := 0) hx hb dX8_step_1 (by decide) ?_
  refine va_put (D := D) (ci := 8) (v := .int 0) (ty := .int) (C := RX8) (T := TX8) (N := 46) hx hb hts hiX8 tyX8 tyX8_ok nmX8 hown hE.1 hP hD hS 0 rfl rfl 0 (by decide) (hts _ (List.mem_cons_of_mem _ wd_171)) (fun _ h9 => h9) rfl (by decide +kernel) rfl rfl (Nat.le_of_ble_eq_true rfl) dX8_step_2 (fun H locs hP hD hS => ?_)
  refine k_re (w := [(oX8 g 0 (nI mn) g2 g3 g4 g5 g6 g7 g8 g9 g10 (nI ml) g12 g13 gi14 g15 g16 g17 gi18 g19 g20 g21 g22 g23 g24 g25 g26 g27 g28 gi29 gi30 (nI mv) (nI tt) g33 g34 g35 g36 g37 g38 g39 gi40 g41 g42 gi43 g44 g45), (aIc cI g2 8 G2), (aIc cI g3 8 G3), (aIc cI g4 8 G4), (aIc cI g5 8 G5), (aIc cI g6 8 G6), (aIc cI g7 8 G7), (aIc cI g8 8 G8), (aIc cI g10 64 G10), (aIc cI g12 10 G12), (aIc cI g13 10 G13), (aIc cI g19 8 G19), (aIc cI g20 8 G20), (aIc cI g21 8 G21), (aIc cI g22 8 G22), (aIc cI g23 8 G23), (aIc cI g24 8 G24), (aIc cI g25 8 G25), (aIc cI g26 8 G26), (aIc cI g27 8 G27), (aIc cI g28 8 G28), (aIc cI g33 8 G33), (aIc cI g34 8 G34), (aIc cI g35 8 G35), (aIc cI g36 8 G36), (aJc cJ g37 8 G37)]) hP hD (fun hP hD => ?_)
  refine lv_aload_n hx hb dX8_step_5 rfl (lv_at hl 0 rfl) ?_
  refine lv_iload_n hx hb dX8_step_6 rfl (lv_at hl 1 rfl) ?_
  refine k_iS (va_runV (As := [.int p0]) (rest := []) ⟨hx, hb, hml, hown, hts⟩ (m_X8_isLoss l D cI cJ H.size g g2 g3 g4 g5 g6 g7 g8 g9 g10 g12 g13 g15 g16 g17 g19 g20 g21 g22 g23 g24 g25 g26 g27 g28 g33 g34 g35 g36 g37 g38 g39 g41 g42 g44 g45 mn ml mv 0 gi14 gi18 gi29 gi30 (nI tt) gi40 gi43 p0) (cwV 1 hts gX8_step_X8_isLoss rfl rfl rfl (by decide +kernel) ⟨Nat.le_of_ble_eq_true rfl, Nat.le_of_ble_eq_true rfl⟩) (k_preV hE hP hD [0] (by decide +kernel) rfl 0 rfl rfl) rfl rfl hl.1 rfl (lv_room (Nat.le_of_ble_eq_true rfl)) dX8_step_7 ⟨Nat.le_of_ble_eq_true rfl, Nat.le_of_ble_eq_true rfl⟩) hP hD hS hA [0] rfl (fun _ _ ⟨_, h9⟩ => h9) (fun r1 H locs hw2 hP hD hS => ?_)
  obtain ⟨hb3, -⟩ := hw2
  refine lv_if_ne (tgt := 15) hx hb dX8_step_10 (by decide) (fun c4 => ?_) (fun c4 => ?_)
  · skip
    have hc4 : 0 ≤ p0 ∧ p0 ≤ nI ml - 1 := bz_1 hb3 c4
    obtain ⟨lj, hlj, elj⟩ := wi_n (by omega) hc4
    rw [elj] at hl
    refine lv_aload_n hx hb dX8_step_15 rfl (lv_at hl 0 rfl) ?_
    refine lv_iload_n hx hb dX8_step_16 rfl (lv_at hl 1 rfl) ?_
    refine lv_aload_n hx hb dX8_step_17 rfl (lv_at hl 0 rfl) ?_
    refine k_iS (va_runV (As := []) (rest := [.int (nI lj), .ref g]) ⟨hx, hb, hml, hown, hts⟩ (m_X8_all l D cI cJ H.size g g2 g3 g4 g5 g6 g7 g8 g9 g10 g12 g13 g15 g16 g17 g19 g20 g21 g22 g23 g24 g25 g26 g27 g28 g33 g34 g35 g36 g37 g38 g39 g41 g42 g44 g45 mn ml mv 0 gi14 gi18 gi29 gi30 (nI tt) gi40 gi43 hmn) (cwV 0 hts gX8_step_X8_all rfl rfl rfl (by decide +kernel) ⟨Nat.le_of_ble_eq_true rfl, Nat.le_of_ble_eq_true rfl⟩) (k_preV hE hP hD [0] (by decide +kernel) rfl 0 rfl rfl) rfl rfl hl.1 rfl (lv_room (Nat.le_of_ble_eq_true rfl)) dX8_step_18 ⟨Nat.le_of_ble_eq_true rfl, Nat.le_of_ble_eq_true rfl⟩) hP hD hS hA [0] rfl (fun _ _ ⟨_, h9⟩ => h9) (fun r5 H locs hw6 hP hD hS => ?_)
    obtain ⟨rfl, -⟩ := hw6
    refine k_v (va_runV (As := [.int (nI lj), .int (nI (2 ^ mn - 1))]) (rest := []) ⟨hx, hb, hml, hown, hts⟩ (m_X8_settlesTo l D cI cJ H.size g g2 g3 g4 g5 g6 g7 g8 g9 g10 g12 g13 g15 g16 g17 g19 g20 g21 g22 g23 g24 g25 g26 g27 g28 g33 g34 g35 g36 g37 g38 g39 g41 g42 g44 g45 mn ml mv tt (lj + 1) 0 gi14 gi18 gi29 gi30 gi40 gi43 (nI lj) (nI (2 ^ mn - 1)) G2 G3 G4 G5 G6 G7 G8 G10 G12 G13 G19 G20 G21 G22 G23 G24 G25 G26 G27 G28 G33 G34 G35 G36 G37 li0 wo0 de0 ag0 (nI_pred lj).symm (by omega) hit hsu hliv hlib hwov hwob hdev hdeb hagv hagb hamt hLE hLO hLW hSH htt hmv) (cwV 2 hts gX8_step_X8_settlesTo rfl rfl rfl (by decide +kernel) ⟨Nat.le_of_ble_eq_true rfl, Nat.le_of_ble_eq_true rfl⟩) (k_preV hE hP hD [0, 1, 2, 3, 4, 5, 6, 7, 8, 9, 10, 11, 12, 13, 14, 15, 16, 17, 18, 19, 20, 21, 22, 23, 24, 25] (by decide +kernel) rfl 0 rfl rfl) rfl rfl hl.1 rfl (lv_room (Nat.le_of_ble_eq_true rfl)) dX8_step_21 ⟨Nat.le_of_ble_eq_true rfl, Nat.le_of_ble_eq_true rfl⟩) hP hD hS hA [0, 1, 2, 3, 4, 5, 6, 7, 8, 9, 10, 11, 12, 13, 14, 15, 16, 17, 18, 19, 20, 21, 22, 23, 24, 25] [] rfl (wr := []) rfl (by decide +kernel) (by decide +kernel) (fun u H locs hw7 hP hD hS => ?_)
    obtain ⟨z8, z9, z10, z11, z12, z13, z14, z15, z16, z17, z18, z19, z20, z21, z22, z23, z24, z25, z26, z27, hz28, hz29, hz30, hz31, hz32, hz33, hz34, rfl⟩ := hw7
    refine k_re (w := [(oX8 g 0 (nI mn) g2 g3 g4 g5 g6 g7 g8 g9 g10 (nI ml) g12 g13 gi14 g15 g16 g17 z25 g19 g20 g21 g22 g23 g24 g25 g26 g27 g28 z23 z24 (nI z26) (nI z27) g33 g34 g35 g36 g37 g38 g39 gi40 g41 g42 gi43 g44 g45), (aIc cI g2 8 G2), (aIc cI g3 8 G3), (aIc cI g4 8 G4), (aIc cI g5 8 G5), (aIc cI g6 8 G6), (aIc cI g7 8 G7), (aIc cI g8 8 G8), (aIc cI g10 64 G10), (aIc cI g12 10 G12), (aIc cI g13 10 G13), (aIc cI g19 8 z8), (aIc cI g20 8 z9), (aIc cI g21 8 z10), (aIc cI g22 8 z11), (aIc cI g23 8 z12), (aIc cI g24 8 z13), (aIc cI g25 8 z14), (aIc cI g26 8 z15), (aIc cI g27 8 z16), (aIc cI g28 8 z17), (aIc cI g33 8 z18), (aIc cI g34 8 z19), (aIc cI g35 8 z20), (aIc cI g36 8 z21), (aJc cJ g37 8 z22)]) hP hD (fun hP hD => ?_)
    refine lv_iload_n hx hb dX8_step_24 rfl (lv_at hl 2 rfl) ?_
    refine lv_i2l hx hb dX8_step_25 rfl ?_
    refine lv_lconst (v := 0) hx hb dX8_step_26 (by decide) ?_
    refine lv_aload_n hx hb dX8_step_27 rfl (lv_at hl 0 rfl) ?_
    refine va_get (D := D) (ci := 8) (v := .int (nI z26)) (C := RX8) (T := TX8) (N := 46) hx hb hts hiX8 hown hE.1 hP 0 rfl rfl 31 (by decide) (hts _ (List.mem_cons_of_mem _ wd_422)) (fun _ h9 => h9) rfl dX8_step_28 ?_
    refine lv_iconst (v := 1) hx hb dX8_step_31 (by decide) ?_
    refine lv_isub hx hb dX8_step_32 ?_
    refine lv_topi (fun v35 ev35 => ?_)
    refine lv_i2l hx hb dX8_step_33 rfl ?_
    refine k_iS (va_runS (As := [.long (Int32.toInt64 p1), .long 0, .long (Int32.toInt64 v35)]) (rest := []) ⟨hx, hb, hml, hown, hts⟩ (m_X8_in l D cI cJ H.size (Int32.toInt64 p1) 0 (Int32.toInt64 v35)) (va_cwS 3 hts gX8_step_X8_in rfl rfl rfl (by decide +kernel) ⟨Nat.le_of_ble_eq_true rfl, Nat.le_of_ble_eq_true rfl⟩) (k_pre hE hP hD [] (by decide +kernel) rfl) rfl rfl hl.1 rfl (lv_room (Nat.le_of_ble_eq_true rfl)) dX8_step_34 ⟨Nat.le_of_ble_eq_true rfl, Nat.le_of_ble_eq_true rfl⟩) hP hD hS hA [] rfl (fun _ _ h9 => h9.2) (fun r36 H locs hw37 hP hD hS => ?_)
    obtain ⟨hw37, -⟩ := hw37
    have hw38 : r36 = bz (0 ≤ p1 ∧ p1 ≤ v35) := by rw [hw37]; exact bz_c (w3 (a := p1) (lo := 0) (hi := v35) (by decide) rfl)
    refine lv_if_eq (tgt := 49) hx hb dX8_step_37 (by decide) (fun c39 => ?_) (fun c39 => ?_)
    · skip
      have hc39 : ¬ (0 ≤ p1 ∧ p1 ≤ v35) := bz_0 hw38 c39
      refine lv_iconst (v := (-1)) hx hb dX8_step_49 (by decide) ?_
      refine k_iret (u := [(oX8 g 0 (nI mn) g2 g3 g4 g5 g6 g7 g8 g9 g10 (nI ml) g12 g13 gi14 g15 g16 g17 z25 g19 g20 g21 g22 g23 g24 g25 g26 g27 g28 z23 z24 (nI z26) (nI z27) g33 g34 g35 g36 g37 g38 g39 gi40 g41 g42 gi43 g44 g45), (aIc cI g2 8 G2), (aIc cI g3 8 G3), (aIc cI g4 8 G4), (aIc cI g5 8 G5), (aIc cI g6 8 G6), (aIc cI g7 8 G7), (aIc cI g8 8 G8), (aIc cI g10 64 G10), (aIc cI g12 10 G12), (aIc cI g13 10 G13), (aIc cI g19 8 z8), (aIc cI g20 8 z9), (aIc cI g21 8 z10), (aIc cI g22 8 z11), (aIc cI g23 8 z12), (aIc cI g24 8 z13), (aIc cI g25 8 z14), (aIc cI g26 8 z15), (aIc cI g27 8 z16), (aIc cI g28 8 z17), (aIc cI g33 8 z18), (aIc cI g34 8 z19), (aIc cI g35 8 z20), (aIc cI g36 8 z21), (aJc cJ g37 8 z22)]) hx hb hr hlk hP hD hS dX8_step_50 ?_
      exact ⟨z8, z9, z10, z11, z12, z13, z14, z15, z16, z17, z18, z19, z20, z21, z22, z23, z24, z25, z26, z27, 0, hz28, hz29, hz30, hz31, hz32, hz33, rfl⟩
    · skip
      have hc39 : 0 ≤ p1 ∧ p1 ≤ v35 := bz_1 hw38 c39
      obtain ⟨qj, hqj, eqj⟩ := wi_n (n := z26) (by omega) (by rw [← ev35]; exact hc39)
      rw [eqj] at hl
      refine lv_aload_n hx hb dX8_step_40 rfl (lv_at hl 0 rfl) ?_
      refine va_get (D := D) (ci := 8) (v := .ref g34) (C := RX8) (T := TX8) (N := 46) hx hb hts hiX8 hown hE.1 hP 0 rfl rfl 34 (by decide) (hts _ (List.mem_cons_of_mem _ wd_141)) (fun _ h9 => h9) rfl dX8_step_41 ?_
      refine lv_iload_n hx hb dX8_step_44 rfl (lv_at hl 2 rfl) ?_
      refine va_iald hx hb hE.1 hP 22 0 rfl rfl (vp_in_nI (n := qj) (by omega) (by decide)) dX8_step_45 ?_
      refine lv_topi (fun v40 ev40 => ?_)
      refine lv_goto (tgt := 50) hx hb dX8_step_46 (by decide) ?_
      refine k_iret (u := [(oX8 g 0 (nI mn) g2 g3 g4 g5 g6 g7 g8 g9 g10 (nI ml) g12 g13 gi14 g15 g16 g17 z25 g19 g20 g21 g22 g23 g24 g25 g26 g27 g28 z23 z24 (nI z26) (nI z27) g33 g34 g35 g36 g37 g38 g39 gi40 g41 g42 gi43 g44 g45), (aIc cI g2 8 G2), (aIc cI g3 8 G3), (aIc cI g4 8 G4), (aIc cI g5 8 G5), (aIc cI g6 8 G6), (aIc cI g7 8 G7), (aIc cI g8 8 G8), (aIc cI g10 64 G10), (aIc cI g12 10 G12), (aIc cI g13 10 G13), (aIc cI g19 8 z8), (aIc cI g20 8 z9), (aIc cI g21 8 z10), (aIc cI g22 8 z11), (aIc cI g23 8 z12), (aIc cI g24 8 z13), (aIc cI g25 8 z14), (aIc cI g26 8 z15), (aIc cI g27 8 z16), (aIc cI g28 8 z17), (aIc cI g33 8 z18), (aIc cI g34 8 z19), (aIc cI g35 8 z20), (aIc cI g36 8 z21), (aJc cJ g37 8 z22)]) hx hb hr hlk hP hD hS dX8_step_50 ?_
      exact ⟨z8, z9, z10, z11, z12, z13, z14, z15, z16, z17, z18, z19, z20, z21, z22, z23, z24, z25, z26, z27, 0, hz28, hz29, hz30, hz31, hz32, hz33, rfl⟩
  · skip
    have hc4 : ¬ (0 ≤ p0 ∧ p0 ≤ nI ml - 1) := bz_0 hb3 c4
    refine lv_iconst (v := (-1)) hx hb dX8_step_13 (by decide) ?_
    refine k_iret (u := [(oX8 g 0 (nI mn) g2 g3 g4 g5 g6 g7 g8 g9 g10 (nI ml) g12 g13 gi14 g15 g16 g17 gi18 g19 g20 g21 g22 g23 g24 g25 g26 g27 g28 gi29 gi30 (nI mv) (nI tt) g33 g34 g35 g36 g37 g38 g39 gi40 g41 g42 gi43 g44 g45), (aIc cI g2 8 G2), (aIc cI g3 8 G3), (aIc cI g4 8 G4), (aIc cI g5 8 G5), (aIc cI g6 8 G6), (aIc cI g7 8 G7), (aIc cI g8 8 G8), (aIc cI g10 64 G10), (aIc cI g12 10 G12), (aIc cI g13 10 G13), (aIc cI g19 8 G19), (aIc cI g20 8 G20), (aIc cI g21 8 G21), (aIc cI g22 8 G22), (aIc cI g23 8 G23), (aIc cI g24 8 G24), (aIc cI g25 8 G25), (aIc cI g26 8 G26), (aIc cI g27 8 G27), (aIc cI g28 8 G28), (aIc cI g33 8 G33), (aIc cI g34 8 G34), (aIc cI g35 8 G35), (aIc cI g36 8 G36), (aJc cJ g37 8 G37)]) hx hb hr hlk hP hD hS dX8_step_14 ?_
    exact ⟨G19, G20, G21, G22, G23, G24, G25, G26, G27, G28, G33, G34, G35, G36, G37, gi29, gi30, gi18, mv, tt, 0, hLE, hLO, hLW, hSH, htt, hmv, rfl⟩
theorem dX8_level_0 : decode cX8_level 0 = .ok (.aload_n 0, 1) := by decide +kernel
theorem dX8_level_1 : decode cX8_level 1 = .ok (.iconst 0, 1) := by decide +kernel
theorem dX8_level_2 : decode cX8_level 2 = .ok (.putfield 116, 3) := by decide +kernel
theorem dX8_level_5 : decode cX8_level 5 = .ok (.aload_n 0, 1) := by decide +kernel
theorem dX8_level_6 : decode cX8_level 6 = .ok (.iload_n 1, 1) := by decide +kernel
theorem dX8_level_7 : decode cX8_level 7 = .ok (.invokevirtual 252, 3) := by decide +kernel
theorem dX8_level_10 : decode cX8_level 10 = .ok (.ifCond .ne 5, 3) := by decide +kernel
theorem dX8_level_13 : decode cX8_level 13 = .ok (.iconst (-1), 1) := by decide +kernel
theorem dX8_level_14 : decode cX8_level 14 = .ok (.ireturn, 1) := by decide +kernel
theorem dX8_level_15 : decode cX8_level 15 = .ok (.aload_n 0, 1) := by decide +kernel
theorem dX8_level_16 : decode cX8_level 16 = .ok (.iload_n 1, 1) := by decide +kernel
theorem dX8_level_17 : decode cX8_level 17 = .ok (.aload_n 0, 1) := by decide +kernel
theorem dX8_level_18 : decode cX8_level 18 = .ok (.invokevirtual 220, 3) := by decide +kernel
theorem dX8_level_21 : decode cX8_level 21 = .ok (.invokevirtual 224, 3) := by decide +kernel
theorem dX8_level_24 : decode cX8_level 24 = .ok (.iconst 0, 1) := by decide +kernel
theorem dX8_level_25 : decode cX8_level 25 = .ok (.istore_n 3, 1) := by decide +kernel
theorem dX8_level_26 : decode cX8_level 26 = .ok (.iconst 0, 1) := by decide +kernel
theorem dX8_level_27 : decode cX8_level 27 = .ok (.istore 4, 2) := by decide +kernel
theorem dX8_level_29 : decode cX8_level 29 = .ok (.iload 4, 2) := by decide +kernel
theorem dX8_level_31 : decode cX8_level 31 = .ok (.bipush 8, 2) := by decide +kernel
theorem dX8_level_33 : decode cX8_level 33 = .ok (.if_icmp .ge 43, 3) := by decide +kernel
theorem dX8_level_36 : decode cX8_level 36 = .ok (.iload_n 3, 1) := by decide +kernel
theorem dX8_level_37 : decode cX8_level 37 = .ok (.aload_n 0, 1) := by decide +kernel
theorem dX8_level_38 : decode cX8_level 38 = .ok (.getfield 162, 3) := by decide +kernel
theorem dX8_level_41 : decode cX8_level 41 = .ok (.iload 4, 2) := by decide +kernel
theorem dX8_level_43 : decode cX8_level 43 = .ok (.invokestatic 154, 3) := by decide +kernel
theorem dX8_level_46 : decode cX8_level 46 = .ok (.ifCond .eq 21, 3) := by decide +kernel
theorem dX8_level_49 : decode cX8_level 49 = .ok (.aload_n 0, 1) := by decide +kernel
theorem dX8_level_50 : decode cX8_level 50 = .ok (.getfield 70, 3) := by decide +kernel
theorem dX8_level_53 : decode cX8_level 53 = .ok (.iload 4, 2) := by decide +kernel
theorem dX8_level_55 : decode cX8_level 55 = .ok (.iaload, 1) := by decide +kernel
theorem dX8_level_56 : decode cX8_level 56 = .ok (.iload_n 2, 1) := by decide +kernel
theorem dX8_level_57 : decode cX8_level 57 = .ok (.if_icmp .ne 10, 3) := by decide +kernel
theorem dX8_level_60 : decode cX8_level 60 = .ok (.iconst 1, 1) := by decide +kernel
theorem dX8_level_61 : decode cX8_level 61 = .ok (.iload 4, 2) := by decide +kernel
theorem dX8_level_63 : decode cX8_level 63 = .ok (.ishl, 1) := by decide +kernel
theorem dX8_level_64 : decode cX8_level 64 = .ok (.goto 4, 3) := by decide +kernel
theorem dX8_level_67 : decode cX8_level 67 = .ok (.iconst 0, 1) := by decide +kernel
theorem dX8_level_68 : decode cX8_level 68 = .ok (.ior, 1) := by decide +kernel
theorem dX8_level_69 : decode cX8_level 69 = .ok (.istore_n 3, 1) := by decide +kernel
theorem dX8_level_70 : decode cX8_level 70 = .ok (.iinc 4 1, 3) := by decide +kernel
theorem dX8_level_73 : decode cX8_level 73 = .ok (.goto (-44), 3) := by decide +kernel
theorem dX8_level_76 : decode cX8_level 76 = .ok (.iload_n 2, 1) := by decide +kernel
theorem dX8_level_77 : decode cX8_level 77 = .ok (.i2l, 1) := by decide +kernel
theorem dX8_level_78 : decode cX8_level 78 = .ok (.lconst 0, 1) := by decide +kernel
theorem dX8_level_79 : decode cX8_level 79 = .ok (.aload_n 0, 1) := by decide +kernel
theorem dX8_level_80 : decode cX8_level 80 = .ok (.getfield 165, 3) := by decide +kernel
theorem dX8_level_83 : decode cX8_level 83 = .ok (.iconst 1, 1) := by decide +kernel
theorem dX8_level_84 : decode cX8_level 84 = .ok (.isub, 1) := by decide +kernel
theorem dX8_level_85 : decode cX8_level 85 = .ok (.i2l, 1) := by decide +kernel
theorem dX8_level_86 : decode cX8_level 86 = .ok (.invokestatic 123, 3) := by decide +kernel
theorem dX8_level_89 : decode cX8_level 89 = .ok (.ifCond .eq 7, 3) := by decide +kernel
theorem dX8_level_92 : decode cX8_level 92 = .ok (.iload_n 3, 1) := by decide +kernel
theorem dX8_level_93 : decode cX8_level 93 = .ok (.goto 4, 3) := by decide +kernel
theorem dX8_level_96 : decode cX8_level 96 = .ok (.iconst (-1), 1) := by decide +kernel
theorem dX8_level_97 : decode cX8_level 97 = .ok (.ireturn, 1) := by decide +kernel
theorem gX8_level_X8_all : GoodIn wtX8_level (wsV RX8 220 RX8 yX8_all wtX8_all) := tb_good (tb_v0 wd_413 wd_414 wd_415 wd_5 wd_416)
theorem gX8_level_X8_in : GoodIn wtX8_level (va_wsS RX8 123 yX8_in wtX8_in) := tb_good (tb_s0 wd_177 wd_178 wd_5 wd_179)
theorem gX8_level_X8_isLoss : GoodIn wtX8_level (wsV RX8 252 RX8 yX8_isLoss wtX8_isLoss) := tb_good (tb_v0 wd_554 wd_555 wd_556 wd_5 wd_557)
theorem gX8_level_X8_isOn : GoodIn wtX8_level (va_wsS RX8 154 yX8_isOn wtX8_isOn) := tb_good (tb_s0 wd_423 wd_424 wd_5 wd_425)
theorem gX8_level_X8_settlesTo : GoodIn wtX8_level (wsV RX8 224 RX8 yX8_settlesTo wtX8_settlesTo) := tb_good (tb_v0 wd_482 wd_483 wd_484 wd_5 wd_485)
set_option maxHeartbeats 4000000 in
set_option maxRecDepth 100000 in
theorem m_X8_level (l : Launch) (D : va_G) (cI cJ : ClassId) (sz : Nat) (g g2 g3 g4 g5 g6 g7 g8 g9 g10 g12 g13 g15 g16 g17 g19 g20 g21 g22 g23 g24 g25 g26 g27 g28 g33 g34 g35 g36 g37 g38 g39 g41 g42 g44 g45 mn ml mv tt : Nat) (gi0 gi14 gi18 gi29 gi30 gi40 gi43 p0 p1 : Int32) (G2 G3 G4 G5 G6 G7 G8 G10 G12 G13 G19 G20 G21 G22 G23 G24 G25 G26 G27 G28 G33 G34 G35 G36 : Nat → Int32) (G37 : Nat → Int64) (li0 wo0 de0 ag0 : Nat → Nat) (hmn : mn ≤ 8) (hmL : ml ≤ 10) (hit : ∀ k, k < 10 → ∃ j : Nat, j < 8 ∧ G12 k = nI j) (hsu : ∀ k, k < 64 → ∃ j : Nat, j ≤ 1000001 ∧ G10 k = nI j) (hliv : nv G2 li0) (hlib : ∀ k, k < 8 → li0 k ≤ 1000000) (hwov : nv G5 wo0) (hwob : ∀ k, k < 8 → wo0 k ≤ 9000000) (hdev : nv G4 de0) (hdeb : ∀ k, k < 8 → de0 k ≤ 99999) (hagv : nv G3 ag0) (hagb : ∀ k, k < 8 → ag0 k ≤ 9000000) (hamt : ∀ k, k < 10 → ∃ j : Nat, j < 1000001 ∧ G13 k = nI j) (hLE : LE G19) (hLO : LO G20) (hLW : LW G25) (hSH : SH G27 tt) (htt : tt ≤ 1000000) (hmv : mv ≤ 8) : Met l yX8_level wtX8_level { frames := 8, cells := 0, slots := 0, locals := 189 } (cPc D cI cJ [.ref g, .int p0, .int p1] sz [(oX8 g gi0 (nI mn) g2 g3 g4 g5 g6 g7 g8 g9 g10 (nI ml) g12 g13 gi14 g15 g16 g17 gi18 g19 g20 g21 g22 g23 g24 g25 g26 g27 g28 gi29 gi30 (nI mv) (nI tt) g33 g34 g35 g36 g37 g38 g39 gi40 g41 g42 gi43 g44 g45), (aIc cI g2 8 G2), (aIc cI g3 8 G3), (aIc cI g4 8 G4), (aIc cI g5 8 G5), (aIc cI g6 8 G6), (aIc cI g7 8 G7), (aIc cI g8 8 G8), (aIc cI g10 64 G10), (aIc cI g12 10 G12), (aIc cI g13 10 G13), (aIc cI g19 8 G19), (aIc cI g20 8 G20), (aIc cI g21 8 G21), (aIc cI g22 8 G22), (aIc cI g23 8 G23), (aIc cI g24 8 G24), (aIc cI g25 8 G25), (aIc cI g26 8 G26), (aIc cI g27 8 G27), (aIc cI g28 8 G28), (aIc cI g33 8 G33), (aIc cI g34 8 G34), (aIc cI g35 8 G35), (aIc cI g36 8 G36), (aJc cJ g37 8 G37)]) (cQi D (fun r u => ∃ (G19p G20p G21p G22p G23p G24p G25p G26p G27p G28p G33p G34p G35p G36p : Nat → Int32) (G37p : Nat → Int64) (gi29p gi30p gi18p : Int32) (mvp ttp : Nat) (gi0p : Int32), (LE G19p) ∧ (LO G20p) ∧ (LW G25p) ∧ (SH G27p ttp) ∧ (ttp ≤ 1000000) ∧ (mvp ≤ 8) ∧ u = [(oX8 g gi0p (nI mn) g2 g3 g4 g5 g6 g7 g8 g9 g10 (nI ml) g12 g13 gi14 g15 g16 g17 gi18p g19 g20 g21 g22 g23 g24 g25 g26 g27 g28 gi29p gi30p (nI mvp) (nI ttp) g33 g34 g35 g36 g37 g38 g39 gi40 g41 g42 gi43 g44 g45), (aIc cI g2 8 G2), (aIc cI g3 8 G3), (aIc cI g4 8 G4), (aIc cI g5 8 G5), (aIc cI g6 8 G6), (aIc cI g7 8 G7), (aIc cI g8 8 G8), (aIc cI g10 64 G10), (aIc cI g12 10 G12), (aIc cI g13 10 G13), (aIc cI g19 8 G19p), (aIc cI g20 8 G20p), (aIc cI g21 8 G21p), (aIc cI g22 8 G22p), (aIc cI g23 8 G23p), (aIc cI g24 8 G24p), (aIc cI g25 8 G25p), (aIc cI g26 8 G26p), (aIc cI g27 8 G27p), (aIc cI g28 8 G28p), (aIc cI g33 8 G33p), (aIc cI g34 8 G34p), (aIc cI g35 8 G35p), (aIc cI g36 8 G36p), (aJc cJ g37 8 G37p)]) (va_A [(oX8 g gi0 (nI mn) g2 g3 g4 g5 g6 g7 g8 g9 g10 (nI ml) g12 g13 gi14 g15 g16 g17 gi18 g19 g20 g21 g22 g23 g24 g25 g26 g27 g28 gi29 gi30 (nI mv) (nI tt) g33 g34 g35 g36 g37 g38 g39 gi40 g41 g42 gi43 g44 g45), (aIc cI g2 8 G2), (aIc cI g3 8 G3), (aIc cI g4 8 G4), (aIc cI g5 8 G5), (aIc cI g6 8 G6), (aIc cI g7 8 G7), (aIc cI g8 8 G8), (aIc cI g10 64 G10), (aIc cI g12 10 G12), (aIc cI g13 10 G13), (aIc cI g19 8 G19), (aIc cI g20 8 G20), (aIc cI g21 8 G21), (aIc cI g22 8 G22), (aIc cI g23 8 G23), (aIc cI g24 8 G24), (aIc cI g25 8 G25), (aIc cI g26 8 G26), (aIc cI g27 8 G27), (aIc cI g28 8 G28), (aIc cI g33 8 G33), (aIc cI g34 8 G34), (aIc cI g35 8 G35), (aIc cI g36 8 G36), (aJc cJ g37 8 G37)] sz)) 0 0 (va_A [(oX8 g gi0 (nI mn) g2 g3 g4 g5 g6 g7 g8 g9 g10 (nI ml) g12 g13 gi14 g15 g16 g17 gi18 g19 g20 g21 g22 g23 g24 g25 g26 g27 g28 gi29 gi30 (nI mv) (nI tt) g33 g34 g35 g36 g37 g38 g39 gi40 g41 g42 gi43 g44 g45), (aIc cI g2 8 G2), (aIc cI g3 8 G3), (aIc cI g4 8 G4), (aIc cI g5 8 G5), (aIc cI g6 8 G6), (aIc cI g7 8 G7), (aIc cI g8 8 G8), (aIc cI g10 64 G10), (aIc cI g12 10 G12), (aIc cI g13 10 G13), (aIc cI g19 8 G19), (aIc cI g20 8 G20), (aIc cI g21 8 G21), (aIc cI g22 8 G22), (aIc cI g23 8 G23), (aIc cI g24 8 G24), (aIc cI g25 8 G25), (aIc cI g26 8 G26), (aIc cI g27 8 G27), (aIc cI g28 8 G28), (aIc cI g33 8 G33), (aIc cI g34 8 G34), (aIc cI g35 8 G35), (aIc cI g36 8 G36), (aJc cJ g37 8 G37)] sz) := by
  refine k_ofW (Qc := cQi D (fun r u => ∃ (G19p G20p G21p G22p G23p G24p G25p G26p G27p G28p G33p G34p G35p G36p : Nat → Int32) (G37p : Nat → Int64) (gi29p gi30p gi18p : Int32) (mvp ttp : Nat) (gi0p : Int32), (LE G19p) ∧ (LO G20p) ∧ (LW G25p) ∧ (SH G27p ttp) ∧ (ttp ≤ 1000000) ∧ (mvp ≤ 8) ∧ u = [(oX8 g gi0p (nI mn) g2 g3 g4 g5 g6 g7 g8 g9 g10 (nI ml) g12 g13 gi14 g15 g16 g17 gi18p g19 g20 g21 g22 g23 g24 g25 g26 g27 g28 gi29p gi30p (nI mvp) (nI ttp) g33 g34 g35 g36 g37 g38 g39 gi40 g41 g42 gi43 g44 g45), (aIc cI g2 8 G2), (aIc cI g3 8 G3), (aIc cI g4 8 G4), (aIc cI g5 8 G5), (aIc cI g6 8 G6), (aIc cI g7 8 G7), (aIc cI g8 8 G8), (aIc cI g10 64 G10), (aIc cI g12 10 G12), (aIc cI g13 10 G13), (aIc cI g19 8 G19p), (aIc cI g20 8 G20p), (aIc cI g21 8 G21p), (aIc cI g22 8 G22p), (aIc cI g23 8 G23p), (aIc cI g24 8 G24p), (aIc cI g25 8 G25p), (aIc cI g26 8 G26p), (aIc cI g27 8 G27p), (aIc cI g28 8 G28p), (aIc cI g33 8 G33p), (aIc cI g34 8 G34p), (aIc cI g35 8 G35p), (aIc cI g36 8 G36p), (aJc cJ g37 8 G37p)])) (by decide) rfl (Nat.le_of_ble_eq_true rfl) ?_
  intro p e s m below meth c A ls hx hb hr hml hts hown hlk hnm hsz hE hP hD hS hA hl
  have hown : s.vm.findClass RX8 = some m.cls := hown
  have hiX8 : ∀ w ∈ u_ws RX8 TX8 46, w ∈ wtX8_level := fun w h => List.mem_cons_of_mem _ (iuX8 w h)
  have hl : lv_has ls 5 [(0, .ref g), (1, .int p0), (2, .int p1)] := hl
  refine lv_aload_n hx hb dX8_level_0 rfl (lv_at hl 0 rfl) ?_
  refine lv_iconst (v := 0) hx hb dX8_level_1 (by decide) ?_
  refine va_put (D := D) (ci := 8) (v := .int 0) (ty := .int) (C := RX8) (T := TX8) (N := 46) hx hb hts hiX8 tyX8 tyX8_ok nmX8 hown hE.1 hP hD hS 0 rfl rfl 0 (by decide) (hts _ (List.mem_cons_of_mem _ wd_171)) (fun _ h9 => h9) rfl (by decide +kernel) rfl rfl (Nat.le_of_ble_eq_true rfl) dX8_level_2 (fun H locs hP hD hS => ?_)
  refine k_re (w := [(oX8 g 0 (nI mn) g2 g3 g4 g5 g6 g7 g8 g9 g10 (nI ml) g12 g13 gi14 g15 g16 g17 gi18 g19 g20 g21 g22 g23 g24 g25 g26 g27 g28 gi29 gi30 (nI mv) (nI tt) g33 g34 g35 g36 g37 g38 g39 gi40 g41 g42 gi43 g44 g45), (aIc cI g2 8 G2), (aIc cI g3 8 G3), (aIc cI g4 8 G4), (aIc cI g5 8 G5), (aIc cI g6 8 G6), (aIc cI g7 8 G7), (aIc cI g8 8 G8), (aIc cI g10 64 G10), (aIc cI g12 10 G12), (aIc cI g13 10 G13), (aIc cI g19 8 G19), (aIc cI g20 8 G20), (aIc cI g21 8 G21), (aIc cI g22 8 G22), (aIc cI g23 8 G23), (aIc cI g24 8 G24), (aIc cI g25 8 G25), (aIc cI g26 8 G26), (aIc cI g27 8 G27), (aIc cI g28 8 G28), (aIc cI g33 8 G33), (aIc cI g34 8 G34), (aIc cI g35 8 G35), (aIc cI g36 8 G36), (aJc cJ g37 8 G37)]) hP hD (fun hP hD => ?_)
  refine lv_aload_n hx hb dX8_level_5 rfl (lv_at hl 0 rfl) ?_
  refine lv_iload_n hx hb dX8_level_6 rfl (lv_at hl 1 rfl) ?_
  refine k_iS (va_runV (As := [.int p0]) (rest := []) ⟨hx, hb, hml, hown, hts⟩ (m_X8_isLoss l D cI cJ H.size g g2 g3 g4 g5 g6 g7 g8 g9 g10 g12 g13 g15 g16 g17 g19 g20 g21 g22 g23 g24 g25 g26 g27 g28 g33 g34 g35 g36 g37 g38 g39 g41 g42 g44 g45 mn ml mv 0 gi14 gi18 gi29 gi30 (nI tt) gi40 gi43 p0) (cwV 1 hts gX8_level_X8_isLoss rfl rfl rfl (by decide +kernel) ⟨Nat.le_of_ble_eq_true rfl, Nat.le_of_ble_eq_true rfl⟩) (k_preV hE hP hD [0] (by decide +kernel) rfl 0 rfl rfl) rfl rfl hl.1 rfl (lv_room (Nat.le_of_ble_eq_true rfl)) dX8_level_7 ⟨Nat.le_of_ble_eq_true rfl, Nat.le_of_ble_eq_true rfl⟩) hP hD hS hA [0] rfl (fun _ _ ⟨_, h9⟩ => h9) (fun r1 H locs hw2 hP hD hS => ?_)
  obtain ⟨hb3, -⟩ := hw2
  refine lv_if_ne (tgt := 15) hx hb dX8_level_10 (by decide) (fun c4 => ?_) (fun c4 => ?_)
  · skip
    have hc4 : 0 ≤ p0 ∧ p0 ≤ nI ml - 1 := bz_1 hb3 c4
    obtain ⟨lj, hlj, elj⟩ := wi_n (by omega) hc4
    rw [elj] at hl
    refine lv_aload_n hx hb dX8_level_15 rfl (lv_at hl 0 rfl) ?_
    refine lv_iload_n hx hb dX8_level_16 rfl (lv_at hl 1 rfl) ?_
    refine lv_aload_n hx hb dX8_level_17 rfl (lv_at hl 0 rfl) ?_
    refine k_iS (va_runV (As := []) (rest := [.int (nI lj), .ref g]) ⟨hx, hb, hml, hown, hts⟩ (m_X8_all l D cI cJ H.size g g2 g3 g4 g5 g6 g7 g8 g9 g10 g12 g13 g15 g16 g17 g19 g20 g21 g22 g23 g24 g25 g26 g27 g28 g33 g34 g35 g36 g37 g38 g39 g41 g42 g44 g45 mn ml mv 0 gi14 gi18 gi29 gi30 (nI tt) gi40 gi43 hmn) (cwV 0 hts gX8_level_X8_all rfl rfl rfl (by decide +kernel) ⟨Nat.le_of_ble_eq_true rfl, Nat.le_of_ble_eq_true rfl⟩) (k_preV hE hP hD [0] (by decide +kernel) rfl 0 rfl rfl) rfl rfl hl.1 rfl (lv_room (Nat.le_of_ble_eq_true rfl)) dX8_level_18 ⟨Nat.le_of_ble_eq_true rfl, Nat.le_of_ble_eq_true rfl⟩) hP hD hS hA [0] rfl (fun _ _ ⟨_, h9⟩ => h9) (fun r5 H locs hw6 hP hD hS => ?_)
    obtain ⟨rfl, -⟩ := hw6
    refine k_v (va_runV (As := [.int (nI lj), .int (nI (2 ^ mn - 1))]) (rest := []) ⟨hx, hb, hml, hown, hts⟩ (m_X8_settlesTo l D cI cJ H.size g g2 g3 g4 g5 g6 g7 g8 g9 g10 g12 g13 g15 g16 g17 g19 g20 g21 g22 g23 g24 g25 g26 g27 g28 g33 g34 g35 g36 g37 g38 g39 g41 g42 g44 g45 mn ml mv tt (lj + 1) 0 gi14 gi18 gi29 gi30 gi40 gi43 (nI lj) (nI (2 ^ mn - 1)) G2 G3 G4 G5 G6 G7 G8 G10 G12 G13 G19 G20 G21 G22 G23 G24 G25 G26 G27 G28 G33 G34 G35 G36 G37 li0 wo0 de0 ag0 (nI_pred lj).symm (by omega) hit hsu hliv hlib hwov hwob hdev hdeb hagv hagb hamt hLE hLO hLW hSH htt hmv) (cwV 2 hts gX8_level_X8_settlesTo rfl rfl rfl (by decide +kernel) ⟨Nat.le_of_ble_eq_true rfl, Nat.le_of_ble_eq_true rfl⟩) (k_preV hE hP hD [0, 1, 2, 3, 4, 5, 6, 7, 8, 9, 10, 11, 12, 13, 14, 15, 16, 17, 18, 19, 20, 21, 22, 23, 24, 25] (by decide +kernel) rfl 0 rfl rfl) rfl rfl hl.1 rfl (lv_room (Nat.le_of_ble_eq_true rfl)) dX8_level_21 ⟨Nat.le_of_ble_eq_true rfl, Nat.le_of_ble_eq_true rfl⟩) hP hD hS hA [0, 1, 2, 3, 4, 5, 6, 7, 8, 9, 10, 11, 12, 13, 14, 15, 16, 17, 18, 19, 20, 21, 22, 23, 24, 25] [] rfl (wr := []) rfl (by decide +kernel) (by decide +kernel) (fun u H locs hw7 hP hD hS => ?_)
    obtain ⟨z8, z9, z10, z11, z12, z13, z14, z15, z16, z17, z18, z19, z20, z21, z22, z23, z24, z25, z26, z27, hz28, hz29, hz30, hz31, hz32, hz33, hz34, rfl⟩ := hw7
    refine k_re (w := [(oX8 g 0 (nI mn) g2 g3 g4 g5 g6 g7 g8 g9 g10 (nI ml) g12 g13 gi14 g15 g16 g17 z25 g19 g20 g21 g22 g23 g24 g25 g26 g27 g28 z23 z24 (nI z26) (nI z27) g33 g34 g35 g36 g37 g38 g39 gi40 g41 g42 gi43 g44 g45), (aIc cI g2 8 G2), (aIc cI g3 8 G3), (aIc cI g4 8 G4), (aIc cI g5 8 G5), (aIc cI g6 8 G6), (aIc cI g7 8 G7), (aIc cI g8 8 G8), (aIc cI g10 64 G10), (aIc cI g12 10 G12), (aIc cI g13 10 G13), (aIc cI g19 8 z8), (aIc cI g20 8 z9), (aIc cI g21 8 z10), (aIc cI g22 8 z11), (aIc cI g23 8 z12), (aIc cI g24 8 z13), (aIc cI g25 8 z14), (aIc cI g26 8 z15), (aIc cI g27 8 z16), (aIc cI g28 8 z17), (aIc cI g33 8 z18), (aIc cI g34 8 z19), (aIc cI g35 8 z20), (aIc cI g36 8 z21), (aJc cJ g37 8 z22)]) hP hD (fun hP hD => ?_)
    refine lv_iconst (v := 0) hx hb dX8_level_24 (by decide) ?_
    refine lv_istore_n (lv' := [(3, .int 0), (0, .ref g), (1, .int (nI lj)), (2, .int p1)]) hx hb dX8_level_25 rfl hl (by decide) rfl (fun ls hl => ?_)
    refine lv_iconst (v := 0) hx hb dX8_level_26 (by decide) ?_
    refine lv_istore (lv' := [(4, .int 0), (3, .int 0), (0, .ref g), (1, .int (nI lj)), (2, .int p1)]) hx hb dX8_level_27 hl (by decide) rfl (fun ls hl => ?_)
    have J29 : ∀ (zz : Nat) (i29 : Nat) (h3_29 : Int32), (i29 ≤ 8) → (8 - i29) < zz → ∀ (H : Heap) (locs : List Loc) (ls : Array Slot), va_P D vwCl [(oX8 g 0 (nI mn) g2 g3 g4 g5 g6 g7 g8 g9 g10 (nI ml) g12 g13 gi14 g15 g16 g17 z25 g19 g20 g21 g22 g23 g24 g25 g26 g27 g28 z23 z24 (nI z26) (nI z27) g33 g34 g35 g36 g37 g38 g39 gi40 g41 g42 gi43 g44 g45), (aIc cI g2 8 G2), (aIc cI g3 8 G3), (aIc cI g4 8 G4), (aIc cI g5 8 G5), (aIc cI g6 8 G6), (aIc cI g7 8 G7), (aIc cI g8 8 G8), (aIc cI g10 64 G10), (aIc cI g12 10 G12), (aIc cI g13 10 G13), (aIc cI g19 8 z8), (aIc cI g20 8 z9), (aIc cI g21 8 z10), (aIc cI g22 8 z11), (aIc cI g23 8 z12), (aIc cI g24 8 z13), (aIc cI g25 8 z14), (aIc cI g26 8 z15), (aIc cI g27 8 z16), (aIc cI g28 8 z17), (aIc cI g33 8 z18), (aIc cI g34 8 z19), (aIc cI g35 8 z20), (aIc cI g36 8 z21), (aJc cJ g37 8 z22)] H → va_D A [(oX8 g 0 (nI mn) g2 g3 g4 g5 g6 g7 g8 g9 g10 (nI ml) g12 g13 gi14 g15 g16 g17 z25 g19 g20 g21 g22 g23 g24 g25 g26 g27 g28 z23 z24 (nI z26) (nI z27) g33 g34 g35 g36 g37 g38 g39 gi40 g41 g42 gi43 g44 g45), (aIc cI g2 8 G2), (aIc cI g3 8 G3), (aIc cI g4 8 G4), (aIc cI g5 8 G5), (aIc cI g6 8 G6), (aIc cI g7 8 G7), (aIc cI g8 8 G8), (aIc cI g10 64 G10), (aIc cI g12 10 G12), (aIc cI g13 10 G13), (aIc cI g19 8 z8), (aIc cI g20 8 z9), (aIc cI g21 8 z10), (aIc cI g22 8 z11), (aIc cI g23 8 z12), (aIc cI g24 8 z13), (aIc cI g25 8 z14), (aIc cI g26 8 z15), (aIc cI g27 8 z16), (aIc cI g28 8 z17), (aIc cI g33 8 z18), (aIc cI g34 8 z19), (aIc cI g35 8 z20), (aIc cI g36 8 z21), (aJc cJ g37 8 z22)] → va_S A s.heap H locs → lv_has ls 5 [(4, .int (nI i29)), (3, .int h3_29), (0, .ref g), (1, .int (nI lj)), (2, .int p1)] → W p l e { frames := 8, cells := 0, slots := 0, locals := 189 } s m [.ref g, .int p0, .int p1].toArray below meth c H locs 0 0 (MQ below (cQi D (fun r u => ∃ (G19p G20p G21p G22p G23p G24p G25p G26p G27p G28p G33p G34p G35p G36p : Nat → Int32) (G37p : Nat → Int64) (gi29p gi30p gi18p : Int32) (mvp ttp : Nat) (gi0p : Int32), (LE G19p) ∧ (LO G20p) ∧ (LW G25p) ∧ (SH G27p ttp) ∧ (ttp ≤ 1000000) ∧ (mvp ≤ 8) ∧ u = [(oX8 g gi0p (nI mn) g2 g3 g4 g5 g6 g7 g8 g9 g10 (nI ml) g12 g13 gi14 g15 g16 g17 gi18p g19 g20 g21 g22 g23 g24 g25 g26 g27 g28 gi29p gi30p (nI mvp) (nI ttp) g33 g34 g35 g36 g37 g38 g39 gi40 g41 g42 gi43 g44 g45), (aIc cI g2 8 G2), (aIc cI g3 8 G3), (aIc cI g4 8 G4), (aIc cI g5 8 G5), (aIc cI g6 8 G6), (aIc cI g7 8 G7), (aIc cI g8 8 G8), (aIc cI g10 64 G10), (aIc cI g12 10 G12), (aIc cI g13 10 G13), (aIc cI g19 8 G19p), (aIc cI g20 8 G20p), (aIc cI g21 8 G21p), (aIc cI g22 8 G22p), (aIc cI g23 8 G23p), (aIc cI g24 8 G24p), (aIc cI g25 8 G25p), (aIc cI g26 8 G26p), (aIc cI g27 8 G27p), (aIc cI g28 8 G28p), (aIc cI g33 8 G33p), (aIc cI g34 8 G34p), (aIc cI g35 8 G35p), (aIc cI g36 8 G36p), (aJc cJ g37 8 G37p)]) A) [.ref g, .int p0, .int p1].toArray s 0 0 A) (F0 m 29 ls []) := by
      intro zz
      induction zz with
      | zero => intro i29 h3_29 _; exact fun h => absurd h (Nat.not_lt_zero _)
      | succ zz ih29 =>
        intro i29 h3_29 hc4_29 hmu29 H locs ls hP hD hS hl
        refine lv_iload hx hb dX8_level_29 (lv_at hl 0 rfl) ?_
        refine lv_bipush (v := 8) hx hb dX8_level_31 (by decide) ?_
        refine lv_icmp_ge (tgt := 76) hx hb dX8_level_33 (by decide) (fun c35 => ?_) (fun c35 => ?_)
        · skip
          have nc35 : 8 ≤ i29 := (nI_leI (a := 8) (b := i29) (by omega) (by omega)).mp c35
          refine lv_iload_n hx hb dX8_level_76 rfl (lv_at hl 4 rfl) ?_
          refine lv_i2l hx hb dX8_level_77 rfl ?_
          refine lv_lconst (v := 0) hx hb dX8_level_78 (by decide) ?_
          refine lv_aload_n hx hb dX8_level_79 rfl (lv_at hl 2 rfl) ?_
          refine va_get (D := D) (ci := 8) (v := .int (nI z26)) (C := RX8) (T := TX8) (N := 46) hx hb hts hiX8 hown hE.1 hP 0 rfl rfl 31 (by decide) (hts _ (List.mem_cons_of_mem _ wd_422)) (fun _ h9 => h9) rfl dX8_level_80 ?_
          refine lv_iconst (v := 1) hx hb dX8_level_83 (by decide) ?_
          refine lv_isub hx hb dX8_level_84 ?_
          refine lv_topi (fun v36 ev36 => ?_)
          refine lv_i2l hx hb dX8_level_85 rfl ?_
          refine k_iS (va_runS (As := [.long (Int32.toInt64 p1), .long 0, .long (Int32.toInt64 v36)]) (rest := []) ⟨hx, hb, hml, hown, hts⟩ (m_X8_in l D cI cJ H.size (Int32.toInt64 p1) 0 (Int32.toInt64 v36)) (va_cwS 3 hts gX8_level_X8_in rfl rfl rfl (by decide +kernel) ⟨Nat.le_of_ble_eq_true rfl, Nat.le_of_ble_eq_true rfl⟩) (k_pre hE hP hD [] (by decide +kernel) rfl) rfl rfl hl.1 rfl (lv_room (Nat.le_of_ble_eq_true rfl)) dX8_level_86 ⟨Nat.le_of_ble_eq_true rfl, Nat.le_of_ble_eq_true rfl⟩) hP hD hS hA [] rfl (fun _ _ h9 => h9.2) (fun r37 H locs hw38 hP hD hS => ?_)
          obtain ⟨hw38, -⟩ := hw38
          have hw39 : r37 = bz (0 ≤ p1 ∧ p1 ≤ v36) := by rw [hw38]; exact bz_c (w3 (a := p1) (lo := 0) (hi := v36) (by decide) rfl)
          refine lv_if_eq (tgt := 96) hx hb dX8_level_89 (by decide) (fun c40 => ?_) (fun c40 => ?_)
          · skip
            have hc40 : ¬ (0 ≤ p1 ∧ p1 ≤ v36) := bz_0 hw39 c40
            refine lv_iconst (v := (-1)) hx hb dX8_level_96 (by decide) ?_
            refine k_iret (u := [(oX8 g 0 (nI mn) g2 g3 g4 g5 g6 g7 g8 g9 g10 (nI ml) g12 g13 gi14 g15 g16 g17 z25 g19 g20 g21 g22 g23 g24 g25 g26 g27 g28 z23 z24 (nI z26) (nI z27) g33 g34 g35 g36 g37 g38 g39 gi40 g41 g42 gi43 g44 g45), (aIc cI g2 8 G2), (aIc cI g3 8 G3), (aIc cI g4 8 G4), (aIc cI g5 8 G5), (aIc cI g6 8 G6), (aIc cI g7 8 G7), (aIc cI g8 8 G8), (aIc cI g10 64 G10), (aIc cI g12 10 G12), (aIc cI g13 10 G13), (aIc cI g19 8 z8), (aIc cI g20 8 z9), (aIc cI g21 8 z10), (aIc cI g22 8 z11), (aIc cI g23 8 z12), (aIc cI g24 8 z13), (aIc cI g25 8 z14), (aIc cI g26 8 z15), (aIc cI g27 8 z16), (aIc cI g28 8 z17), (aIc cI g33 8 z18), (aIc cI g34 8 z19), (aIc cI g35 8 z20), (aIc cI g36 8 z21), (aJc cJ g37 8 z22)]) hx hb hr hlk hP hD hS dX8_level_97 ?_
            exact ⟨z8, z9, z10, z11, z12, z13, z14, z15, z16, z17, z18, z19, z20, z21, z22, z23, z24, z25, z26, z27, 0, hz28, hz29, hz30, hz31, hz32, hz33, rfl⟩
          · skip
            have hc40 : 0 ≤ p1 ∧ p1 ≤ v36 := bz_1 hw39 c40
            refine lv_iload_n hx hb dX8_level_92 rfl (lv_at hl 1 rfl) ?_
            refine lv_goto (tgt := 97) hx hb dX8_level_93 (by decide) ?_
            refine k_iret (u := [(oX8 g 0 (nI mn) g2 g3 g4 g5 g6 g7 g8 g9 g10 (nI ml) g12 g13 gi14 g15 g16 g17 z25 g19 g20 g21 g22 g23 g24 g25 g26 g27 g28 z23 z24 (nI z26) (nI z27) g33 g34 g35 g36 g37 g38 g39 gi40 g41 g42 gi43 g44 g45), (aIc cI g2 8 G2), (aIc cI g3 8 G3), (aIc cI g4 8 G4), (aIc cI g5 8 G5), (aIc cI g6 8 G6), (aIc cI g7 8 G7), (aIc cI g8 8 G8), (aIc cI g10 64 G10), (aIc cI g12 10 G12), (aIc cI g13 10 G13), (aIc cI g19 8 z8), (aIc cI g20 8 z9), (aIc cI g21 8 z10), (aIc cI g22 8 z11), (aIc cI g23 8 z12), (aIc cI g24 8 z13), (aIc cI g25 8 z14), (aIc cI g26 8 z15), (aIc cI g27 8 z16), (aIc cI g28 8 z17), (aIc cI g33 8 z18), (aIc cI g34 8 z19), (aIc cI g35 8 z20), (aIc cI g36 8 z21), (aJc cJ g37 8 z22)]) hx hb hr hlk hP hD hS dX8_level_97 ?_
            exact ⟨z8, z9, z10, z11, z12, z13, z14, z15, z16, z17, z18, z19, z20, z21, z22, z23, z24, z25, z26, z27, 0, hz28, hz29, hz30, hz31, hz32, hz33, rfl⟩
        · skip
          have nc35 : ¬ 8 ≤ i29 := fun q9 => c35 ((nI_leI (a := 8) (b := i29) (by omega) (by omega)).mpr q9)
          refine lv_iload_n hx hb dX8_level_36 rfl (lv_at hl 1 rfl) ?_
          refine lv_aload_n hx hb dX8_level_37 rfl (lv_at hl 2 rfl) ?_
          refine va_get (D := D) (ci := 8) (v := .int z23) (C := RX8) (T := TX8) (N := 46) hx hb hts hiX8 hown hE.1 hP 0 rfl rfl 29 (by decide) (hts _ (List.mem_cons_of_mem _ wd_421)) (fun _ h9 => h9) rfl dX8_level_38 ?_
          refine lv_iload hx hb dX8_level_41 (lv_at hl 0 rfl) ?_
          refine k_iS (va_runS (As := [.int z23, .int (nI i29)]) (rest := [.int h3_29]) ⟨hx, hb, hml, hown, hts⟩ (m_X8_isOn l D cI cJ H.size z23 (nI i29)) (va_cwS 2 hts gX8_level_X8_isOn rfl rfl rfl (by decide +kernel) ⟨Nat.le_of_ble_eq_true rfl, Nat.le_of_ble_eq_true rfl⟩) (k_pre hE hP hD [] (by decide +kernel) rfl) rfl rfl hl.1 rfl (lv_room (Nat.le_of_ble_eq_true rfl)) dX8_level_43 ⟨Nat.le_of_ble_eq_true rfl, Nat.le_of_ble_eq_true rfl⟩) hP hD hS hA [] rfl (fun _ _ h9 => h9.2) (fun r41 H locs hw42 hP hD hS => ?_)
          obtain ⟨hw42, -⟩ := hw42
          refine lv_if_eq (tgt := 67) hx hb dX8_level_46 (by decide) (fun c43 => ?_) (fun c43 => ?_)
          · skip
            have hc43 : ¬ ((z23 >>> ((nI i29) &&& 31)) &&& 1 = 1) := bz_0 hw42 c43
            refine lv_iconst (v := 0) hx hb dX8_level_67 (by decide) ?_
            refine lv_ior hx hb dX8_level_68 ?_
            refine lv_topi (fun v44 ev44 => ?_)
            refine lv_istore_n (lv' := [(3, .int v44), (4, .int (nI i29)), (0, .ref g), (1, .int (nI lj)), (2, .int p1)]) hx hb dX8_level_69 rfl hl (by decide) rfl (fun ls hl => ?_)
            refine lv_iinc (v := (nI (i29 + 1))) (lv' := [(4, .int (nI (i29 + 1))), (3, .int v44), (0, .ref g), (1, .int (nI lj)), (2, .int p1)]) hx hb dX8_level_70 hl (k := 1) rfl (nI_1 _) (by decide) rfl (fun ls hl => ?_)
            refine lv_goto (tgt := 29) hx hb dX8_level_73 (by decide) ?_
            exact ih29 (i29 + 1) v44 (by omega) (by omega) _ _ _ hP hD hS (lv_sub hl [0, 1, 2, 3, 4] rfl)
          · skip
            have hc43 : (z23 >>> ((nI i29) &&& 31)) &&& 1 = 1 := bz_1 hw42 c43
            refine lv_aload_n hx hb dX8_level_49 rfl (lv_at hl 2 rfl) ?_
            refine va_get (D := D) (ci := 8) (v := .ref g25) (C := RX8) (T := TX8) (N := 46) hx hb hts hiX8 hown hE.1 hP 0 rfl rfl 25 (by decide) (hts _ (List.mem_cons_of_mem _ wd_136)) (fun _ h9 => h9) rfl dX8_level_50 ?_
            refine lv_iload hx hb dX8_level_53 (lv_at hl 0 rfl) ?_
            refine va_iald hx hb hE.1 hP 17 0 rfl rfl (vp_in_nI (n := i29) (by omega) (by decide)) dX8_level_55 ?_
            refine lv_topi (fun v45 ev45 => ?_)
            refine lv_iload_n hx hb dX8_level_56 rfl (lv_at hl 4 rfl) ?_
            refine lv_icmp_ne (tgt := 67) hx hb dX8_level_57 (by decide) (fun c46 => ?_) (fun c46 => ?_)
            · skip
              refine lv_iconst (v := 0) hx hb dX8_level_67 (by decide) ?_
              refine lv_ior hx hb dX8_level_68 ?_
              refine lv_topi (fun v47 ev47 => ?_)
              refine lv_istore_n (lv' := [(3, .int v47), (4, .int (nI i29)), (0, .ref g), (1, .int (nI lj)), (2, .int p1)]) hx hb dX8_level_69 rfl hl (by decide) rfl (fun ls hl => ?_)
              refine lv_iinc (v := (nI (i29 + 1))) (lv' := [(4, .int (nI (i29 + 1))), (3, .int v47), (0, .ref g), (1, .int (nI lj)), (2, .int p1)]) hx hb dX8_level_70 hl (k := 1) rfl (nI_1 _) (by decide) rfl (fun ls hl => ?_)
              refine lv_goto (tgt := 29) hx hb dX8_level_73 (by decide) ?_
              exact ih29 (i29 + 1) v47 (by omega) (by omega) _ _ _ hP hD hS (lv_sub hl [0, 1, 2, 3, 4] rfl)
            · skip
              refine lv_iconst (v := 1) hx hb dX8_level_60 (by decide) ?_
              refine lv_iload hx hb dX8_level_61 (lv_at hl 0 rfl) ?_
              refine lv_ishl hx hb dX8_level_63 ?_
              refine lv_topi (fun v48 ev48 => ?_)
              refine lv_goto (tgt := 68) hx hb dX8_level_64 (by decide) ?_
              refine lv_ior hx hb dX8_level_68 ?_
              refine lv_topi (fun v49 ev49 => ?_)
              refine lv_istore_n (lv' := [(3, .int v49), (4, .int (nI i29)), (0, .ref g), (1, .int (nI lj)), (2, .int p1)]) hx hb dX8_level_69 rfl hl (by decide) rfl (fun ls hl => ?_)
              refine lv_iinc (v := (nI (i29 + 1))) (lv' := [(4, .int (nI (i29 + 1))), (3, .int v49), (0, .ref g), (1, .int (nI lj)), (2, .int p1)]) hx hb dX8_level_70 hl (k := 1) rfl (nI_1 _) (by decide) rfl (fun ls hl => ?_)
              refine lv_goto (tgt := 29) hx hb dX8_level_73 (by decide) ?_
              exact ih29 (i29 + 1) v49 (by omega) (by omega) _ _ _ hP hD hS (lv_sub hl [0, 1, 2, 3, 4] rfl)
    exact J29 _ 0 0 (by omega) (Nat.lt_succ_self _) _ _ _ hP hD hS (lv_sub hl [0, 1, 2, 3, 4] rfl)
  · skip
    have hc4 : ¬ (0 ≤ p0 ∧ p0 ≤ nI ml - 1) := bz_0 hb3 c4
    refine lv_iconst (v := (-1)) hx hb dX8_level_13 (by decide) ?_
    refine k_iret (u := [(oX8 g 0 (nI mn) g2 g3 g4 g5 g6 g7 g8 g9 g10 (nI ml) g12 g13 gi14 g15 g16 g17 gi18 g19 g20 g21 g22 g23 g24 g25 g26 g27 g28 gi29 gi30 (nI mv) (nI tt) g33 g34 g35 g36 g37 g38 g39 gi40 g41 g42 gi43 g44 g45), (aIc cI g2 8 G2), (aIc cI g3 8 G3), (aIc cI g4 8 G4), (aIc cI g5 8 G5), (aIc cI g6 8 G6), (aIc cI g7 8 G7), (aIc cI g8 8 G8), (aIc cI g10 64 G10), (aIc cI g12 10 G12), (aIc cI g13 10 G13), (aIc cI g19 8 G19), (aIc cI g20 8 G20), (aIc cI g21 8 G21), (aIc cI g22 8 G22), (aIc cI g23 8 G23), (aIc cI g24 8 G24), (aIc cI g25 8 G25), (aIc cI g26 8 G26), (aIc cI g27 8 G27), (aIc cI g28 8 G28), (aIc cI g33 8 G33), (aIc cI g34 8 G34), (aIc cI g35 8 G35), (aIc cI g36 8 G36), (aJc cJ g37 8 G37)]) hx hb hr hlk hP hD hS dX8_level_14 ?_
    exact ⟨G19, G20, G21, G22, G23, G24, G25, G26, G27, G28, G33, G34, G35, G36, G37, gi29, gi30, gi18, mv, tt, 0, hLE, hLO, hLW, hSH, htt, hmv, rfl⟩
theorem dX8_ring_0 : decode cX8_ring 0 = .ok (.aload_n 0, 1) := by decide +kernel
theorem dX8_ring_1 : decode cX8_ring 1 = .ok (.iconst 0, 1) := by decide +kernel
theorem dX8_ring_2 : decode cX8_ring 2 = .ok (.putfield 116, 3) := by decide +kernel
theorem dX8_ring_5 : decode cX8_ring 5 = .ok (.aload_n 0, 1) := by decide +kernel
theorem dX8_ring_6 : decode cX8_ring 6 = .ok (.iload_n 1, 1) := by decide +kernel
theorem dX8_ring_7 : decode cX8_ring 7 = .ok (.invokevirtual 252, 3) := by decide +kernel
theorem dX8_ring_10 : decode cX8_ring 10 = .ok (.ifCond .ne 5, 3) := by decide +kernel
theorem dX8_ring_13 : decode cX8_ring 13 = .ok (.iconst (-1), 1) := by decide +kernel
theorem dX8_ring_14 : decode cX8_ring 14 = .ok (.ireturn, 1) := by decide +kernel
theorem dX8_ring_15 : decode cX8_ring 15 = .ok (.aload_n 0, 1) := by decide +kernel
theorem dX8_ring_16 : decode cX8_ring 16 = .ok (.iload_n 1, 1) := by decide +kernel
theorem dX8_ring_17 : decode cX8_ring 17 = .ok (.aload_n 0, 1) := by decide +kernel
theorem dX8_ring_18 : decode cX8_ring 18 = .ok (.invokevirtual 220, 3) := by decide +kernel
theorem dX8_ring_21 : decode cX8_ring 21 = .ok (.invokevirtual 224, 3) := by decide +kernel
theorem dX8_ring_24 : decode cX8_ring 24 = .ok (.iconst 0, 1) := by decide +kernel
theorem dX8_ring_25 : decode cX8_ring 25 = .ok (.istore_n 3, 1) := by decide +kernel
theorem dX8_ring_26 : decode cX8_ring 26 = .ok (.iconst 0, 1) := by decide +kernel
theorem dX8_ring_27 : decode cX8_ring 27 = .ok (.istore 4, 2) := by decide +kernel
theorem dX8_ring_29 : decode cX8_ring 29 = .ok (.iload 4, 2) := by decide +kernel
theorem dX8_ring_31 : decode cX8_ring 31 = .ok (.bipush 8, 2) := by decide +kernel
theorem dX8_ring_33 : decode cX8_ring 33 = .ok (.if_icmp .ge 34, 3) := by decide +kernel
theorem dX8_ring_36 : decode cX8_ring 36 = .ok (.aload_n 0, 1) := by decide +kernel
theorem dX8_ring_37 : decode cX8_ring 37 = .ok (.iload 4, 2) := by decide +kernel
theorem dX8_ring_39 : decode cX8_ring 39 = .ok (.invokevirtual 246, 3) := by decide +kernel
theorem dX8_ring_42 : decode cX8_ring 42 = .ok (.ifCond .eq 19, 3) := by decide +kernel
theorem dX8_ring_45 : decode cX8_ring 45 = .ok (.iload_n 3, 1) := by decide +kernel
theorem dX8_ring_46 : decode cX8_ring 46 = .ok (.iload_n 2, 1) := by decide +kernel
theorem dX8_ring_47 : decode cX8_ring 47 = .ok (.if_icmp .ne 11, 3) := by decide +kernel
theorem dX8_ring_50 : decode cX8_ring 50 = .ok (.aload_n 0, 1) := by decide +kernel
theorem dX8_ring_51 : decode cX8_ring 51 = .ok (.getfield 64, 3) := by decide +kernel
theorem dX8_ring_54 : decode cX8_ring 54 = .ok (.iload 4, 2) := by decide +kernel
theorem dX8_ring_56 : decode cX8_ring 56 = .ok (.iaload, 1) := by decide +kernel
theorem dX8_ring_57 : decode cX8_ring 57 = .ok (.ireturn, 1) := by decide +kernel
theorem dX8_ring_58 : decode cX8_ring 58 = .ok (.iinc 3 1, 3) := by decide +kernel
theorem dX8_ring_61 : decode cX8_ring 61 = .ok (.iinc 4 1, 3) := by decide +kernel
theorem dX8_ring_64 : decode cX8_ring 64 = .ok (.goto (-35), 3) := by decide +kernel
theorem dX8_ring_67 : decode cX8_ring 67 = .ok (.iconst (-1), 1) := by decide +kernel
theorem dX8_ring_68 : decode cX8_ring 68 = .ok (.ireturn, 1) := by decide +kernel
theorem gX8_ring_X8_all : GoodIn wtX8_ring (wsV RX8 220 RX8 yX8_all wtX8_all) := tb_good (tb_v0 wd_413 wd_414 wd_415 wd_5 wd_416)
theorem gX8_ring_X8_isLead : GoodIn wtX8_ring (wsV RX8 246 RX8 yX8_isLead wtX8_isLead) := tb_good (tb_v0 wd_562 wd_563 wd_564 wd_5 wd_565)
theorem gX8_ring_X8_isLoss : GoodIn wtX8_ring (wsV RX8 252 RX8 yX8_isLoss wtX8_isLoss) := tb_good (tb_v0 wd_554 wd_555 wd_556 wd_5 wd_557)
theorem gX8_ring_X8_settlesTo : GoodIn wtX8_ring (wsV RX8 224 RX8 yX8_settlesTo wtX8_settlesTo) := tb_good (tb_v0 wd_482 wd_483 wd_484 wd_5 wd_485)
set_option maxHeartbeats 4000000 in
set_option maxRecDepth 100000 in
theorem m_X8_ring (l : Launch) (D : va_G) (cI cJ : ClassId) (sz : Nat) (g g2 g3 g4 g5 g6 g7 g8 g9 g10 g12 g13 g15 g16 g17 g19 g20 g21 g22 g23 g24 g25 g26 g27 g28 g33 g34 g35 g36 g37 g38 g39 g41 g42 g44 g45 mn ml mv tt : Nat) (gi0 gi14 gi18 gi29 gi30 gi40 gi43 p0 p1 : Int32) (G2 G3 G4 G5 G6 G7 G8 G10 G12 G13 G19 G20 G21 G22 G23 G24 G25 G26 G27 G28 G33 G34 G35 G36 : Nat → Int32) (G37 : Nat → Int64) (li0 wo0 de0 ag0 : Nat → Nat) (hmn : mn ≤ 8) (hmL : ml ≤ 10) (hit : ∀ k, k < 10 → ∃ j : Nat, j < 8 ∧ G12 k = nI j) (hsu : ∀ k, k < 64 → ∃ j : Nat, j ≤ 1000001 ∧ G10 k = nI j) (hliv : nv G2 li0) (hlib : ∀ k, k < 8 → li0 k ≤ 1000000) (hwov : nv G5 wo0) (hwob : ∀ k, k < 8 → wo0 k ≤ 9000000) (hdev : nv G4 de0) (hdeb : ∀ k, k < 8 → de0 k ≤ 99999) (hagv : nv G3 ag0) (hagb : ∀ k, k < 8 → ag0 k ≤ 9000000) (hamt : ∀ k, k < 10 → ∃ j : Nat, j < 1000001 ∧ G13 k = nI j) (hLE : LE G19) (hLO : LO G20) (hLW : LW G25) (hSH : SH G27 tt) (htt : tt ≤ 1000000) (hmv : mv ≤ 8) : Met l yX8_ring wtX8_ring { frames := 8, cells := 0, slots := 0, locals := 189 } (cPc D cI cJ [.ref g, .int p0, .int p1] sz [(oX8 g gi0 (nI mn) g2 g3 g4 g5 g6 g7 g8 g9 g10 (nI ml) g12 g13 gi14 g15 g16 g17 gi18 g19 g20 g21 g22 g23 g24 g25 g26 g27 g28 gi29 gi30 (nI mv) (nI tt) g33 g34 g35 g36 g37 g38 g39 gi40 g41 g42 gi43 g44 g45), (aIc cI g2 8 G2), (aIc cI g3 8 G3), (aIc cI g4 8 G4), (aIc cI g5 8 G5), (aIc cI g6 8 G6), (aIc cI g7 8 G7), (aIc cI g8 8 G8), (aIc cI g10 64 G10), (aIc cI g12 10 G12), (aIc cI g13 10 G13), (aIc cI g19 8 G19), (aIc cI g20 8 G20), (aIc cI g21 8 G21), (aIc cI g22 8 G22), (aIc cI g23 8 G23), (aIc cI g24 8 G24), (aIc cI g25 8 G25), (aIc cI g26 8 G26), (aIc cI g27 8 G27), (aIc cI g28 8 G28), (aIc cI g33 8 G33), (aIc cI g34 8 G34), (aIc cI g35 8 G35), (aIc cI g36 8 G36), (aJc cJ g37 8 G37)]) (cQi D (fun r u => ∃ (G19p G20p G21p G22p G23p G24p G25p G26p G27p G28p G33p G34p G35p G36p : Nat → Int32) (G37p : Nat → Int64) (gi29p gi30p gi18p : Int32) (mvp ttp : Nat) (gi0p : Int32), (LE G19p) ∧ (LO G20p) ∧ (LW G25p) ∧ (SH G27p ttp) ∧ (ttp ≤ 1000000) ∧ (mvp ≤ 8) ∧ u = [(oX8 g gi0p (nI mn) g2 g3 g4 g5 g6 g7 g8 g9 g10 (nI ml) g12 g13 gi14 g15 g16 g17 gi18p g19 g20 g21 g22 g23 g24 g25 g26 g27 g28 gi29p gi30p (nI mvp) (nI ttp) g33 g34 g35 g36 g37 g38 g39 gi40 g41 g42 gi43 g44 g45), (aIc cI g2 8 G2), (aIc cI g3 8 G3), (aIc cI g4 8 G4), (aIc cI g5 8 G5), (aIc cI g6 8 G6), (aIc cI g7 8 G7), (aIc cI g8 8 G8), (aIc cI g10 64 G10), (aIc cI g12 10 G12), (aIc cI g13 10 G13), (aIc cI g19 8 G19p), (aIc cI g20 8 G20p), (aIc cI g21 8 G21p), (aIc cI g22 8 G22p), (aIc cI g23 8 G23p), (aIc cI g24 8 G24p), (aIc cI g25 8 G25p), (aIc cI g26 8 G26p), (aIc cI g27 8 G27p), (aIc cI g28 8 G28p), (aIc cI g33 8 G33p), (aIc cI g34 8 G34p), (aIc cI g35 8 G35p), (aIc cI g36 8 G36p), (aJc cJ g37 8 G37p)]) (va_A [(oX8 g gi0 (nI mn) g2 g3 g4 g5 g6 g7 g8 g9 g10 (nI ml) g12 g13 gi14 g15 g16 g17 gi18 g19 g20 g21 g22 g23 g24 g25 g26 g27 g28 gi29 gi30 (nI mv) (nI tt) g33 g34 g35 g36 g37 g38 g39 gi40 g41 g42 gi43 g44 g45), (aIc cI g2 8 G2), (aIc cI g3 8 G3), (aIc cI g4 8 G4), (aIc cI g5 8 G5), (aIc cI g6 8 G6), (aIc cI g7 8 G7), (aIc cI g8 8 G8), (aIc cI g10 64 G10), (aIc cI g12 10 G12), (aIc cI g13 10 G13), (aIc cI g19 8 G19), (aIc cI g20 8 G20), (aIc cI g21 8 G21), (aIc cI g22 8 G22), (aIc cI g23 8 G23), (aIc cI g24 8 G24), (aIc cI g25 8 G25), (aIc cI g26 8 G26), (aIc cI g27 8 G27), (aIc cI g28 8 G28), (aIc cI g33 8 G33), (aIc cI g34 8 G34), (aIc cI g35 8 G35), (aIc cI g36 8 G36), (aJc cJ g37 8 G37)] sz)) 0 0 (va_A [(oX8 g gi0 (nI mn) g2 g3 g4 g5 g6 g7 g8 g9 g10 (nI ml) g12 g13 gi14 g15 g16 g17 gi18 g19 g20 g21 g22 g23 g24 g25 g26 g27 g28 gi29 gi30 (nI mv) (nI tt) g33 g34 g35 g36 g37 g38 g39 gi40 g41 g42 gi43 g44 g45), (aIc cI g2 8 G2), (aIc cI g3 8 G3), (aIc cI g4 8 G4), (aIc cI g5 8 G5), (aIc cI g6 8 G6), (aIc cI g7 8 G7), (aIc cI g8 8 G8), (aIc cI g10 64 G10), (aIc cI g12 10 G12), (aIc cI g13 10 G13), (aIc cI g19 8 G19), (aIc cI g20 8 G20), (aIc cI g21 8 G21), (aIc cI g22 8 G22), (aIc cI g23 8 G23), (aIc cI g24 8 G24), (aIc cI g25 8 G25), (aIc cI g26 8 G26), (aIc cI g27 8 G27), (aIc cI g28 8 G28), (aIc cI g33 8 G33), (aIc cI g34 8 G34), (aIc cI g35 8 G35), (aIc cI g36 8 G36), (aJc cJ g37 8 G37)] sz) := by
  refine k_ofW (Qc := cQi D (fun r u => ∃ (G19p G20p G21p G22p G23p G24p G25p G26p G27p G28p G33p G34p G35p G36p : Nat → Int32) (G37p : Nat → Int64) (gi29p gi30p gi18p : Int32) (mvp ttp : Nat) (gi0p : Int32), (LE G19p) ∧ (LO G20p) ∧ (LW G25p) ∧ (SH G27p ttp) ∧ (ttp ≤ 1000000) ∧ (mvp ≤ 8) ∧ u = [(oX8 g gi0p (nI mn) g2 g3 g4 g5 g6 g7 g8 g9 g10 (nI ml) g12 g13 gi14 g15 g16 g17 gi18p g19 g20 g21 g22 g23 g24 g25 g26 g27 g28 gi29p gi30p (nI mvp) (nI ttp) g33 g34 g35 g36 g37 g38 g39 gi40 g41 g42 gi43 g44 g45), (aIc cI g2 8 G2), (aIc cI g3 8 G3), (aIc cI g4 8 G4), (aIc cI g5 8 G5), (aIc cI g6 8 G6), (aIc cI g7 8 G7), (aIc cI g8 8 G8), (aIc cI g10 64 G10), (aIc cI g12 10 G12), (aIc cI g13 10 G13), (aIc cI g19 8 G19p), (aIc cI g20 8 G20p), (aIc cI g21 8 G21p), (aIc cI g22 8 G22p), (aIc cI g23 8 G23p), (aIc cI g24 8 G24p), (aIc cI g25 8 G25p), (aIc cI g26 8 G26p), (aIc cI g27 8 G27p), (aIc cI g28 8 G28p), (aIc cI g33 8 G33p), (aIc cI g34 8 G34p), (aIc cI g35 8 G35p), (aIc cI g36 8 G36p), (aJc cJ g37 8 G37p)])) (by decide) rfl (Nat.le_of_ble_eq_true rfl) ?_
  intro p e s m below meth c A ls hx hb hr hml hts hown hlk hnm hsz hE hP hD hS hA hl
  have hown : s.vm.findClass RX8 = some m.cls := hown
  have hiX8 : ∀ w ∈ u_ws RX8 TX8 46, w ∈ wtX8_ring := fun w h => List.mem_cons_of_mem _ (iuX8 w h)
  have hl : lv_has ls 5 [(0, .ref g), (1, .int p0), (2, .int p1)] := hl
  refine lv_aload_n hx hb dX8_ring_0 rfl (lv_at hl 0 rfl) ?_
  refine lv_iconst (v := 0) hx hb dX8_ring_1 (by decide) ?_
  refine va_put (D := D) (ci := 8) (v := .int 0) (ty := .int) (C := RX8) (T := TX8) (N := 46) hx hb hts hiX8 tyX8 tyX8_ok nmX8 hown hE.1 hP hD hS 0 rfl rfl 0 (by decide) (hts _ (List.mem_cons_of_mem _ wd_171)) (fun _ h9 => h9) rfl (by decide +kernel) rfl rfl (Nat.le_of_ble_eq_true rfl) dX8_ring_2 (fun H locs hP hD hS => ?_)
  refine k_re (w := [(oX8 g 0 (nI mn) g2 g3 g4 g5 g6 g7 g8 g9 g10 (nI ml) g12 g13 gi14 g15 g16 g17 gi18 g19 g20 g21 g22 g23 g24 g25 g26 g27 g28 gi29 gi30 (nI mv) (nI tt) g33 g34 g35 g36 g37 g38 g39 gi40 g41 g42 gi43 g44 g45), (aIc cI g2 8 G2), (aIc cI g3 8 G3), (aIc cI g4 8 G4), (aIc cI g5 8 G5), (aIc cI g6 8 G6), (aIc cI g7 8 G7), (aIc cI g8 8 G8), (aIc cI g10 64 G10), (aIc cI g12 10 G12), (aIc cI g13 10 G13), (aIc cI g19 8 G19), (aIc cI g20 8 G20), (aIc cI g21 8 G21), (aIc cI g22 8 G22), (aIc cI g23 8 G23), (aIc cI g24 8 G24), (aIc cI g25 8 G25), (aIc cI g26 8 G26), (aIc cI g27 8 G27), (aIc cI g28 8 G28), (aIc cI g33 8 G33), (aIc cI g34 8 G34), (aIc cI g35 8 G35), (aIc cI g36 8 G36), (aJc cJ g37 8 G37)]) hP hD (fun hP hD => ?_)
  refine lv_aload_n hx hb dX8_ring_5 rfl (lv_at hl 0 rfl) ?_
  refine lv_iload_n hx hb dX8_ring_6 rfl (lv_at hl 1 rfl) ?_
  refine k_iS (va_runV (As := [.int p0]) (rest := []) ⟨hx, hb, hml, hown, hts⟩ (m_X8_isLoss l D cI cJ H.size g g2 g3 g4 g5 g6 g7 g8 g9 g10 g12 g13 g15 g16 g17 g19 g20 g21 g22 g23 g24 g25 g26 g27 g28 g33 g34 g35 g36 g37 g38 g39 g41 g42 g44 g45 mn ml mv 0 gi14 gi18 gi29 gi30 (nI tt) gi40 gi43 p0) (cwV 1 hts gX8_ring_X8_isLoss rfl rfl rfl (by decide +kernel) ⟨Nat.le_of_ble_eq_true rfl, Nat.le_of_ble_eq_true rfl⟩) (k_preV hE hP hD [0] (by decide +kernel) rfl 0 rfl rfl) rfl rfl hl.1 rfl (lv_room (Nat.le_of_ble_eq_true rfl)) dX8_ring_7 ⟨Nat.le_of_ble_eq_true rfl, Nat.le_of_ble_eq_true rfl⟩) hP hD hS hA [0] rfl (fun _ _ ⟨_, h9⟩ => h9) (fun r1 H locs hw2 hP hD hS => ?_)
  obtain ⟨hb3, -⟩ := hw2
  refine lv_if_ne (tgt := 15) hx hb dX8_ring_10 (by decide) (fun c4 => ?_) (fun c4 => ?_)
  · skip
    have hc4 : 0 ≤ p0 ∧ p0 ≤ nI ml - 1 := bz_1 hb3 c4
    obtain ⟨lj, hlj, elj⟩ := wi_n (by omega) hc4
    rw [elj] at hl
    refine lv_aload_n hx hb dX8_ring_15 rfl (lv_at hl 0 rfl) ?_
    refine lv_iload_n hx hb dX8_ring_16 rfl (lv_at hl 1 rfl) ?_
    refine lv_aload_n hx hb dX8_ring_17 rfl (lv_at hl 0 rfl) ?_
    refine k_iS (va_runV (As := []) (rest := [.int (nI lj), .ref g]) ⟨hx, hb, hml, hown, hts⟩ (m_X8_all l D cI cJ H.size g g2 g3 g4 g5 g6 g7 g8 g9 g10 g12 g13 g15 g16 g17 g19 g20 g21 g22 g23 g24 g25 g26 g27 g28 g33 g34 g35 g36 g37 g38 g39 g41 g42 g44 g45 mn ml mv 0 gi14 gi18 gi29 gi30 (nI tt) gi40 gi43 hmn) (cwV 0 hts gX8_ring_X8_all rfl rfl rfl (by decide +kernel) ⟨Nat.le_of_ble_eq_true rfl, Nat.le_of_ble_eq_true rfl⟩) (k_preV hE hP hD [0] (by decide +kernel) rfl 0 rfl rfl) rfl rfl hl.1 rfl (lv_room (Nat.le_of_ble_eq_true rfl)) dX8_ring_18 ⟨Nat.le_of_ble_eq_true rfl, Nat.le_of_ble_eq_true rfl⟩) hP hD hS hA [0] rfl (fun _ _ ⟨_, h9⟩ => h9) (fun r5 H locs hw6 hP hD hS => ?_)
    obtain ⟨rfl, -⟩ := hw6
    refine k_v (va_runV (As := [.int (nI lj), .int (nI (2 ^ mn - 1))]) (rest := []) ⟨hx, hb, hml, hown, hts⟩ (m_X8_settlesTo l D cI cJ H.size g g2 g3 g4 g5 g6 g7 g8 g9 g10 g12 g13 g15 g16 g17 g19 g20 g21 g22 g23 g24 g25 g26 g27 g28 g33 g34 g35 g36 g37 g38 g39 g41 g42 g44 g45 mn ml mv tt (lj + 1) 0 gi14 gi18 gi29 gi30 gi40 gi43 (nI lj) (nI (2 ^ mn - 1)) G2 G3 G4 G5 G6 G7 G8 G10 G12 G13 G19 G20 G21 G22 G23 G24 G25 G26 G27 G28 G33 G34 G35 G36 G37 li0 wo0 de0 ag0 (nI_pred lj).symm (by omega) hit hsu hliv hlib hwov hwob hdev hdeb hagv hagb hamt hLE hLO hLW hSH htt hmv) (cwV 2 hts gX8_ring_X8_settlesTo rfl rfl rfl (by decide +kernel) ⟨Nat.le_of_ble_eq_true rfl, Nat.le_of_ble_eq_true rfl⟩) (k_preV hE hP hD [0, 1, 2, 3, 4, 5, 6, 7, 8, 9, 10, 11, 12, 13, 14, 15, 16, 17, 18, 19, 20, 21, 22, 23, 24, 25] (by decide +kernel) rfl 0 rfl rfl) rfl rfl hl.1 rfl (lv_room (Nat.le_of_ble_eq_true rfl)) dX8_ring_21 ⟨Nat.le_of_ble_eq_true rfl, Nat.le_of_ble_eq_true rfl⟩) hP hD hS hA [0, 1, 2, 3, 4, 5, 6, 7, 8, 9, 10, 11, 12, 13, 14, 15, 16, 17, 18, 19, 20, 21, 22, 23, 24, 25] [] rfl (wr := []) rfl (by decide +kernel) (by decide +kernel) (fun u H locs hw7 hP hD hS => ?_)
    obtain ⟨z8, z9, z10, z11, z12, z13, z14, z15, z16, z17, z18, z19, z20, z21, z22, z23, z24, z25, z26, z27, hz28, hz29, hz30, hz31, hz32, hz33, hz34, rfl⟩ := hw7
    refine k_re (w := [(oX8 g 0 (nI mn) g2 g3 g4 g5 g6 g7 g8 g9 g10 (nI ml) g12 g13 gi14 g15 g16 g17 z25 g19 g20 g21 g22 g23 g24 g25 g26 g27 g28 z23 z24 (nI z26) (nI z27) g33 g34 g35 g36 g37 g38 g39 gi40 g41 g42 gi43 g44 g45), (aIc cI g2 8 G2), (aIc cI g3 8 G3), (aIc cI g4 8 G4), (aIc cI g5 8 G5), (aIc cI g6 8 G6), (aIc cI g7 8 G7), (aIc cI g8 8 G8), (aIc cI g10 64 G10), (aIc cI g12 10 G12), (aIc cI g13 10 G13), (aIc cI g19 8 z8), (aIc cI g20 8 z9), (aIc cI g21 8 z10), (aIc cI g22 8 z11), (aIc cI g23 8 z12), (aIc cI g24 8 z13), (aIc cI g25 8 z14), (aIc cI g26 8 z15), (aIc cI g27 8 z16), (aIc cI g28 8 z17), (aIc cI g33 8 z18), (aIc cI g34 8 z19), (aIc cI g35 8 z20), (aIc cI g36 8 z21), (aJc cJ g37 8 z22)]) hP hD (fun hP hD => ?_)
    refine lv_iconst (v := 0) hx hb dX8_ring_24 (by decide) ?_
    refine lv_istore_n (lv' := [(3, .int 0), (0, .ref g), (1, .int (nI lj)), (2, .int p1)]) hx hb dX8_ring_25 rfl hl (by decide) rfl (fun ls hl => ?_)
    refine lv_iconst (v := 0) hx hb dX8_ring_26 (by decide) ?_
    refine lv_istore (lv' := [(4, .int 0), (3, .int 0), (0, .ref g), (1, .int (nI lj)), (2, .int p1)]) hx hb dX8_ring_27 hl (by decide) rfl (fun ls hl => ?_)
    have J29 : ∀ (zz : Nat) (i29 : Nat) (h3_29 : Int32), (i29 ≤ 8) → (8 - i29) < zz → ∀ (H : Heap) (locs : List Loc) (ls : Array Slot), va_P D vwCl [(oX8 g 0 (nI mn) g2 g3 g4 g5 g6 g7 g8 g9 g10 (nI ml) g12 g13 gi14 g15 g16 g17 z25 g19 g20 g21 g22 g23 g24 g25 g26 g27 g28 z23 z24 (nI z26) (nI z27) g33 g34 g35 g36 g37 g38 g39 gi40 g41 g42 gi43 g44 g45), (aIc cI g2 8 G2), (aIc cI g3 8 G3), (aIc cI g4 8 G4), (aIc cI g5 8 G5), (aIc cI g6 8 G6), (aIc cI g7 8 G7), (aIc cI g8 8 G8), (aIc cI g10 64 G10), (aIc cI g12 10 G12), (aIc cI g13 10 G13), (aIc cI g19 8 z8), (aIc cI g20 8 z9), (aIc cI g21 8 z10), (aIc cI g22 8 z11), (aIc cI g23 8 z12), (aIc cI g24 8 z13), (aIc cI g25 8 z14), (aIc cI g26 8 z15), (aIc cI g27 8 z16), (aIc cI g28 8 z17), (aIc cI g33 8 z18), (aIc cI g34 8 z19), (aIc cI g35 8 z20), (aIc cI g36 8 z21), (aJc cJ g37 8 z22)] H → va_D A [(oX8 g 0 (nI mn) g2 g3 g4 g5 g6 g7 g8 g9 g10 (nI ml) g12 g13 gi14 g15 g16 g17 z25 g19 g20 g21 g22 g23 g24 g25 g26 g27 g28 z23 z24 (nI z26) (nI z27) g33 g34 g35 g36 g37 g38 g39 gi40 g41 g42 gi43 g44 g45), (aIc cI g2 8 G2), (aIc cI g3 8 G3), (aIc cI g4 8 G4), (aIc cI g5 8 G5), (aIc cI g6 8 G6), (aIc cI g7 8 G7), (aIc cI g8 8 G8), (aIc cI g10 64 G10), (aIc cI g12 10 G12), (aIc cI g13 10 G13), (aIc cI g19 8 z8), (aIc cI g20 8 z9), (aIc cI g21 8 z10), (aIc cI g22 8 z11), (aIc cI g23 8 z12), (aIc cI g24 8 z13), (aIc cI g25 8 z14), (aIc cI g26 8 z15), (aIc cI g27 8 z16), (aIc cI g28 8 z17), (aIc cI g33 8 z18), (aIc cI g34 8 z19), (aIc cI g35 8 z20), (aIc cI g36 8 z21), (aJc cJ g37 8 z22)] → va_S A s.heap H locs → lv_has ls 5 [(4, .int (nI i29)), (3, .int h3_29), (0, .ref g), (1, .int (nI lj)), (2, .int p1)] → W p l e { frames := 8, cells := 0, slots := 0, locals := 189 } s m [.ref g, .int p0, .int p1].toArray below meth c H locs 0 0 (MQ below (cQi D (fun r u => ∃ (G19p G20p G21p G22p G23p G24p G25p G26p G27p G28p G33p G34p G35p G36p : Nat → Int32) (G37p : Nat → Int64) (gi29p gi30p gi18p : Int32) (mvp ttp : Nat) (gi0p : Int32), (LE G19p) ∧ (LO G20p) ∧ (LW G25p) ∧ (SH G27p ttp) ∧ (ttp ≤ 1000000) ∧ (mvp ≤ 8) ∧ u = [(oX8 g gi0p (nI mn) g2 g3 g4 g5 g6 g7 g8 g9 g10 (nI ml) g12 g13 gi14 g15 g16 g17 gi18p g19 g20 g21 g22 g23 g24 g25 g26 g27 g28 gi29p gi30p (nI mvp) (nI ttp) g33 g34 g35 g36 g37 g38 g39 gi40 g41 g42 gi43 g44 g45), (aIc cI g2 8 G2), (aIc cI g3 8 G3), (aIc cI g4 8 G4), (aIc cI g5 8 G5), (aIc cI g6 8 G6), (aIc cI g7 8 G7), (aIc cI g8 8 G8), (aIc cI g10 64 G10), (aIc cI g12 10 G12), (aIc cI g13 10 G13), (aIc cI g19 8 G19p), (aIc cI g20 8 G20p), (aIc cI g21 8 G21p), (aIc cI g22 8 G22p), (aIc cI g23 8 G23p), (aIc cI g24 8 G24p), (aIc cI g25 8 G25p), (aIc cI g26 8 G26p), (aIc cI g27 8 G27p), (aIc cI g28 8 G28p), (aIc cI g33 8 G33p), (aIc cI g34 8 G34p), (aIc cI g35 8 G35p), (aIc cI g36 8 G36p), (aJc cJ g37 8 G37p)]) A) [.ref g, .int p0, .int p1].toArray s 0 0 A) (F0 m 29 ls []) := by
      intro zz
      induction zz with
      | zero => intro i29 h3_29 _; exact fun h => absurd h (Nat.not_lt_zero _)
      | succ zz ih29 =>
        intro i29 h3_29 hc4_29 hmu29 H locs ls hP hD hS hl
        refine lv_iload hx hb dX8_ring_29 (lv_at hl 0 rfl) ?_
        refine lv_bipush (v := 8) hx hb dX8_ring_31 (by decide) ?_
        refine lv_icmp_ge (tgt := 67) hx hb dX8_ring_33 (by decide) (fun c35 => ?_) (fun c35 => ?_)
        · skip
          have nc35 : 8 ≤ i29 := (nI_leI (a := 8) (b := i29) (by omega) (by omega)).mp c35
          refine lv_iconst (v := (-1)) hx hb dX8_ring_67 (by decide) ?_
          refine k_iret (u := [(oX8 g 0 (nI mn) g2 g3 g4 g5 g6 g7 g8 g9 g10 (nI ml) g12 g13 gi14 g15 g16 g17 z25 g19 g20 g21 g22 g23 g24 g25 g26 g27 g28 z23 z24 (nI z26) (nI z27) g33 g34 g35 g36 g37 g38 g39 gi40 g41 g42 gi43 g44 g45), (aIc cI g2 8 G2), (aIc cI g3 8 G3), (aIc cI g4 8 G4), (aIc cI g5 8 G5), (aIc cI g6 8 G6), (aIc cI g7 8 G7), (aIc cI g8 8 G8), (aIc cI g10 64 G10), (aIc cI g12 10 G12), (aIc cI g13 10 G13), (aIc cI g19 8 z8), (aIc cI g20 8 z9), (aIc cI g21 8 z10), (aIc cI g22 8 z11), (aIc cI g23 8 z12), (aIc cI g24 8 z13), (aIc cI g25 8 z14), (aIc cI g26 8 z15), (aIc cI g27 8 z16), (aIc cI g28 8 z17), (aIc cI g33 8 z18), (aIc cI g34 8 z19), (aIc cI g35 8 z20), (aIc cI g36 8 z21), (aJc cJ g37 8 z22)]) hx hb hr hlk hP hD hS dX8_ring_68 ?_
          exact ⟨z8, z9, z10, z11, z12, z13, z14, z15, z16, z17, z18, z19, z20, z21, z22, z23, z24, z25, z26, z27, 0, hz28, hz29, hz30, hz31, hz32, hz33, rfl⟩
        · skip
          have nc35 : ¬ 8 ≤ i29 := fun q9 => c35 ((nI_leI (a := 8) (b := i29) (by omega) (by omega)).mpr q9)
          refine lv_aload_n hx hb dX8_ring_36 rfl (lv_at hl 2 rfl) ?_
          refine lv_iload hx hb dX8_ring_37 (lv_at hl 0 rfl) ?_
          refine k_iS (va_runV (As := [.int (nI i29)]) (rest := []) ⟨hx, hb, hml, hown, hts⟩ (m_X8_isLead l D cI cJ H.size g g2 g3 g4 g5 g6 g7 g8 g9 g10 g12 g13 g15 g16 g17 g19 g20 g21 g22 g23 g24 g25 g26 g27 g28 g33 g34 g35 g36 g37 g38 g39 g41 g42 g44 g45 i29 mn ml z26 0 gi14 z25 z23 z24 (nI z27) gi40 gi43 z12 (by omega)) (cwV 1 hts gX8_ring_X8_isLead rfl rfl rfl (by decide +kernel) ⟨Nat.le_of_ble_eq_true rfl, Nat.le_of_ble_eq_true rfl⟩) (k_preV hE hP hD [0, 15] (by decide +kernel) rfl 0 rfl rfl) rfl rfl hl.1 rfl (lv_room (Nat.le_of_ble_eq_true rfl)) dX8_ring_39 ⟨Nat.le_of_ble_eq_true rfl, Nat.le_of_ble_eq_true rfl⟩) hP hD hS hA [0, 15] rfl (fun _ _ ⟨_, h9⟩ => h9) (fun r36 H locs hw37 hP hD hS => ?_)
          obtain ⟨hz38, -⟩ := hw37
          refine lv_if_eq (tgt := 61) hx hb dX8_ring_42 (by decide) (fun c39 => ?_) (fun c39 => ?_)
          · skip
            refine lv_iinc (v := (nI (i29 + 1))) (lv' := [(4, .int (nI (i29 + 1))), (3, .int h3_29), (0, .ref g), (1, .int (nI lj)), (2, .int p1)]) hx hb dX8_ring_61 hl (k := 0) rfl (nI_1 _) (by decide) rfl (fun ls hl => ?_)
            refine lv_goto (tgt := 29) hx hb dX8_ring_64 (by decide) ?_
            exact ih29 (i29 + 1) h3_29 (by omega) (by omega) _ _ _ hP hD hS (lv_sub hl [0, 1, 2, 3, 4] rfl)
          · skip
            refine lv_iload_n hx hb dX8_ring_45 rfl (lv_at hl 1 rfl) ?_
            refine lv_iload_n hx hb dX8_ring_46 rfl (lv_at hl 4 rfl) ?_
            refine lv_icmp_ne (tgt := 58) hx hb dX8_ring_47 (by decide) (fun c40 => ?_) (fun c40 => ?_)
            · skip
              obtain ⟨v41, ev41⟩ : ∃ y : Int32, y = h3_29 + 1 := ⟨_, rfl⟩
              refine lv_iinc (v := v41) (lv' := [(3, .int v41), (4, .int (nI i29)), (0, .ref g), (1, .int (nI lj)), (2, .int p1)]) hx hb dX8_ring_58 hl (k := 1) rfl (by rw [ev41]; rfl) (by decide) rfl (fun ls hl => ?_)
              refine lv_iinc (v := (nI (i29 + 1))) (lv' := [(4, .int (nI (i29 + 1))), (3, .int v41), (0, .ref g), (1, .int (nI lj)), (2, .int p1)]) hx hb dX8_ring_61 hl (k := 1) rfl (nI_1 _) (by decide) rfl (fun ls hl => ?_)
              refine lv_goto (tgt := 29) hx hb dX8_ring_64 (by decide) ?_
              exact ih29 (i29 + 1) v41 (by omega) (by omega) _ _ _ hP hD hS (lv_sub hl [0, 1, 2, 3, 4] rfl)
            · skip
              refine lv_aload_n hx hb dX8_ring_50 rfl (lv_at hl 2 rfl) ?_
              refine va_get (D := D) (ci := 8) (v := .ref g23) (C := RX8) (T := TX8) (N := 46) hx hb hts hiX8 hown hE.1 hP 0 rfl rfl 23 (by decide) (hts _ (List.mem_cons_of_mem _ wd_134)) (fun _ h9 => h9) rfl dX8_ring_51 ?_
              refine lv_iload hx hb dX8_ring_54 (lv_at hl 0 rfl) ?_
              refine va_iald hx hb hE.1 hP 15 0 rfl rfl (vp_in_nI (n := i29) (by omega) (by decide)) dX8_ring_56 ?_
              refine lv_topi (fun v42 ev42 => ?_)
              refine k_iret (u := [(oX8 g 0 (nI mn) g2 g3 g4 g5 g6 g7 g8 g9 g10 (nI ml) g12 g13 gi14 g15 g16 g17 z25 g19 g20 g21 g22 g23 g24 g25 g26 g27 g28 z23 z24 (nI z26) (nI z27) g33 g34 g35 g36 g37 g38 g39 gi40 g41 g42 gi43 g44 g45), (aIc cI g2 8 G2), (aIc cI g3 8 G3), (aIc cI g4 8 G4), (aIc cI g5 8 G5), (aIc cI g6 8 G6), (aIc cI g7 8 G7), (aIc cI g8 8 G8), (aIc cI g10 64 G10), (aIc cI g12 10 G12), (aIc cI g13 10 G13), (aIc cI g19 8 z8), (aIc cI g20 8 z9), (aIc cI g21 8 z10), (aIc cI g22 8 z11), (aIc cI g23 8 z12), (aIc cI g24 8 z13), (aIc cI g25 8 z14), (aIc cI g26 8 z15), (aIc cI g27 8 z16), (aIc cI g28 8 z17), (aIc cI g33 8 z18), (aIc cI g34 8 z19), (aIc cI g35 8 z20), (aIc cI g36 8 z21), (aJc cJ g37 8 z22)]) hx hb hr hlk hP hD hS dX8_ring_57 ?_
              exact ⟨z8, z9, z10, z11, z12, z13, z14, z15, z16, z17, z18, z19, z20, z21, z22, z23, z24, z25, z26, z27, 0, hz28, hz29, hz30, hz31, hz32, hz33, rfl⟩
    exact J29 _ 0 0 (by omega) (Nat.lt_succ_self _) _ _ _ hP hD hS (lv_sub hl [0, 1, 2, 3, 4] rfl)
  · skip
    have hc4 : ¬ (0 ≤ p0 ∧ p0 ≤ nI ml - 1) := bz_0 hb3 c4
    refine lv_iconst (v := (-1)) hx hb dX8_ring_13 (by decide) ?_
    refine k_iret (u := [(oX8 g 0 (nI mn) g2 g3 g4 g5 g6 g7 g8 g9 g10 (nI ml) g12 g13 gi14 g15 g16 g17 gi18 g19 g20 g21 g22 g23 g24 g25 g26 g27 g28 gi29 gi30 (nI mv) (nI tt) g33 g34 g35 g36 g37 g38 g39 gi40 g41 g42 gi43 g44 g45), (aIc cI g2 8 G2), (aIc cI g3 8 G3), (aIc cI g4 8 G4), (aIc cI g5 8 G5), (aIc cI g6 8 G6), (aIc cI g7 8 G7), (aIc cI g8 8 G8), (aIc cI g10 64 G10), (aIc cI g12 10 G12), (aIc cI g13 10 G13), (aIc cI g19 8 G19), (aIc cI g20 8 G20), (aIc cI g21 8 G21), (aIc cI g22 8 G22), (aIc cI g23 8 G23), (aIc cI g24 8 G24), (aIc cI g25 8 G25), (aIc cI g26 8 G26), (aIc cI g27 8 G27), (aIc cI g28 8 G28), (aIc cI g33 8 G33), (aIc cI g34 8 G34), (aIc cI g35 8 G35), (aIc cI g36 8 G36), (aJc cJ g37 8 G37)]) hx hb hr hlk hP hD hS dX8_ring_14 ?_
    exact ⟨G19, G20, G21, G22, G23, G24, G25, G26, G27, G28, G33, G34, G35, G36, G37, gi29, gi30, gi18, mv, tt, 0, hLE, hLO, hLW, hSH, htt, hmv, rfl⟩

