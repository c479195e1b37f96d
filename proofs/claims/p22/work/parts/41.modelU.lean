theorem r11 (x : Int32) : 1 - (1 - x) = x := by
  apply Int32.toBitVec_inj.mp
  rw [Int32.toBitVec_sub, Int32.toBitVec_sub]
  apply BitVec.eq_of_toNat_eq
  rw [BitVec.toNat_sub, BitVec.toNat_sub]
  have := x.toBitVec.isLt
  rw [show (1 : Int32).toBitVec.toNat = 1 from rfl]
  omega
theorem ni_m1 {n : Nat} (h : n < 2 ^ 31) : ¬ nI n = -1 := fun q => by
  have h1 := nI_toInt h
  rw [q, show Int32.toInt (-1) = -1 from rfl] at h1
  omega
theorem dX8_broke_0 : decode cX8_broke 0 = .ok (.aload_n 0, 1) := by decide +kernel
theorem dX8_broke_1 : decode cX8_broke 1 = .ok (.iconst 0, 1) := by decide +kernel
theorem dX8_broke_2 : decode cX8_broke 2 = .ok (.putfield 116, 3) := by decide +kernel
theorem dX8_broke_5 : decode cX8_broke 5 = .ok (.aload_n 0, 1) := by decide +kernel
theorem dX8_broke_6 : decode cX8_broke 6 = .ok (.iload_n 1, 1) := by decide +kernel
theorem dX8_broke_7 : decode cX8_broke 7 = .ok (.invokevirtual 252, 3) := by decide +kernel
theorem dX8_broke_10 : decode cX8_broke 10 = .ok (.ifCond .eq 30, 3) := by decide +kernel
theorem dX8_broke_13 : decode cX8_broke 13 = .ok (.iload_n 2, 1) := by decide +kernel
theorem dX8_broke_14 : decode cX8_broke 14 = .ok (.i2l, 1) := by decide +kernel
theorem dX8_broke_15 : decode cX8_broke 15 = .ok (.lconst 0, 1) := by decide +kernel
theorem dX8_broke_16 : decode cX8_broke 16 = .ok (.aload_n 0, 1) := by decide +kernel
theorem dX8_broke_17 : decode cX8_broke 17 = .ok (.invokevirtual 220, 3) := by decide +kernel
theorem dX8_broke_20 : decode cX8_broke 20 = .ok (.i2l, 1) := by decide +kernel
theorem dX8_broke_21 : decode cX8_broke 21 = .ok (.invokestatic 123, 3) := by decide +kernel
theorem dX8_broke_24 : decode cX8_broke 24 = .ok (.ifCond .eq 16, 3) := by decide +kernel
theorem dX8_broke_27 : decode cX8_broke 27 = .ok (.iload_n 3, 1) := by decide +kernel
theorem dX8_broke_28 : decode cX8_broke 28 = .ok (.iconst (-1), 1) := by decide +kernel
theorem dX8_broke_29 : decode cX8_broke 29 = .ok (.if_icmp .eq 13, 3) := by decide +kernel
theorem dX8_broke_32 : decode cX8_broke 32 = .ok (.aload_n 0, 1) := by decide +kernel
theorem dX8_broke_33 : decode cX8_broke 33 = .ok (.iload_n 3, 1) := by decide +kernel
theorem dX8_broke_34 : decode cX8_broke 34 = .ok (.invokevirtual 140, 3) := by decide +kernel
theorem dX8_broke_37 : decode cX8_broke 37 = .ok (.ifCond .ne 5, 3) := by decide +kernel
theorem dX8_broke_40 : decode cX8_broke 40 = .ok (.iconst (-1), 1) := by decide +kernel
theorem dX8_broke_41 : decode cX8_broke 41 = .ok (.ireturn, 1) := by decide +kernel
theorem dX8_broke_42 : decode cX8_broke 42 = .ok (.aload_n 0, 1) := by decide +kernel
theorem dX8_broke_43 : decode cX8_broke 43 = .ok (.iload_n 1, 1) := by decide +kernel
theorem dX8_broke_44 : decode cX8_broke 44 = .ok (.aload_n 0, 1) := by decide +kernel
theorem dX8_broke_45 : decode cX8_broke 45 = .ok (.invokevirtual 220, 3) := by decide +kernel
theorem dX8_broke_48 : decode cX8_broke 48 = .ok (.invokevirtual 224, 3) := by decide +kernel
theorem dX8_broke_51 : decode cX8_broke 51 = .ok (.iconst 0, 1) := by decide +kernel
theorem dX8_broke_52 : decode cX8_broke 52 = .ok (.istore 4, 2) := by decide +kernel
theorem dX8_broke_54 : decode cX8_broke 54 = .ok (.iconst 0, 1) := by decide +kernel
theorem dX8_broke_55 : decode cX8_broke 55 = .ok (.istore 5, 2) := by decide +kernel
theorem dX8_broke_57 : decode cX8_broke 57 = .ok (.iload 5, 2) := by decide +kernel
theorem dX8_broke_59 : decode cX8_broke 59 = .ok (.bipush 8, 2) := by decide +kernel
theorem dX8_broke_61 : decode cX8_broke 61 = .ok (.if_icmp .ge 88, 3) := by decide +kernel
theorem dX8_broke_64 : decode cX8_broke 64 = .ok (.iload 4, 2) := by decide +kernel
theorem dX8_broke_66 : decode cX8_broke 66 = .ok (.iload_n 2, 1) := by decide +kernel
theorem dX8_broke_67 : decode cX8_broke 67 = .ok (.iload 5, 2) := by decide +kernel
theorem dX8_broke_69 : decode cX8_broke 69 = .ok (.invokestatic 154, 3) := by decide +kernel
theorem dX8_broke_72 : decode cX8_broke 72 = .ok (.ifCond .eq 13, 3) := by decide +kernel
theorem dX8_broke_75 : decode cX8_broke 75 = .ok (.aload_n 0, 1) := by decide +kernel
theorem dX8_broke_76 : decode cX8_broke 76 = .ok (.getfield 76, 3) := by decide +kernel
theorem dX8_broke_79 : decode cX8_broke 79 = .ok (.iload 5, 2) := by decide +kernel
theorem dX8_broke_81 : decode cX8_broke 81 = .ok (.iaload, 1) := by decide +kernel
theorem dX8_broke_82 : decode cX8_broke 82 = .ok (.goto 4, 3) := by decide +kernel
theorem dX8_broke_85 : decode cX8_broke 85 = .ok (.iconst 0, 1) := by decide +kernel
theorem dX8_broke_86 : decode cX8_broke 86 = .ok (.iadd, 1) := by decide +kernel
theorem dX8_broke_87 : decode cX8_broke 87 = .ok (.istore 4, 2) := by decide +kernel
theorem dX8_broke_89 : decode cX8_broke 89 = .ok (.aload_n 0, 1) := by decide +kernel
theorem dX8_broke_90 : decode cX8_broke 90 = .ok (.getfield 88, 3) := by decide +kernel
theorem dX8_broke_93 : decode cX8_broke 93 = .ok (.iload 5, 2) := by decide +kernel
theorem dX8_broke_95 : decode cX8_broke 95 = .ok (.aload_n 0, 1) := by decide +kernel
theorem dX8_broke_96 : decode cX8_broke 96 = .ok (.iload 5, 2) := by decide +kernel
theorem dX8_broke_98 : decode cX8_broke 98 = .ok (.invokevirtual 140, 3) := by decide +kernel
theorem dX8_broke_101 : decode cX8_broke 101 = .ok (.ifCond .eq 40, 3) := by decide +kernel
theorem dX8_broke_104 : decode cX8_broke 104 = .ok (.aload_n 0, 1) := by decide +kernel
theorem dX8_broke_105 : decode cX8_broke 105 = .ok (.getfield 25, 3) := by decide +kernel
theorem dX8_broke_108 : decode cX8_broke 108 = .ok (.iload 5, 2) := by decide +kernel
theorem dX8_broke_110 : decode cX8_broke 110 = .ok (.iaload, 1) := by decide +kernel
theorem dX8_broke_111 : decode cX8_broke 111 = .ok (.ifCond .ne 30, 3) := by decide +kernel
theorem dX8_broke_114 : decode cX8_broke 114 = .ok (.iload_n 2, 1) := by decide +kernel
theorem dX8_broke_115 : decode cX8_broke 115 = .ok (.iload 5, 2) := by decide +kernel
theorem dX8_broke_117 : decode cX8_broke 117 = .ok (.invokestatic 154, 3) := by decide +kernel
theorem dX8_broke_120 : decode cX8_broke 120 = .ok (.ifCond .ne 21, 3) := by decide +kernel
theorem dX8_broke_123 : decode cX8_broke 123 = .ok (.aload_n 0, 1) := by decide +kernel
theorem dX8_broke_124 : decode cX8_broke 124 = .ok (.getfield 55, 3) := by decide +kernel
theorem dX8_broke_127 : decode cX8_broke 127 = .ok (.iload 5, 2) := by decide +kernel
theorem dX8_broke_129 : decode cX8_broke 129 = .ok (.iaload, 1) := by decide +kernel
theorem dX8_broke_130 : decode cX8_broke 130 = .ok (.aload_n 0, 1) := by decide +kernel
theorem dX8_broke_131 : decode cX8_broke 131 = .ok (.getfield 76, 3) := by decide +kernel
theorem dX8_broke_134 : decode cX8_broke 134 = .ok (.iload 5, 2) := by decide +kernel
theorem dX8_broke_136 : decode cX8_broke 136 = .ok (.iaload, 1) := by decide +kernel
theorem dX8_broke_137 : decode cX8_broke 137 = .ok (.isub, 1) := by decide +kernel
theorem dX8_broke_138 : decode cX8_broke 138 = .ok (.goto 4, 3) := by decide +kernel
theorem dX8_broke_141 : decode cX8_broke 141 = .ok (.iconst 0, 1) := by decide +kernel
theorem dX8_broke_142 : decode cX8_broke 142 = .ok (.iastore, 1) := by decide +kernel
theorem dX8_broke_143 : decode cX8_broke 143 = .ok (.iinc 5 1, 3) := by decide +kernel
theorem dX8_broke_146 : decode cX8_broke 146 = .ok (.goto (-89), 3) := by decide +kernel
theorem dX8_broke_149 : decode cX8_broke 149 = .ok (.aload_n 0, 1) := by decide +kernel
theorem dX8_broke_150 : decode cX8_broke 150 = .ok (.iload 4, 2) := by decide +kernel
theorem dX8_broke_152 : decode cX8_broke 152 = .ok (.invokevirtual 195, 3) := by decide +kernel
theorem dX8_broke_155 : decode cX8_broke 155 = .ok (.istore 5, 2) := by decide +kernel
theorem dX8_broke_157 : decode cX8_broke 157 = .ok (.iload_n 3, 1) := by decide +kernel
theorem dX8_broke_158 : decode cX8_broke 158 = .ok (.iconst (-1), 1) := by decide +kernel
theorem dX8_broke_159 : decode cX8_broke 159 = .ok (.if_icmp .ne 9, 3) := by decide +kernel
theorem dX8_broke_162 : decode cX8_broke 162 = .ok (.iload 4, 2) := by decide +kernel
theorem dX8_broke_164 : decode cX8_broke 164 = .ok (.iload 5, 2) := by decide +kernel
theorem dX8_broke_166 : decode cX8_broke 166 = .ok (.isub, 1) := by decide +kernel
theorem dX8_broke_167 : decode cX8_broke 167 = .ok (.ireturn, 1) := by decide +kernel
theorem dX8_broke_168 : decode cX8_broke 168 = .ok (.iload_n 2, 1) := by decide +kernel
theorem dX8_broke_169 : decode cX8_broke 169 = .ok (.iload_n 3, 1) := by decide +kernel
theorem dX8_broke_170 : decode cX8_broke 170 = .ok (.invokestatic 154, 3) := by decide +kernel
theorem dX8_broke_173 : decode cX8_broke 173 = .ok (.ifCond .eq 7, 3) := by decide +kernel
theorem dX8_broke_176 : decode cX8_broke 176 = .ok (.iconst 0, 1) := by decide +kernel
theorem dX8_broke_177 : decode cX8_broke 177 = .ok (.goto 16, 3) := by decide +kernel
theorem dX8_broke_180 : decode cX8_broke 180 = .ok (.aload_n 0, 1) := by decide +kernel
theorem dX8_broke_181 : decode cX8_broke 181 = .ok (.getfield 76, 3) := by decide +kernel
theorem dX8_broke_184 : decode cX8_broke 184 = .ok (.iload_n 3, 1) := by decide +kernel
theorem dX8_broke_185 : decode cX8_broke 185 = .ok (.iaload, 1) := by decide +kernel
theorem dX8_broke_186 : decode cX8_broke 186 = .ok (.aload_n 0, 1) := by decide +kernel
theorem dX8_broke_187 : decode cX8_broke 187 = .ok (.getfield 91, 3) := by decide +kernel
theorem dX8_broke_190 : decode cX8_broke 190 = .ok (.iload_n 3, 1) := by decide +kernel
theorem dX8_broke_191 : decode cX8_broke 191 = .ok (.iaload, 1) := by decide +kernel
theorem dX8_broke_192 : decode cX8_broke 192 = .ok (.iadd, 1) := by decide +kernel
theorem dX8_broke_193 : decode cX8_broke 193 = .ok (.ireturn, 1) := by decide +kernel
theorem gX8_broke_X8_all : GoodIn wtX8_broke (wsV RX8 220 RX8 yX8_all wtX8_all) := tb_good (tb_v0 wd_413 wd_414 wd_415 wd_5 wd_416)
theorem gX8_broke_X8_in : GoodIn wtX8_broke (va_wsS RX8 123 yX8_in wtX8_in) := tb_good (tb_s0 wd_177 wd_178 wd_5 wd_179)
theorem gX8_broke_X8_isLoss : GoodIn wtX8_broke (wsV RX8 252 RX8 yX8_isLoss wtX8_isLoss) := tb_good (tb_v0 wd_554 wd_555 wd_556 wd_5 wd_557)
theorem gX8_broke_X8_isOn : GoodIn wtX8_broke (va_wsS RX8 154 yX8_isOn wtX8_isOn) := tb_good (tb_s0 wd_423 wd_424 wd_5 wd_425)
theorem gX8_broke_X8_isPolicy : GoodIn wtX8_broke (wsV RX8 140 RX8 yX8_isPolicy wtX8_isPolicy) := tb_good (tb_v0 wd_198 wd_199 wd_200 wd_5 wd_201)
theorem gX8_broke_X8_settlesTo : GoodIn wtX8_broke (wsV RX8 224 RX8 yX8_settlesTo wtX8_settlesTo) := tb_good (tb_v0 wd_482 wd_483 wd_484 wd_5 wd_485)
theorem gX8_broke_X8_shares : GoodIn wtX8_broke (wsV RX8 195 RX8 yX8_shares wtX8_shares) := tb_good (tb_v0 wd_450 wd_451 wd_452 wd_5 wd_453)
theorem dX8_without_0 : decode cX8_without 0 = .ok (.aload_n 0, 1) := by decide +kernel
theorem dX8_without_1 : decode cX8_without 1 = .ok (.iload_n 1, 1) := by decide +kernel
theorem dX8_without_2 : decode cX8_without 2 = .ok (.iload_n 2, 1) := by decide +kernel
theorem dX8_without_3 : decode cX8_without 3 = .ok (.invokevirtual 264, 3) := by decide +kernel
theorem dX8_without_6 : decode cX8_without 6 = .ok (.ifCond .ne 5, 3) := by decide +kernel
theorem dX8_without_9 : decode cX8_without 9 = .ok (.iconst (-1), 1) := by decide +kernel
theorem dX8_without_10 : decode cX8_without 10 = .ok (.ireturn, 1) := by decide +kernel
theorem dX8_without_11 : decode cX8_without 11 = .ok (.aload_n 0, 1) := by decide +kernel
theorem dX8_without_12 : decode cX8_without 12 = .ok (.iload_n 1, 1) := by decide +kernel
theorem dX8_without_13 : decode cX8_without 13 = .ok (.aload_n 0, 1) := by decide +kernel
theorem dX8_without_14 : decode cX8_without 14 = .ok (.invokevirtual 220, 3) := by decide +kernel
theorem dX8_without_17 : decode cX8_without 17 = .ok (.iconst 1, 1) := by decide +kernel
theorem dX8_without_18 : decode cX8_without 18 = .ok (.iload_n 2, 1) := by decide +kernel
theorem dX8_without_19 : decode cX8_without 19 = .ok (.ishl, 1) := by decide +kernel
theorem dX8_without_20 : decode cX8_without 20 = .ok (.iconst (-1), 1) := by decide +kernel
theorem dX8_without_21 : decode cX8_without 21 = .ok (.ixor, 1) := by decide +kernel
theorem dX8_without_22 : decode cX8_without 22 = .ok (.iand, 1) := by decide +kernel
theorem dX8_without_23 : decode cX8_without 23 = .ok (.invokevirtual 224, 3) := by decide +kernel
theorem dX8_without_26 : decode cX8_without 26 = .ok (.aload_n 0, 1) := by decide +kernel
theorem dX8_without_27 : decode cX8_without 27 = .ok (.getfield 198, 3) := by decide +kernel
theorem dX8_without_30 : decode cX8_without 30 = .ok (.ireturn, 1) := by decide +kernel
theorem gX8_without_X8_all : GoodIn wtX8_without (wsV RX8 220 RX8 yX8_all wtX8_all) := tb_good (tb_v0 wd_413 wd_414 wd_415 wd_5 wd_416)
theorem gX8_without_X8_isBoth : GoodIn wtX8_without (wsV RX8 264 RX8 yX8_isBoth wtX8_isBoth) := tb_good (tb_v0 wd_611 wd_612 wd_613 wd_5 wd_614)
theorem gX8_without_X8_settlesTo : GoodIn wtX8_without (wsV RX8 224 RX8 yX8_settlesTo wtX8_settlesTo) := tb_good (tb_v0 wd_482 wd_483 wd_484 wd_5 wd_485)
set_option maxHeartbeats 4000000 in
set_option maxRecDepth 100000 in
theorem m_X8_without (l : Launch) (D : va_G) (cI cJ : ClassId) (sz : Nat) (g g2 g3 g4 g5 g6 g7 g8 g9 g10 g12 g13 g15 g16 g17 g19 g20 g21 g22 g23 g24 g25 g26 g27 g28 g33 g34 g35 g36 g37 g38 g39 g41 g42 g44 g45 mn ml mv tt : Nat) (gi0 gi14 gi18 gi29 gi30 gi40 gi43 p0 p1 : Int32) (G2 G3 G4 G5 G6 G7 G8 G10 G12 G13 G19 G20 G21 G22 G23 G24 G25 G26 G27 G28 G33 G34 G35 G36 : Nat → Int32) (G37 : Nat → Int64) (li0 wo0 de0 ag0 : Nat → Nat) (hmn : mn ≤ 8) (hmL : ml ≤ 10) (hit : ∀ k, k < 10 → ∃ j : Nat, j < 8 ∧ G12 k = nI j) (hsu : ∀ k, k < 64 → ∃ j : Nat, j ≤ 1000001 ∧ G10 k = nI j) (hliv : nv G2 li0) (hlib : ∀ k, k < 8 → li0 k ≤ 1000000) (hwov : nv G5 wo0) (hwob : ∀ k, k < 8 → wo0 k ≤ 9000000) (hdev : nv G4 de0) (hdeb : ∀ k, k < 8 → de0 k ≤ 99999) (hagv : nv G3 ag0) (hagb : ∀ k, k < 8 → ag0 k ≤ 9000000) (hamt : ∀ k, k < 10 → ∃ j : Nat, j < 1000001 ∧ G13 k = nI j) (hLE : LE G19) (hLO : LO G20) (hLW : LW G25) (hSH : SH G27 tt) (htt : tt ≤ 1000000) (hmv : mv ≤ 8) : Met l yX8_without wtX8_without { frames := 9, cells := 0, slots := 0, locals := 211 } (cPc D cI cJ [.ref g, .int p0, .int p1] sz [(oX8 g gi0 (nI mn) g2 g3 g4 g5 g6 g7 g8 g9 g10 (nI ml) g12 g13 gi14 g15 g16 g17 gi18 g19 g20 g21 g22 g23 g24 g25 g26 g27 g28 gi29 gi30 (nI mv) (nI tt) g33 g34 g35 g36 g37 g38 g39 gi40 g41 g42 gi43 g44 g45), (aIc cI g2 8 G2), (aIc cI g3 8 G3), (aIc cI g4 8 G4), (aIc cI g5 8 G5), (aIc cI g6 8 G6), (aIc cI g7 8 G7), (aIc cI g8 8 G8), (aIc cI g10 64 G10), (aIc cI g12 10 G12), (aIc cI g13 10 G13), (aIc cI g19 8 G19), (aIc cI g20 8 G20), (aIc cI g21 8 G21), (aIc cI g22 8 G22), (aIc cI g23 8 G23), (aIc cI g24 8 G24), (aIc cI g25 8 G25), (aIc cI g26 8 G26), (aIc cI g27 8 G27), (aIc cI g28 8 G28), (aIc cI g33 8 G33), (aIc cI g34 8 G34), (aIc cI g35 8 G35), (aIc cI g36 8 G36), (aJc cJ g37 8 G37)]) (cQi D (fun r u => ∃ (G19p G20p G21p G22p G23p G24p G25p G26p G27p G28p G33p G34p G35p G36p : Nat → Int32) (G37p : Nat → Int64) (gi29p gi30p gi18p : Int32) (mvp ttp : Nat) (gi0p : Int32), (LE G19p) ∧ (LO G20p) ∧ (LW G25p) ∧ (SH G27p ttp) ∧ (ttp ≤ 1000000) ∧ (mvp ≤ 8) ∧ u = [(oX8 g gi0p (nI mn) g2 g3 g4 g5 g6 g7 g8 g9 g10 (nI ml) g12 g13 gi14 g15 g16 g17 gi18p g19 g20 g21 g22 g23 g24 g25 g26 g27 g28 gi29p gi30p (nI mvp) (nI ttp) g33 g34 g35 g36 g37 g38 g39 gi40 g41 g42 gi43 g44 g45), (aIc cI g2 8 G2), (aIc cI g3 8 G3), (aIc cI g4 8 G4), (aIc cI g5 8 G5), (aIc cI g6 8 G6), (aIc cI g7 8 G7), (aIc cI g8 8 G8), (aIc cI g10 64 G10), (aIc cI g12 10 G12), (aIc cI g13 10 G13), (aIc cI g19 8 G19p), (aIc cI g20 8 G20p), (aIc cI g21 8 G21p), (aIc cI g22 8 G22p), (aIc cI g23 8 G23p), (aIc cI g24 8 G24p), (aIc cI g25 8 G25p), (aIc cI g26 8 G26p), (aIc cI g27 8 G27p), (aIc cI g28 8 G28p), (aIc cI g33 8 G33p), (aIc cI g34 8 G34p), (aIc cI g35 8 G35p), (aIc cI g36 8 G36p), (aJc cJ g37 8 G37p)]) (va_A [(oX8 g gi0 (nI mn) g2 g3 g4 g5 g6 g7 g8 g9 g10 (nI ml) g12 g13 gi14 g15 g16 g17 gi18 g19 g20 g21 g22 g23 g24 g25 g26 g27 g28 gi29 gi30 (nI mv) (nI tt) g33 g34 g35 g36 g37 g38 g39 gi40 g41 g42 gi43 g44 g45), (aIc cI g2 8 G2), (aIc cI g3 8 G3), (aIc cI g4 8 G4), (aIc cI g5 8 G5), (aIc cI g6 8 G6), (aIc cI g7 8 G7), (aIc cI g8 8 G8), (aIc cI g10 64 G10), (aIc cI g12 10 G12), (aIc cI g13 10 G13), (aIc cI g19 8 G19), (aIc cI g20 8 G20), (aIc cI g21 8 G21), (aIc cI g22 8 G22), (aIc cI g23 8 G23), (aIc cI g24 8 G24), (aIc cI g25 8 G25), (aIc cI g26 8 G26), (aIc cI g27 8 G27), (aIc cI g28 8 G28), (aIc cI g33 8 G33), (aIc cI g34 8 G34), (aIc cI g35 8 G35), (aIc cI g36 8 G36), (aJc cJ g37 8 G37)] sz)) 0 0 (va_A [(oX8 g gi0 (nI mn) g2 g3 g4 g5 g6 g7 g8 g9 g10 (nI ml) g12 g13 gi14 g15 g16 g17 gi18 g19 g20 g21 g22 g23 g24 g25 g26 g27 g28 gi29 gi30 (nI mv) (nI tt) g33 g34 g35 g36 g37 g38 g39 gi40 g41 g42 gi43 g44 g45), (aIc cI g2 8 G2), (aIc cI g3 8 G3), (aIc cI g4 8 G4), (aIc cI g5 8 G5), (aIc cI g6 8 G6), (aIc cI g7 8 G7), (aIc cI g8 8 G8), (aIc cI g10 64 G10), (aIc cI g12 10 G12), (aIc cI g13 10 G13), (aIc cI g19 8 G19), (aIc cI g20 8 G20), (aIc cI g21 8 G21), (aIc cI g22 8 G22), (aIc cI g23 8 G23), (aIc cI g24 8 G24), (aIc cI g25 8 G25), (aIc cI g26 8 G26), (aIc cI g27 8 G27), (aIc cI g28 8 G28), (aIc cI g33 8 G33), (aIc cI g34 8 G34), (aIc cI g35 8 G35), (aIc cI g36 8 G36), (aJc cJ g37 8 G37)] sz) := by
  refine k_ofW (Qc := cQi D (fun r u => ∃ (G19p G20p G21p G22p G23p G24p G25p G26p G27p G28p G33p G34p G35p G36p : Nat → Int32) (G37p : Nat → Int64) (gi29p gi30p gi18p : Int32) (mvp ttp : Nat) (gi0p : Int32), (LE G19p) ∧ (LO G20p) ∧ (LW G25p) ∧ (SH G27p ttp) ∧ (ttp ≤ 1000000) ∧ (mvp ≤ 8) ∧ u = [(oX8 g gi0p (nI mn) g2 g3 g4 g5 g6 g7 g8 g9 g10 (nI ml) g12 g13 gi14 g15 g16 g17 gi18p g19 g20 g21 g22 g23 g24 g25 g26 g27 g28 gi29p gi30p (nI mvp) (nI ttp) g33 g34 g35 g36 g37 g38 g39 gi40 g41 g42 gi43 g44 g45), (aIc cI g2 8 G2), (aIc cI g3 8 G3), (aIc cI g4 8 G4), (aIc cI g5 8 G5), (aIc cI g6 8 G6), (aIc cI g7 8 G7), (aIc cI g8 8 G8), (aIc cI g10 64 G10), (aIc cI g12 10 G12), (aIc cI g13 10 G13), (aIc cI g19 8 G19p), (aIc cI g20 8 G20p), (aIc cI g21 8 G21p), (aIc cI g22 8 G22p), (aIc cI g23 8 G23p), (aIc cI g24 8 G24p), (aIc cI g25 8 G25p), (aIc cI g26 8 G26p), (aIc cI g27 8 G27p), (aIc cI g28 8 G28p), (aIc cI g33 8 G33p), (aIc cI g34 8 G34p), (aIc cI g35 8 G35p), (aIc cI g36 8 G36p), (aJc cJ g37 8 G37p)])) (by decide) rfl (Nat.le_of_ble_eq_true rfl) ?_
  intro p e s m below meth c A ls hx hb hr hml hts hown hlk hnm hsz hE hP hD hS hA hl
  have hown : s.vm.findClass RX8 = some m.cls := hown
  have hiX8 : ∀ w ∈ u_ws RX8 TX8 46, w ∈ wtX8_without := fun w h => List.mem_cons_of_mem _ (iuX8 w h)
  have hl : lv_has ls 3 [(0, .ref g), (1, .int p0), (2, .int p1)] := hl
  refine lv_aload_n hx hb dX8_without_0 rfl (lv_at hl 0 rfl) ?_
  refine lv_iload_n hx hb dX8_without_1 rfl (lv_at hl 1 rfl) ?_
  refine lv_iload_n hx hb dX8_without_2 rfl (lv_at hl 2 rfl) ?_
  refine k_i (va_runV (As := [.int p0, .int p1]) (rest := []) ⟨hx, hb, hml, hown, hts⟩ (m_X8_isBoth l D cI cJ (s.heap).size g g2 g3 g4 g5 g6 g7 g8 g9 g10 g12 g13 g15 g16 g17 g19 g20 g21 g22 g23 g24 g25 g26 g27 g28 g33 g34 g35 g36 g37 g38 g39 g41 g42 g44 g45 mn ml mv tt gi0 gi14 gi18 gi29 gi30 gi40 gi43 p0 p1 G2 G3 G4 G5 G6 G7 G8 G10 G12 G13 G19 G20 G21 G22 G23 G24 G25 G26 G27 G28 G33 G34 G35 G36 G37 li0 wo0 de0 ag0 hmn hmL hit hsu hliv hlib hwov hwob hdev hdeb hagv hagb hamt hLE hLO hLW hSH htt hmv) (cwV 2 hts gX8_without_X8_isBoth rfl rfl rfl (by decide +kernel) ⟨Nat.le_of_ble_eq_true rfl, Nat.le_of_ble_eq_true rfl⟩) (k_preV hE hP hD [0, 1, 2, 3, 4, 5, 6, 7, 8, 9, 10, 11, 12, 13, 14, 15, 16, 17, 18, 19, 20, 21, 22, 23, 24, 25] (by decide +kernel) rfl 0 rfl rfl) rfl rfl hl.1 rfl (lv_room (Nat.le_of_ble_eq_true rfl)) dX8_without_3 ⟨Nat.le_of_ble_eq_true rfl, Nat.le_of_ble_eq_true rfl⟩) hP hD hS hA [0, 1, 2, 3, 4, 5, 6, 7, 8, 9, 10, 11, 12, 13, 14, 15, 16, 17, 18, 19, 20, 21, 22, 23, 24, 25] [] rfl (wr := []) rfl (by decide +kernel) (by decide +kernel) (fun r1 u H locs hw2 hP hD hS => ?_)
  obtain ⟨z3, z4, z5, z6, z7, z8, z9, z10, z11, z12, z13, z14, z15, z16, z17, z18, z19, z20, z21, z22, z23, hz24, hz25, hz26, hz27, hz28, hz29, hz30, rfl⟩ := hw2
  refine k_re (w := [(oX8 g z23 (nI mn) g2 g3 g4 g5 g6 g7 g8 g9 g10 (nI ml) g12 g13 gi14 g15 g16 g17 z20 g19 g20 g21 g22 g23 g24 g25 g26 g27 g28 z18 z19 (nI z21) (nI z22) g33 g34 g35 g36 g37 g38 g39 gi40 g41 g42 gi43 g44 g45), (aIc cI g2 8 G2), (aIc cI g3 8 G3), (aIc cI g4 8 G4), (aIc cI g5 8 G5), (aIc cI g6 8 G6), (aIc cI g7 8 G7), (aIc cI g8 8 G8), (aIc cI g10 64 G10), (aIc cI g12 10 G12), (aIc cI g13 10 G13), (aIc cI g19 8 z3), (aIc cI g20 8 z4), (aIc cI g21 8 z5), (aIc cI g22 8 z6), (aIc cI g23 8 z7), (aIc cI g24 8 z8), (aIc cI g25 8 z9), (aIc cI g26 8 z10), (aIc cI g27 8 z11), (aIc cI g28 8 z12), (aIc cI g33 8 z13), (aIc cI g34 8 z14), (aIc cI g35 8 z15), (aIc cI g36 8 z16), (aJc cJ g37 8 z17)]) hP hD (fun hP hD => ?_)
  refine lv_if_ne (tgt := 11) hx hb dX8_without_6 (by decide) (fun c31 => ?_) (fun c31 => ?_)
  · skip
    obtain ⟨_, hbl, hbp⟩ := hz30.resolve_left c31
    obtain ⟨lj, hlj, elj⟩ := wi_n (by omega) hbl
    rw [elj] at hl
    obtain ⟨pj, hpj, epj⟩ := wi_n (by omega) hbp
    rw [epj] at hl
    refine lv_aload_n hx hb dX8_without_11 rfl (lv_at hl 0 rfl) ?_
    refine lv_iload_n hx hb dX8_without_12 rfl (lv_at hl 1 rfl) ?_
    refine lv_aload_n hx hb dX8_without_13 rfl (lv_at hl 0 rfl) ?_
    refine k_iS (va_runV (As := []) (rest := [.int (nI lj), .ref g]) ⟨hx, hb, hml, hown, hts⟩ (m_X8_all l D cI cJ H.size g g2 g3 g4 g5 g6 g7 g8 g9 g10 g12 g13 g15 g16 g17 g19 g20 g21 g22 g23 g24 g25 g26 g27 g28 g33 g34 g35 g36 g37 g38 g39 g41 g42 g44 g45 mn ml z21 z23 gi14 z20 z18 z19 (nI z22) gi40 gi43 hmn) (cwV 0 hts gX8_without_X8_all rfl rfl rfl (by decide +kernel) ⟨Nat.le_of_ble_eq_true rfl, Nat.le_of_ble_eq_true rfl⟩) (k_preV hE hP hD [0] (by decide +kernel) rfl 0 rfl rfl) rfl rfl hl.1 rfl (lv_room (Nat.le_of_ble_eq_true rfl)) dX8_without_14 ⟨Nat.le_of_ble_eq_true rfl, Nat.le_of_ble_eq_true rfl⟩) hP hD hS hA [0] rfl (fun _ _ ⟨_, h9⟩ => h9) (fun r32 H locs hw33 hP hD hS => ?_)
    obtain ⟨rfl, -⟩ := hw33
    refine lv_iconst (v := 1) hx hb dX8_without_17 (by decide) ?_
    refine lv_iload_n hx hb dX8_without_18 rfl (lv_at hl 2 rfl) ?_
    refine lv_ishl hx hb dX8_without_19 ?_
    refine lv_topi (fun v34 ev34 => ?_)
    refine lv_iconst (v := (-1)) hx hb dX8_without_20 (by decide) ?_
    refine lv_ixor hx hb dX8_without_21 ?_
    refine lv_topi (fun v35 ev35 => ?_)
    refine lv_iand hx hb dX8_without_22 ?_
    refine lv_topi (fun v36 ev36 => ?_)
    refine k_v (va_runV (As := [.int (nI lj), .int v36]) (rest := []) ⟨hx, hb, hml, hown, hts⟩ (m_X8_settlesTo l D cI cJ H.size g g2 g3 g4 g5 g6 g7 g8 g9 g10 g12 g13 g15 g16 g17 g19 g20 g21 g22 g23 g24 g25 g26 g27 g28 g33 g34 g35 g36 g37 g38 g39 g41 g42 g44 g45 mn ml z21 z22 (lj + 1) z23 gi14 z20 z18 z19 gi40 gi43 (nI lj) v36 G2 G3 G4 G5 G6 G7 G8 G10 G12 G13 z3 z4 z5 z6 z7 z8 z9 z10 z11 z12 z13 z14 z15 z16 z17 li0 wo0 de0 ag0 (nI_pred lj).symm (by omega) hit hsu hliv hlib hwov hwob hdev hdeb hagv hagb hamt hz24 hz25 hz26 hz27 hz28 hz29) (cwV 2 hts gX8_without_X8_settlesTo rfl rfl rfl (by decide +kernel) ⟨Nat.le_of_ble_eq_true rfl, Nat.le_of_ble_eq_true rfl⟩) (k_preV hE hP hD [0, 1, 2, 3, 4, 5, 6, 7, 8, 9, 10, 11, 12, 13, 14, 15, 16, 17, 18, 19, 20, 21, 22, 23, 24, 25] (by decide +kernel) rfl 0 rfl rfl) rfl rfl hl.1 rfl (lv_room (Nat.le_of_ble_eq_true rfl)) dX8_without_23 ⟨Nat.le_of_ble_eq_true rfl, Nat.le_of_ble_eq_true rfl⟩) hP hD hS hA [0, 1, 2, 3, 4, 5, 6, 7, 8, 9, 10, 11, 12, 13, 14, 15, 16, 17, 18, 19, 20, 21, 22, 23, 24, 25] [] rfl (wr := []) rfl (by decide +kernel) (by decide +kernel) (fun u H locs hw37 hP hD hS => ?_)
    obtain ⟨z38, z39, z40, z41, z42, z43, z44, z45, z46, z47, z48, z49, z50, z51, z52, z53, z54, z55, z56, z57, hz58, hz59, hz60, hz61, hz62, hz63, hz64, rfl⟩ := hw37
    refine k_re (w := [(oX8 g z23 (nI mn) g2 g3 g4 g5 g6 g7 g8 g9 g10 (nI ml) g12 g13 gi14 g15 g16 g17 z55 g19 g20 g21 g22 g23 g24 g25 g26 g27 g28 z53 z54 (nI z56) (nI z57) g33 g34 g35 g36 g37 g38 g39 gi40 g41 g42 gi43 g44 g45), (aIc cI g2 8 G2), (aIc cI g3 8 G3), (aIc cI g4 8 G4), (aIc cI g5 8 G5), (aIc cI g6 8 G6), (aIc cI g7 8 G7), (aIc cI g8 8 G8), (aIc cI g10 64 G10), (aIc cI g12 10 G12), (aIc cI g13 10 G13), (aIc cI g19 8 z38), (aIc cI g20 8 z39), (aIc cI g21 8 z40), (aIc cI g22 8 z41), (aIc cI g23 8 z42), (aIc cI g24 8 z43), (aIc cI g25 8 z44), (aIc cI g26 8 z45), (aIc cI g27 8 z46), (aIc cI g28 8 z47), (aIc cI g33 8 z48), (aIc cI g34 8 z49), (aIc cI g35 8 z50), (aIc cI g36 8 z51), (aJc cJ g37 8 z52)]) hP hD (fun hP hD => ?_)
    refine lv_aload_n hx hb dX8_without_26 rfl (lv_at hl 0 rfl) ?_
    refine va_get (D := D) (ci := 8) (v := .int (nI z57)) (C := RX8) (T := TX8) (N := 46) hx hb hts hiX8 hown hE.1 hP 0 rfl rfl 32 (by decide) (hts _ (List.mem_cons_of_mem _ wd_412)) (fun _ h9 => h9) rfl dX8_without_27 ?_
    refine k_iret (u := [(oX8 g z23 (nI mn) g2 g3 g4 g5 g6 g7 g8 g9 g10 (nI ml) g12 g13 gi14 g15 g16 g17 z55 g19 g20 g21 g22 g23 g24 g25 g26 g27 g28 z53 z54 (nI z56) (nI z57) g33 g34 g35 g36 g37 g38 g39 gi40 g41 g42 gi43 g44 g45), (aIc cI g2 8 G2), (aIc cI g3 8 G3), (aIc cI g4 8 G4), (aIc cI g5 8 G5), (aIc cI g6 8 G6), (aIc cI g7 8 G7), (aIc cI g8 8 G8), (aIc cI g10 64 G10), (aIc cI g12 10 G12), (aIc cI g13 10 G13), (aIc cI g19 8 z38), (aIc cI g20 8 z39), (aIc cI g21 8 z40), (aIc cI g22 8 z41), (aIc cI g23 8 z42), (aIc cI g24 8 z43), (aIc cI g25 8 z44), (aIc cI g26 8 z45), (aIc cI g27 8 z46), (aIc cI g28 8 z47), (aIc cI g33 8 z48), (aIc cI g34 8 z49), (aIc cI g35 8 z50), (aIc cI g36 8 z51), (aJc cJ g37 8 z52)]) hx hb hr hlk hP hD hS dX8_without_30 ?_
    exact ⟨z38, z39, z40, z41, z42, z43, z44, z45, z46, z47, z48, z49, z50, z51, z52, z53, z54, z55, z56, z57, z23, hz58, hz59, hz60, hz61, hz62, hz63, rfl⟩
  · skip
    refine lv_iconst (v := (-1)) hx hb dX8_without_9 (by decide) ?_
    refine k_iret (u := [(oX8 g z23 (nI mn) g2 g3 g4 g5 g6 g7 g8 g9 g10 (nI ml) g12 g13 gi14 g15 g16 g17 z20 g19 g20 g21 g22 g23 g24 g25 g26 g27 g28 z18 z19 (nI z21) (nI z22) g33 g34 g35 g36 g37 g38 g39 gi40 g41 g42 gi43 g44 g45), (aIc cI g2 8 G2), (aIc cI g3 8 G3), (aIc cI g4 8 G4), (aIc cI g5 8 G5), (aIc cI g6 8 G6), (aIc cI g7 8 G7), (aIc cI g8 8 G8), (aIc cI g10 64 G10), (aIc cI g12 10 G12), (aIc cI g13 10 G13), (aIc cI g19 8 z3), (aIc cI g20 8 z4), (aIc cI g21 8 z5), (aIc cI g22 8 z6), (aIc cI g23 8 z7), (aIc cI g24 8 z8), (aIc cI g25 8 z9), (aIc cI g26 8 z10), (aIc cI g27 8 z11), (aIc cI g28 8 z12), (aIc cI g33 8 z13), (aIc cI g34 8 z14), (aIc cI g35 8 z15), (aIc cI g36 8 z16), (aJc cJ g37 8 z17)]) hx hb hr hlk hP hD hS dX8_without_10 ?_
    exact ⟨z3, z4, z5, z6, z7, z8, z9, z10, z11, z12, z13, z14, z15, z16, z17, z18, z19, z20, z21, z22, z23, hz24, hz25, hz26, hz27, hz28, hz29, rfl⟩
theorem dX8_other_0 : decode cX8_other 0 = .ok (.aload_n 0, 1) := by decide +kernel
theorem dX8_other_1 : decode cX8_other 1 = .ok (.iload_n 1, 1) := by decide +kernel
theorem dX8_other_2 : decode cX8_other 2 = .ok (.iload_n 2, 1) := by decide +kernel
theorem dX8_other_3 : decode cX8_other 3 = .ok (.invokevirtual 264, 3) := by decide +kernel
theorem dX8_other_6 : decode cX8_other 6 = .ok (.ifCond .ne 5, 3) := by decide +kernel
theorem dX8_other_9 : decode cX8_other 9 = .ok (.iconst (-1), 1) := by decide +kernel
theorem dX8_other_10 : decode cX8_other 10 = .ok (.ireturn, 1) := by decide +kernel
theorem dX8_other_11 : decode cX8_other 11 = .ok (.aload_n 0, 1) := by decide +kernel
theorem dX8_other_12 : decode cX8_other 12 = .ok (.iconst 1, 1) := by decide +kernel
theorem dX8_other_13 : decode cX8_other 13 = .ok (.aload_n 0, 1) := by decide +kernel
theorem dX8_other_14 : decode cX8_other 14 = .ok (.getfield 151, 3) := by decide +kernel
theorem dX8_other_17 : decode cX8_other 17 = .ok (.isub, 1) := by decide +kernel
theorem dX8_other_18 : decode cX8_other 18 = .ok (.putfield 151, 3) := by decide +kernel
theorem dX8_other_21 : decode cX8_other 21 = .ok (.aload_n 0, 1) := by decide +kernel
theorem dX8_other_22 : decode cX8_other 22 = .ok (.iload_n 1, 1) := by decide +kernel
theorem dX8_other_23 : decode cX8_other 23 = .ok (.aload_n 0, 1) := by decide +kernel
theorem dX8_other_24 : decode cX8_other 24 = .ok (.invokevirtual 220, 3) := by decide +kernel
theorem dX8_other_27 : decode cX8_other 27 = .ok (.invokevirtual 224, 3) := by decide +kernel
theorem dX8_other_30 : decode cX8_other 30 = .ok (.aload_n 0, 1) := by decide +kernel
theorem dX8_other_31 : decode cX8_other 31 = .ok (.iconst 1, 1) := by decide +kernel
theorem dX8_other_32 : decode cX8_other 32 = .ok (.aload_n 0, 1) := by decide +kernel
theorem dX8_other_33 : decode cX8_other 33 = .ok (.getfield 151, 3) := by decide +kernel
theorem dX8_other_36 : decode cX8_other 36 = .ok (.isub, 1) := by decide +kernel
theorem dX8_other_37 : decode cX8_other 37 = .ok (.putfield 151, 3) := by decide +kernel
theorem dX8_other_40 : decode cX8_other 40 = .ok (.aload_n 0, 1) := by decide +kernel
theorem dX8_other_41 : decode cX8_other 41 = .ok (.getfield 76, 3) := by decide +kernel
theorem dX8_other_44 : decode cX8_other 44 = .ok (.iload_n 2, 1) := by decide +kernel
theorem dX8_other_45 : decode cX8_other 45 = .ok (.iaload, 1) := by decide +kernel
theorem dX8_other_46 : decode cX8_other 46 = .ok (.ireturn, 1) := by decide +kernel
theorem gX8_other_X8_all : GoodIn wtX8_other (wsV RX8 220 RX8 yX8_all wtX8_all) := tb_good (tb_v0 wd_413 wd_414 wd_415 wd_5 wd_416)
theorem gX8_other_X8_isBoth : GoodIn wtX8_other (wsV RX8 264 RX8 yX8_isBoth wtX8_isBoth) := tb_good (tb_v0 wd_611 wd_612 wd_613 wd_5 wd_614)
theorem gX8_other_X8_settlesTo : GoodIn wtX8_other (wsV RX8 224 RX8 yX8_settlesTo wtX8_settlesTo) := tb_good (tb_v0 wd_482 wd_483 wd_484 wd_5 wd_485)
set_option maxHeartbeats 4000000 in
set_option maxRecDepth 100000 in
theorem m_X8_other (l : Launch) (D : va_G) (cI cJ : ClassId) (sz : Nat) (g g2 g3 g4 g5 g6 g7 g8 g9 g10 g12 g13 g15 g16 g17 g19 g20 g21 g22 g23 g24 g25 g26 g27 g28 g33 g34 g35 g36 g37 g38 g39 g41 g42 g44 g45 mn ml mv tt : Nat) (gi0 gi14 gi18 gi29 gi30 gi40 gi43 p0 p1 : Int32) (G2 G3 G4 G5 G6 G7 G8 G10 G12 G13 G19 G20 G21 G22 G23 G24 G25 G26 G27 G28 G33 G34 G35 G36 : Nat → Int32) (G37 : Nat → Int64) (li0 wo0 de0 ag0 : Nat → Nat) (hmn : mn ≤ 8) (hmL : ml ≤ 10) (hit : ∀ k, k < 10 → ∃ j : Nat, j < 8 ∧ G12 k = nI j) (hsu : ∀ k, k < 64 → ∃ j : Nat, j ≤ 1000001 ∧ G10 k = nI j) (hliv : nv G2 li0) (hlib : ∀ k, k < 8 → li0 k ≤ 1000000) (hwov : nv G5 wo0) (hwob : ∀ k, k < 8 → wo0 k ≤ 9000000) (hdev : nv G4 de0) (hdeb : ∀ k, k < 8 → de0 k ≤ 99999) (hagv : nv G3 ag0) (hagb : ∀ k, k < 8 → ag0 k ≤ 9000000) (hamt : ∀ k, k < 10 → ∃ j : Nat, j < 1000001 ∧ G13 k = nI j) (hLE : LE G19) (hLO : LO G20) (hLW : LW G25) (hSH : SH G27 tt) (htt : tt ≤ 1000000) (hmv : mv ≤ 8) : Met l yX8_other wtX8_other { frames := 9, cells := 0, slots := 0, locals := 211 } (cPc D cI cJ [.ref g, .int p0, .int p1] sz [(oX8 g gi0 (nI mn) g2 g3 g4 g5 g6 g7 g8 g9 g10 (nI ml) g12 g13 gi14 g15 g16 g17 gi18 g19 g20 g21 g22 g23 g24 g25 g26 g27 g28 gi29 gi30 (nI mv) (nI tt) g33 g34 g35 g36 g37 g38 g39 gi40 g41 g42 gi43 g44 g45), (aIc cI g2 8 G2), (aIc cI g3 8 G3), (aIc cI g4 8 G4), (aIc cI g5 8 G5), (aIc cI g6 8 G6), (aIc cI g7 8 G7), (aIc cI g8 8 G8), (aIc cI g10 64 G10), (aIc cI g12 10 G12), (aIc cI g13 10 G13), (aIc cI g19 8 G19), (aIc cI g20 8 G20), (aIc cI g21 8 G21), (aIc cI g22 8 G22), (aIc cI g23 8 G23), (aIc cI g24 8 G24), (aIc cI g25 8 G25), (aIc cI g26 8 G26), (aIc cI g27 8 G27), (aIc cI g28 8 G28), (aIc cI g33 8 G33), (aIc cI g34 8 G34), (aIc cI g35 8 G35), (aIc cI g36 8 G36), (aJc cJ g37 8 G37)]) (cQi D (fun r u => ∃ (G19p G20p G21p G22p G23p G24p G25p G26p G27p G28p G33p G34p G35p G36p : Nat → Int32) (G37p : Nat → Int64) (gi29p gi30p gi18p : Int32) (mvp ttp : Nat) (gi0p : Int32), (LE G19p) ∧ (LO G20p) ∧ (LW G25p) ∧ (SH G27p ttp) ∧ (ttp ≤ 1000000) ∧ (mvp ≤ 8) ∧ u = [(oX8 g gi0p (nI mn) g2 g3 g4 g5 g6 g7 g8 g9 g10 (nI ml) g12 g13 gi14 g15 g16 g17 gi18p g19 g20 g21 g22 g23 g24 g25 g26 g27 g28 gi29p gi30p (nI mvp) (nI ttp) g33 g34 g35 g36 g37 g38 g39 gi40 g41 g42 gi43 g44 g45), (aIc cI g2 8 G2), (aIc cI g3 8 G3), (aIc cI g4 8 G4), (aIc cI g5 8 G5), (aIc cI g6 8 G6), (aIc cI g7 8 G7), (aIc cI g8 8 G8), (aIc cI g10 64 G10), (aIc cI g12 10 G12), (aIc cI g13 10 G13), (aIc cI g19 8 G19p), (aIc cI g20 8 G20p), (aIc cI g21 8 G21p), (aIc cI g22 8 G22p), (aIc cI g23 8 G23p), (aIc cI g24 8 G24p), (aIc cI g25 8 G25p), (aIc cI g26 8 G26p), (aIc cI g27 8 G27p), (aIc cI g28 8 G28p), (aIc cI g33 8 G33p), (aIc cI g34 8 G34p), (aIc cI g35 8 G35p), (aIc cI g36 8 G36p), (aJc cJ g37 8 G37p)]) (va_A [(oX8 g gi0 (nI mn) g2 g3 g4 g5 g6 g7 g8 g9 g10 (nI ml) g12 g13 gi14 g15 g16 g17 gi18 g19 g20 g21 g22 g23 g24 g25 g26 g27 g28 gi29 gi30 (nI mv) (nI tt) g33 g34 g35 g36 g37 g38 g39 gi40 g41 g42 gi43 g44 g45), (aIc cI g2 8 G2), (aIc cI g3 8 G3), (aIc cI g4 8 G4), (aIc cI g5 8 G5), (aIc cI g6 8 G6), (aIc cI g7 8 G7), (aIc cI g8 8 G8), (aIc cI g10 64 G10), (aIc cI g12 10 G12), (aIc cI g13 10 G13), (aIc cI g19 8 G19), (aIc cI g20 8 G20), (aIc cI g21 8 G21), (aIc cI g22 8 G22), (aIc cI g23 8 G23), (aIc cI g24 8 G24), (aIc cI g25 8 G25), (aIc cI g26 8 G26), (aIc cI g27 8 G27), (aIc cI g28 8 G28), (aIc cI g33 8 G33), (aIc cI g34 8 G34), (aIc cI g35 8 G35), (aIc cI g36 8 G36), (aJc cJ g37 8 G37)] sz)) 0 0 (va_A [(oX8 g gi0 (nI mn) g2 g3 g4 g5 g6 g7 g8 g9 g10 (nI ml) g12 g13 gi14 g15 g16 g17 gi18 g19 g20 g21 g22 g23 g24 g25 g26 g27 g28 gi29 gi30 (nI mv) (nI tt) g33 g34 g35 g36 g37 g38 g39 gi40 g41 g42 gi43 g44 g45), (aIc cI g2 8 G2), (aIc cI g3 8 G3), (aIc cI g4 8 G4), (aIc cI g5 8 G5), (aIc cI g6 8 G6), (aIc cI g7 8 G7), (aIc cI g8 8 G8), (aIc cI g10 64 G10), (aIc cI g12 10 G12), (aIc cI g13 10 G13), (aIc cI g19 8 G19), (aIc cI g20 8 G20), (aIc cI g21 8 G21), (aIc cI g22 8 G22), (aIc cI g23 8 G23), (aIc cI g24 8 G24), (aIc cI g25 8 G25), (aIc cI g26 8 G26), (aIc cI g27 8 G27), (aIc cI g28 8 G28), (aIc cI g33 8 G33), (aIc cI g34 8 G34), (aIc cI g35 8 G35), (aIc cI g36 8 G36), (aJc cJ g37 8 G37)] sz) := by
  refine k_ofW (Qc := cQi D (fun r u => ∃ (G19p G20p G21p G22p G23p G24p G25p G26p G27p G28p G33p G34p G35p G36p : Nat → Int32) (G37p : Nat → Int64) (gi29p gi30p gi18p : Int32) (mvp ttp : Nat) (gi0p : Int32), (LE G19p) ∧ (LO G20p) ∧ (LW G25p) ∧ (SH G27p ttp) ∧ (ttp ≤ 1000000) ∧ (mvp ≤ 8) ∧ u = [(oX8 g gi0p (nI mn) g2 g3 g4 g5 g6 g7 g8 g9 g10 (nI ml) g12 g13 gi14 g15 g16 g17 gi18p g19 g20 g21 g22 g23 g24 g25 g26 g27 g28 gi29p gi30p (nI mvp) (nI ttp) g33 g34 g35 g36 g37 g38 g39 gi40 g41 g42 gi43 g44 g45), (aIc cI g2 8 G2), (aIc cI g3 8 G3), (aIc cI g4 8 G4), (aIc cI g5 8 G5), (aIc cI g6 8 G6), (aIc cI g7 8 G7), (aIc cI g8 8 G8), (aIc cI g10 64 G10), (aIc cI g12 10 G12), (aIc cI g13 10 G13), (aIc cI g19 8 G19p), (aIc cI g20 8 G20p), (aIc cI g21 8 G21p), (aIc cI g22 8 G22p), (aIc cI g23 8 G23p), (aIc cI g24 8 G24p), (aIc cI g25 8 G25p), (aIc cI g26 8 G26p), (aIc cI g27 8 G27p), (aIc cI g28 8 G28p), (aIc cI g33 8 G33p), (aIc cI g34 8 G34p), (aIc cI g35 8 G35p), (aIc cI g36 8 G36p), (aJc cJ g37 8 G37p)])) (by decide) rfl (Nat.le_of_ble_eq_true rfl) ?_
  intro p e s m below meth c A ls hx hb hr hml hts hown hlk hnm hsz hE hP hD hS hA hl
  have hown : s.vm.findClass RX8 = some m.cls := hown
  have hiX8 : ∀ w ∈ u_ws RX8 TX8 46, w ∈ wtX8_other := fun w h => List.mem_cons_of_mem _ (iuX8 w h)
  have hl : lv_has ls 3 [(0, .ref g), (1, .int p0), (2, .int p1)] := hl
  refine lv_aload_n hx hb dX8_other_0 rfl (lv_at hl 0 rfl) ?_
  refine lv_iload_n hx hb dX8_other_1 rfl (lv_at hl 1 rfl) ?_
  refine lv_iload_n hx hb dX8_other_2 rfl (lv_at hl 2 rfl) ?_
  refine k_i (va_runV (As := [.int p0, .int p1]) (rest := []) ⟨hx, hb, hml, hown, hts⟩ (m_X8_isBoth l D cI cJ (s.heap).size g g2 g3 g4 g5 g6 g7 g8 g9 g10 g12 g13 g15 g16 g17 g19 g20 g21 g22 g23 g24 g25 g26 g27 g28 g33 g34 g35 g36 g37 g38 g39 g41 g42 g44 g45 mn ml mv tt gi0 gi14 gi18 gi29 gi30 gi40 gi43 p0 p1 G2 G3 G4 G5 G6 G7 G8 G10 G12 G13 G19 G20 G21 G22 G23 G24 G25 G26 G27 G28 G33 G34 G35 G36 G37 li0 wo0 de0 ag0 hmn hmL hit hsu hliv hlib hwov hwob hdev hdeb hagv hagb hamt hLE hLO hLW hSH htt hmv) (cwV 2 hts gX8_other_X8_isBoth rfl rfl rfl (by decide +kernel) ⟨Nat.le_of_ble_eq_true rfl, Nat.le_of_ble_eq_true rfl⟩) (k_preV hE hP hD [0, 1, 2, 3, 4, 5, 6, 7, 8, 9, 10, 11, 12, 13, 14, 15, 16, 17, 18, 19, 20, 21, 22, 23, 24, 25] (by decide +kernel) rfl 0 rfl rfl) rfl rfl hl.1 rfl (lv_room (Nat.le_of_ble_eq_true rfl)) dX8_other_3 ⟨Nat.le_of_ble_eq_true rfl, Nat.le_of_ble_eq_true rfl⟩) hP hD hS hA [0, 1, 2, 3, 4, 5, 6, 7, 8, 9, 10, 11, 12, 13, 14, 15, 16, 17, 18, 19, 20, 21, 22, 23, 24, 25] [] rfl (wr := []) rfl (by decide +kernel) (by decide +kernel) (fun r1 u H locs hw2 hP hD hS => ?_)
  obtain ⟨z3, z4, z5, z6, z7, z8, z9, z10, z11, z12, z13, z14, z15, z16, z17, z18, z19, z20, z21, z22, z23, hz24, hz25, hz26, hz27, hz28, hz29, hz30, rfl⟩ := hw2
  refine k_re (w := [(oX8 g z23 (nI mn) g2 g3 g4 g5 g6 g7 g8 g9 g10 (nI ml) g12 g13 gi14 g15 g16 g17 z20 g19 g20 g21 g22 g23 g24 g25 g26 g27 g28 z18 z19 (nI z21) (nI z22) g33 g34 g35 g36 g37 g38 g39 gi40 g41 g42 gi43 g44 g45), (aIc cI g2 8 G2), (aIc cI g3 8 G3), (aIc cI g4 8 G4), (aIc cI g5 8 G5), (aIc cI g6 8 G6), (aIc cI g7 8 G7), (aIc cI g8 8 G8), (aIc cI g10 64 G10), (aIc cI g12 10 G12), (aIc cI g13 10 G13), (aIc cI g19 8 z3), (aIc cI g20 8 z4), (aIc cI g21 8 z5), (aIc cI g22 8 z6), (aIc cI g23 8 z7), (aIc cI g24 8 z8), (aIc cI g25 8 z9), (aIc cI g26 8 z10), (aIc cI g27 8 z11), (aIc cI g28 8 z12), (aIc cI g33 8 z13), (aIc cI g34 8 z14), (aIc cI g35 8 z15), (aIc cI g36 8 z16), (aJc cJ g37 8 z17)]) hP hD (fun hP hD => ?_)
  refine lv_if_ne (tgt := 11) hx hb dX8_other_6 (by decide) (fun c31 => ?_) (fun c31 => ?_)
  · skip
    obtain ⟨_, hbl, hbp⟩ := hz30.resolve_left c31
    obtain ⟨lj, hlj, elj⟩ := wi_n (by omega) hbl
    rw [elj] at hl
    obtain ⟨pj, hpj, epj⟩ := wi_n (by omega) hbp
    rw [epj] at hl
    refine lv_aload_n hx hb dX8_other_11 rfl (lv_at hl 0 rfl) ?_
    refine lv_iconst (v := 1) hx hb dX8_other_12 (by decide) ?_
    refine lv_aload_n hx hb dX8_other_13 rfl (lv_at hl 0 rfl) ?_
    refine va_get (D := D) (ci := 8) (v := .int gi14) (C := RX8) (T := TX8) (N := 46) hx hb hts hiX8 hown hE.1 hP 0 rfl rfl 14 (by decide) (hts _ (List.mem_cons_of_mem _ wd_269)) (fun _ h9 => h9) rfl dX8_other_14 ?_
    refine lv_isub hx hb dX8_other_17 ?_
    refine lv_topi (fun v32 ev32 => ?_)
    refine va_put (D := D) (ci := 8) (v := .int v32) (ty := .int) (C := RX8) (T := TX8) (N := 46) hx hb hts hiX8 tyX8 tyX8_ok nmX8 hown hE.1 hP hD hS 0 rfl rfl 14 (by decide) (hts _ (List.mem_cons_of_mem _ wd_269)) (fun _ h9 => h9) rfl (by decide +kernel) rfl rfl (Nat.le_of_ble_eq_true rfl) dX8_other_18 (fun H locs hP hD hS => ?_)
    refine k_re (w := [(oX8 g z23 (nI mn) g2 g3 g4 g5 g6 g7 g8 g9 g10 (nI ml) g12 g13 v32 g15 g16 g17 z20 g19 g20 g21 g22 g23 g24 g25 g26 g27 g28 z18 z19 (nI z21) (nI z22) g33 g34 g35 g36 g37 g38 g39 gi40 g41 g42 gi43 g44 g45), (aIc cI g2 8 G2), (aIc cI g3 8 G3), (aIc cI g4 8 G4), (aIc cI g5 8 G5), (aIc cI g6 8 G6), (aIc cI g7 8 G7), (aIc cI g8 8 G8), (aIc cI g10 64 G10), (aIc cI g12 10 G12), (aIc cI g13 10 G13), (aIc cI g19 8 z3), (aIc cI g20 8 z4), (aIc cI g21 8 z5), (aIc cI g22 8 z6), (aIc cI g23 8 z7), (aIc cI g24 8 z8), (aIc cI g25 8 z9), (aIc cI g26 8 z10), (aIc cI g27 8 z11), (aIc cI g28 8 z12), (aIc cI g33 8 z13), (aIc cI g34 8 z14), (aIc cI g35 8 z15), (aIc cI g36 8 z16), (aJc cJ g37 8 z17)]) hP hD (fun hP hD => ?_)
    refine lv_aload_n hx hb dX8_other_21 rfl (lv_at hl 0 rfl) ?_
    refine lv_iload_n hx hb dX8_other_22 rfl (lv_at hl 1 rfl) ?_
    refine lv_aload_n hx hb dX8_other_23 rfl (lv_at hl 0 rfl) ?_
    refine k_iS (va_runV (As := []) (rest := [.int (nI lj), .ref g]) ⟨hx, hb, hml, hown, hts⟩ (m_X8_all l D cI cJ H.size g g2 g3 g4 g5 g6 g7 g8 g9 g10 g12 g13 g15 g16 g17 g19 g20 g21 g22 g23 g24 g25 g26 g27 g28 g33 g34 g35 g36 g37 g38 g39 g41 g42 g44 g45 mn ml z21 z23 v32 z20 z18 z19 (nI z22) gi40 gi43 hmn) (cwV 0 hts gX8_other_X8_all rfl rfl rfl (by decide +kernel) ⟨Nat.le_of_ble_eq_true rfl, Nat.le_of_ble_eq_true rfl⟩) (k_preV hE hP hD [0] (by decide +kernel) rfl 0 rfl rfl) rfl rfl hl.1 rfl (lv_room (Nat.le_of_ble_eq_true rfl)) dX8_other_24 ⟨Nat.le_of_ble_eq_true rfl, Nat.le_of_ble_eq_true rfl⟩) hP hD hS hA [0] rfl (fun _ _ ⟨_, h9⟩ => h9) (fun r33 H locs hw34 hP hD hS => ?_)
    obtain ⟨rfl, -⟩ := hw34
    refine k_v (va_runV (As := [.int (nI lj), .int (nI (2 ^ mn - 1))]) (rest := []) ⟨hx, hb, hml, hown, hts⟩ (m_X8_settlesTo l D cI cJ H.size g g2 g3 g4 g5 g6 g7 g8 g9 g10 g12 g13 g15 g16 g17 g19 g20 g21 g22 g23 g24 g25 g26 g27 g28 g33 g34 g35 g36 g37 g38 g39 g41 g42 g44 g45 mn ml z21 z22 (lj + 1) z23 v32 z20 z18 z19 gi40 gi43 (nI lj) (nI (2 ^ mn - 1)) G2 G3 G4 G5 G6 G7 G8 G10 G12 G13 z3 z4 z5 z6 z7 z8 z9 z10 z11 z12 z13 z14 z15 z16 z17 li0 wo0 de0 ag0 (nI_pred lj).symm (by omega) hit hsu hliv hlib hwov hwob hdev hdeb hagv hagb hamt hz24 hz25 hz26 hz27 hz28 hz29) (cwV 2 hts gX8_other_X8_settlesTo rfl rfl rfl (by decide +kernel) ⟨Nat.le_of_ble_eq_true rfl, Nat.le_of_ble_eq_true rfl⟩) (k_preV hE hP hD [0, 1, 2, 3, 4, 5, 6, 7, 8, 9, 10, 11, 12, 13, 14, 15, 16, 17, 18, 19, 20, 21, 22, 23, 24, 25] (by decide +kernel) rfl 0 rfl rfl) rfl rfl hl.1 rfl (lv_room (Nat.le_of_ble_eq_true rfl)) dX8_other_27 ⟨Nat.le_of_ble_eq_true rfl, Nat.le_of_ble_eq_true rfl⟩) hP hD hS hA [0, 1, 2, 3, 4, 5, 6, 7, 8, 9, 10, 11, 12, 13, 14, 15, 16, 17, 18, 19, 20, 21, 22, 23, 24, 25] [] rfl (wr := []) rfl (by decide +kernel) (by decide +kernel) (fun u H locs hw35 hP hD hS => ?_)
    obtain ⟨z36, z37, z38, z39, z40, z41, z42, z43, z44, z45, z46, z47, z48, z49, z50, z51, z52, z53, z54, z55, hz56, hz57, hz58, hz59, hz60, hz61, hz62, rfl⟩ := hw35
    refine k_re (w := [(oX8 g z23 (nI mn) g2 g3 g4 g5 g6 g7 g8 g9 g10 (nI ml) g12 g13 v32 g15 g16 g17 z53 g19 g20 g21 g22 g23 g24 g25 g26 g27 g28 z51 z52 (nI z54) (nI z55) g33 g34 g35 g36 g37 g38 g39 gi40 g41 g42 gi43 g44 g45), (aIc cI g2 8 G2), (aIc cI g3 8 G3), (aIc cI g4 8 G4), (aIc cI g5 8 G5), (aIc cI g6 8 G6), (aIc cI g7 8 G7), (aIc cI g8 8 G8), (aIc cI g10 64 G10), (aIc cI g12 10 G12), (aIc cI g13 10 G13), (aIc cI g19 8 z36), (aIc cI g20 8 z37), (aIc cI g21 8 z38), (aIc cI g22 8 z39), (aIc cI g23 8 z40), (aIc cI g24 8 z41), (aIc cI g25 8 z42), (aIc cI g26 8 z43), (aIc cI g27 8 z44), (aIc cI g28 8 z45), (aIc cI g33 8 z46), (aIc cI g34 8 z47), (aIc cI g35 8 z48), (aIc cI g36 8 z49), (aJc cJ g37 8 z50)]) hP hD (fun hP hD => ?_)
    refine lv_aload_n hx hb dX8_other_30 rfl (lv_at hl 0 rfl) ?_
    refine lv_iconst (v := 1) hx hb dX8_other_31 (by decide) ?_
    refine lv_aload_n hx hb dX8_other_32 rfl (lv_at hl 0 rfl) ?_
    refine va_get (D := D) (ci := 8) (v := .int v32) (C := RX8) (T := TX8) (N := 46) hx hb hts hiX8 hown hE.1 hP 0 rfl rfl 14 (by decide) (hts _ (List.mem_cons_of_mem _ wd_269)) (fun _ h9 => h9) rfl dX8_other_33 ?_
    refine lv_isub hx hb dX8_other_36 ?_
    refine lv_topi (fun v63 ev63 => ?_)
    have eg : v63 = gi14 := by rw [ev63, ev32]; exact r11 _
    rw [eg]
    refine va_put (D := D) (ci := 8) (v := .int gi14) (ty := .int) (C := RX8) (T := TX8) (N := 46) hx hb hts hiX8 tyX8 tyX8_ok nmX8 hown hE.1 hP hD hS 0 rfl rfl 14 (by decide) (hts _ (List.mem_cons_of_mem _ wd_269)) (fun _ h9 => h9) rfl (by decide +kernel) rfl rfl (Nat.le_of_ble_eq_true rfl) dX8_other_37 (fun H locs hP hD hS => ?_)
    refine k_re (w := [(oX8 g z23 (nI mn) g2 g3 g4 g5 g6 g7 g8 g9 g10 (nI ml) g12 g13 gi14 g15 g16 g17 z53 g19 g20 g21 g22 g23 g24 g25 g26 g27 g28 z51 z52 (nI z54) (nI z55) g33 g34 g35 g36 g37 g38 g39 gi40 g41 g42 gi43 g44 g45), (aIc cI g2 8 G2), (aIc cI g3 8 G3), (aIc cI g4 8 G4), (aIc cI g5 8 G5), (aIc cI g6 8 G6), (aIc cI g7 8 G7), (aIc cI g8 8 G8), (aIc cI g10 64 G10), (aIc cI g12 10 G12), (aIc cI g13 10 G13), (aIc cI g19 8 z36), (aIc cI g20 8 z37), (aIc cI g21 8 z38), (aIc cI g22 8 z39), (aIc cI g23 8 z40), (aIc cI g24 8 z41), (aIc cI g25 8 z42), (aIc cI g26 8 z43), (aIc cI g27 8 z44), (aIc cI g28 8 z45), (aIc cI g33 8 z46), (aIc cI g34 8 z47), (aIc cI g35 8 z48), (aIc cI g36 8 z49), (aJc cJ g37 8 z50)]) hP hD (fun hP hD => ?_)
    refine lv_aload_n hx hb dX8_other_40 rfl (lv_at hl 0 rfl) ?_
    refine va_get (D := D) (ci := 8) (v := .ref g27) (C := RX8) (T := TX8) (N := 46) hx hb hts hiX8 hown hE.1 hP 0 rfl rfl 27 (by decide) (hts _ (List.mem_cons_of_mem _ wd_138)) (fun _ h9 => h9) rfl dX8_other_41 ?_
    refine lv_iload_n hx hb dX8_other_44 rfl (lv_at hl 2 rfl) ?_
    refine va_iald hx hb hE.1 hP 19 0 rfl rfl (vp_in_nI (n := pj) (by omega) (by decide)) dX8_other_45 ?_
    refine lv_topi (fun v64 ev64 => ?_)
    refine k_iret (u := [(oX8 g z23 (nI mn) g2 g3 g4 g5 g6 g7 g8 g9 g10 (nI ml) g12 g13 gi14 g15 g16 g17 z53 g19 g20 g21 g22 g23 g24 g25 g26 g27 g28 z51 z52 (nI z54) (nI z55) g33 g34 g35 g36 g37 g38 g39 gi40 g41 g42 gi43 g44 g45), (aIc cI g2 8 G2), (aIc cI g3 8 G3), (aIc cI g4 8 G4), (aIc cI g5 8 G5), (aIc cI g6 8 G6), (aIc cI g7 8 G7), (aIc cI g8 8 G8), (aIc cI g10 64 G10), (aIc cI g12 10 G12), (aIc cI g13 10 G13), (aIc cI g19 8 z36), (aIc cI g20 8 z37), (aIc cI g21 8 z38), (aIc cI g22 8 z39), (aIc cI g23 8 z40), (aIc cI g24 8 z41), (aIc cI g25 8 z42), (aIc cI g26 8 z43), (aIc cI g27 8 z44), (aIc cI g28 8 z45), (aIc cI g33 8 z46), (aIc cI g34 8 z47), (aIc cI g35 8 z48), (aIc cI g36 8 z49), (aJc cJ g37 8 z50)]) hx hb hr hlk hP hD hS dX8_other_46 ?_
    exact ⟨z36, z37, z38, z39, z40, z41, z42, z43, z44, z45, z46, z47, z48, z49, z50, z51, z52, z53, z54, z55, z23, hz56, hz57, hz58, hz59, hz60, hz61, rfl⟩
  · skip
    refine lv_iconst (v := (-1)) hx hb dX8_other_9 (by decide) ?_
    refine k_iret (u := [(oX8 g z23 (nI mn) g2 g3 g4 g5 g6 g7 g8 g9 g10 (nI ml) g12 g13 gi14 g15 g16 g17 z20 g19 g20 g21 g22 g23 g24 g25 g26 g27 g28 z18 z19 (nI z21) (nI z22) g33 g34 g35 g36 g37 g38 g39 gi40 g41 g42 gi43 g44 g45), (aIc cI g2 8 G2), (aIc cI g3 8 G3), (aIc cI g4 8 G4), (aIc cI g5 8 G5), (aIc cI g6 8 G6), (aIc cI g7 8 G7), (aIc cI g8 8 G8), (aIc cI g10 64 G10), (aIc cI g12 10 G12), (aIc cI g13 10 G13), (aIc cI g19 8 z3), (aIc cI g20 8 z4), (aIc cI g21 8 z5), (aIc cI g22 8 z6), (aIc cI g23 8 z7), (aIc cI g24 8 z8), (aIc cI g25 8 z9), (aIc cI g26 8 z10), (aIc cI g27 8 z11), (aIc cI g28 8 z12), (aIc cI g33 8 z13), (aIc cI g34 8 z14), (aIc cI g35 8 z15), (aIc cI g36 8 z16), (aJc cJ g37 8 z17)]) hx hb hr hlk hP hD hS dX8_other_10 ?_
    exact ⟨z3, z4, z5, z6, z7, z8, z9, z10, z11, z12, z13, z14, z15, z16, z17, z18, z19, z20, z21, z22, z23, hz24, hz25, hz26, hz27, hz28, hz29, rfl⟩

