theorem bk_d {a b : Nat} {v : Int32} (e : v = nI a - nI b) (ha : a ≤ 1000000) (hb : b ≤ 1000000) : -1000000 ≤ v.toInt ∧ v.toInt ≤ 1000000 := by
  rw [i_sub e ha hb]; omega
theorem bk_0 : -1000000 ≤ Int32.toInt 0 ∧ Int32.toInt 0 ≤ 1000000 := by decide
theorem r11 (x : Int32) : 1 - (1 - x) = x := by
  apply Int32.toBitVec_inj.mp
  rw [Int32.toBitVec_sub, Int32.toBitVec_sub]
  apply BitVec.eq_of_toNat_eq
  rw [BitVec.toNat_sub, BitVec.toNat_sub]
  have := x.toBitVec.isLt
  rw [show (1 : Int32).toBitVec.toNat = 1 from rfl]
  omega
theorem ni_m1 {n : Nat} (h : n < 2 ^ 31) : ¬ nI n = -1 := fun q => by
  have h1 := nI_toInt h
  rw [q, show Int32.toInt (-1) = -1 from rfl] at h1
  omega
theorem dX8_broke_0 : decode cX8_broke 0 = .ok (.aload_n 0, 1) := by decide +kernel
theorem dX8_broke_1 : decode cX8_broke 1 = .ok (.iconst 0, 1) := by decide +kernel
theorem dX8_broke_2 : decode cX8_broke 2 = .ok (.putfield 116, 3) := by decide +kernel
theorem dX8_broke_5 : decode cX8_broke 5 = .ok (.aload_n 0, 1) := by decide +kernel
theorem dX8_broke_6 : decode cX8_broke 6 = .ok (.iload_n 1, 1) := by decide +kernel
theorem dX8_broke_7 : decode cX8_broke 7 = .ok (.invokevirtual 252, 3) := by decide +kernel
theorem dX8_broke_10 : decode cX8_broke 10 = .ok (.ifCond .eq 30, 3) := by decide +kernel
theorem dX8_broke_13 : decode cX8_broke 13 = .ok (.iload_n 2, 1) := by decide +kernel
theorem dX8_broke_14 : decode cX8_broke 14 = .ok (.i2l, 1) := by decide +kernel
theorem dX8_broke_15 : decode cX8_broke 15 = .ok (.lconst 0, 1) := by decide +kernel
theorem dX8_broke_16 : decode cX8_broke 16 = .ok (.aload_n 0, 1) := by decide +kernel
theorem dX8_broke_17 : decode cX8_broke 17 = .ok (.invokevirtual 220, 3) := by decide +kernel
theorem dX8_broke_20 : decode cX8_broke 20 = .ok (.i2l, 1) := by decide +kernel
theorem dX8_broke_21 : decode cX8_broke 21 = .ok (.invokestatic 123, 3) := by decide +kernel
theorem dX8_broke_24 : decode cX8_broke 24 = .ok (.ifCond .eq 16, 3) := by decide +kernel
theorem dX8_broke_27 : decode cX8_broke 27 = .ok (.iload_n 3, 1) := by decide +kernel
theorem dX8_broke_28 : decode cX8_broke 28 = .ok (.iconst (-1), 1) := by decide +kernel
theorem dX8_broke_29 : decode cX8_broke 29 = .ok (.if_icmp .eq 13, 3) := by decide +kernel
theorem dX8_broke_32 : decode cX8_broke 32 = .ok (.aload_n 0, 1) := by decide +kernel
theorem dX8_broke_33 : decode cX8_broke 33 = .ok (.iload_n 3, 1) := by decide +kernel
theorem dX8_broke_34 : decode cX8_broke 34 = .ok (.invokevirtual 140, 3) := by decide +kernel
theorem dX8_broke_37 : decode cX8_broke 37 = .ok (.ifCond .ne 5, 3) := by decide +kernel
theorem dX8_broke_40 : decode cX8_broke 40 = .ok (.iconst (-1), 1) := by decide +kernel
theorem dX8_broke_41 : decode cX8_broke 41 = .ok (.ireturn, 1) := by decide +kernel
theorem dX8_broke_42 : decode cX8_broke 42 = .ok (.aload_n 0, 1) := by decide +kernel
theorem dX8_broke_43 : decode cX8_broke 43 = .ok (.iload_n 1, 1) := by decide +kernel
theorem dX8_broke_44 : decode cX8_broke 44 = .ok (.aload_n 0, 1) := by decide +kernel
theorem dX8_broke_45 : decode cX8_broke 45 = .ok (.invokevirtual 220, 3) := by decide +kernel
theorem dX8_broke_48 : decode cX8_broke 48 = .ok (.invokevirtual 224, 3) := by decide +kernel
theorem dX8_broke_51 : decode cX8_broke 51 = .ok (.iconst 0, 1) := by decide +kernel
theorem dX8_broke_52 : decode cX8_broke 52 = .ok (.istore 4, 2) := by decide +kernel
theorem dX8_broke_54 : decode cX8_broke 54 = .ok (.iconst 0, 1) := by decide +kernel
theorem dX8_broke_55 : decode cX8_broke 55 = .ok (.istore 5, 2) := by decide +kernel
theorem dX8_broke_57 : decode cX8_broke 57 = .ok (.iload 5, 2) := by decide +kernel
theorem dX8_broke_59 : decode cX8_broke 59 = .ok (.bipush 8, 2) := by decide +kernel
theorem dX8_broke_61 : decode cX8_broke 61 = .ok (.if_icmp .ge 88, 3) := by decide +kernel
theorem dX8_broke_64 : decode cX8_broke 64 = .ok (.iload 4, 2) := by decide +kernel
theorem dX8_broke_66 : decode cX8_broke 66 = .ok (.iload_n 2, 1) := by decide +kernel
theorem dX8_broke_67 : decode cX8_broke 67 = .ok (.iload 5, 2) := by decide +kernel
theorem dX8_broke_69 : decode cX8_broke 69 = .ok (.invokestatic 154, 3) := by decide +kernel
theorem dX8_broke_72 : decode cX8_broke 72 = .ok (.ifCond .eq 13, 3) := by decide +kernel
theorem dX8_broke_75 : decode cX8_broke 75 = .ok (.aload_n 0, 1) := by decide +kernel
theorem dX8_broke_76 : decode cX8_broke 76 = .ok (.getfield 76, 3) := by decide +kernel
theorem dX8_broke_79 : decode cX8_broke 79 = .ok (.iload 5, 2) := by decide +kernel
theorem dX8_broke_81 : decode cX8_broke 81 = .ok (.iaload, 1) := by decide +kernel
theorem dX8_broke_82 : decode cX8_broke 82 = .ok (.goto 4, 3) := by decide +kernel
theorem dX8_broke_85 : decode cX8_broke 85 = .ok (.iconst 0, 1) := by decide +kernel
theorem dX8_broke_86 : decode cX8_broke 86 = .ok (.iadd, 1) := by decide +kernel
theorem dX8_broke_87 : decode cX8_broke 87 = .ok (.istore 4, 2) := by decide +kernel
theorem dX8_broke_89 : decode cX8_broke 89 = .ok (.aload_n 0, 1) := by decide +kernel
theorem dX8_broke_90 : decode cX8_broke 90 = .ok (.getfield 88, 3) := by decide +kernel
theorem dX8_broke_93 : decode cX8_broke 93 = .ok (.iload 5, 2) := by decide +kernel
theorem dX8_broke_95 : decode cX8_broke 95 = .ok (.aload_n 0, 1) := by decide +kernel
theorem dX8_broke_96 : decode cX8_broke 96 = .ok (.iload 5, 2) := by decide +kernel
theorem dX8_broke_98 : decode cX8_broke 98 = .ok (.invokevirtual 140, 3) := by decide +kernel
theorem dX8_broke_101 : decode cX8_broke 101 = .ok (.ifCond .eq 40, 3) := by decide +kernel
theorem dX8_broke_104 : decode cX8_broke 104 = .ok (.aload_n 0, 1) := by decide +kernel
theorem dX8_broke_105 : decode cX8_broke 105 = .ok (.getfield 25, 3) := by decide +kernel
theorem dX8_broke_108 : decode cX8_broke 108 = .ok (.iload 5, 2) := by decide +kernel
theorem dX8_broke_110 : decode cX8_broke 110 = .ok (.iaload, 1) := by decide +kernel
theorem dX8_broke_111 : decode cX8_broke 111 = .ok (.ifCond .ne 30, 3) := by decide +kernel
theorem dX8_broke_114 : decode cX8_broke 114 = .ok (.iload_n 2, 1) := by decide +kernel
theorem dX8_broke_115 : decode cX8_broke 115 = .ok (.iload 5, 2) := by decide +kernel
theorem dX8_broke_117 : decode cX8_broke 117 = .ok (.invokestatic 154, 3) := by decide +kernel
theorem dX8_broke_120 : decode cX8_broke 120 = .ok (.ifCond .ne 21, 3) := by decide +kernel
theorem dX8_broke_123 : decode cX8_broke 123 = .ok (.aload_n 0, 1) := by decide +kernel
theorem dX8_broke_124 : decode cX8_broke 124 = .ok (.getfield 55, 3) := by decide +kernel
theorem dX8_broke_127 : decode cX8_broke 127 = .ok (.iload 5, 2) := by decide +kernel
theorem dX8_broke_129 : decode cX8_broke 129 = .ok (.iaload, 1) := by decide +kernel
theorem dX8_broke_130 : decode cX8_broke 130 = .ok (.aload_n 0, 1) := by decide +kernel
theorem dX8_broke_131 : decode cX8_broke 131 = .ok (.getfield 76, 3) := by decide +kernel
theorem dX8_broke_134 : decode cX8_broke 134 = .ok (.iload 5, 2) := by decide +kernel
theorem dX8_broke_136 : decode cX8_broke 136 = .ok (.iaload, 1) := by decide +kernel
theorem dX8_broke_137 : decode cX8_broke 137 = .ok (.isub, 1) := by decide +kernel
theorem dX8_broke_138 : decode cX8_broke 138 = .ok (.goto 4, 3) := by decide +kernel
theorem dX8_broke_141 : decode cX8_broke 141 = .ok (.iconst 0, 1) := by decide +kernel
theorem dX8_broke_142 : decode cX8_broke 142 = .ok (.iastore, 1) := by decide +kernel
theorem dX8_broke_143 : decode cX8_broke 143 = .ok (.iinc 5 1, 3) := by decide +kernel
theorem dX8_broke_146 : decode cX8_broke 146 = .ok (.goto (-89), 3) := by decide +kernel
theorem dX8_broke_149 : decode cX8_broke 149 = .ok (.aload_n 0, 1) := by decide +kernel
theorem dX8_broke_150 : decode cX8_broke 150 = .ok (.iload 4, 2) := by decide +kernel
theorem dX8_broke_152 : decode cX8_broke 152 = .ok (.invokevirtual 195, 3) := by decide +kernel
theorem dX8_broke_155 : decode cX8_broke 155 = .ok (.istore 5, 2) := by decide +kernel
theorem dX8_broke_157 : decode cX8_broke 157 = .ok (.iload_n 3, 1) := by decide +kernel
theorem dX8_broke_158 : decode cX8_broke 158 = .ok (.iconst (-1), 1) := by decide +kernel
theorem dX8_broke_159 : decode cX8_broke 159 = .ok (.if_icmp .ne 9, 3) := by decide +kernel
theorem dX8_broke_162 : decode cX8_broke 162 = .ok (.iload 4, 2) := by decide +kernel
theorem dX8_broke_164 : decode cX8_broke 164 = .ok (.iload 5, 2) := by decide +kernel
theorem dX8_broke_166 : decode cX8_broke 166 = .ok (.isub, 1) := by decide +kernel
theorem dX8_broke_167 : decode cX8_broke 167 = .ok (.ireturn, 1) := by decide +kernel
theorem dX8_broke_168 : decode cX8_broke 168 = .ok (.iload_n 2, 1) := by decide +kernel
theorem dX8_broke_169 : decode cX8_broke 169 = .ok (.iload_n 3, 1) := by decide +kernel
theorem dX8_broke_170 : decode cX8_broke 170 = .ok (.invokestatic 154, 3) := by decide +kernel
theorem dX8_broke_173 : decode cX8_broke 173 = .ok (.ifCond .eq 7, 3) := by decide +kernel
theorem dX8_broke_176 : decode cX8_broke 176 = .ok (.iconst 0, 1) := by decide +kernel
theorem dX8_broke_177 : decode cX8_broke 177 = .ok (.goto 16, 3) := by decide +kernel
theorem dX8_broke_180 : decode cX8_broke 180 = .ok (.aload_n 0, 1) := by decide +kernel
theorem dX8_broke_181 : decode cX8_broke 181 = .ok (.getfield 76, 3) := by decide +kernel
theorem dX8_broke_184 : decode cX8_broke 184 = .ok (.iload_n 3, 1) := by decide +kernel
theorem dX8_broke_185 : decode cX8_broke 185 = .ok (.iaload, 1) := by decide +kernel
theorem dX8_broke_186 : decode cX8_broke 186 = .ok (.aload_n 0, 1) := by decide +kernel
theorem dX8_broke_187 : decode cX8_broke 187 = .ok (.getfield 91, 3) := by decide +kernel
theorem dX8_broke_190 : decode cX8_broke 190 = .ok (.iload_n 3, 1) := by decide +kernel
theorem dX8_broke_191 : decode cX8_broke 191 = .ok (.iaload, 1) := by decide +kernel
theorem dX8_broke_192 : decode cX8_broke 192 = .ok (.iadd, 1) := by decide +kernel
theorem dX8_broke_193 : decode cX8_broke 193 = .ok (.ireturn, 1) := by decide +kernel
theorem gX8_broke_X8_all : GoodIn wtX8_broke (wsV RX8 220 RX8 yX8_all wtX8_all) := tb_good (tb_v0 wd_413 wd_414 wd_415 wd_5 wd_416)
theorem gX8_broke_X8_in : GoodIn wtX8_broke (va_wsS RX8 123 yX8_in wtX8_in) := tb_good (tb_s0 wd_177 wd_178 wd_5 wd_179)
theorem gX8_broke_X8_isLoss : GoodIn wtX8_broke (wsV RX8 252 RX8 yX8_isLoss wtX8_isLoss) := tb_good (tb_v0 wd_554 wd_555 wd_556 wd_5 wd_557)
theorem gX8_broke_X8_isOn : GoodIn wtX8_broke (va_wsS RX8 154 yX8_isOn wtX8_isOn) := tb_good (tb_s0 wd_423 wd_424 wd_5 wd_425)
theorem gX8_broke_X8_isPolicy : GoodIn wtX8_broke (wsV RX8 140 RX8 yX8_isPolicy wtX8_isPolicy) := tb_good (tb_v0 wd_198 wd_199 wd_200 wd_5 wd_201)
theorem gX8_broke_X8_settlesTo : GoodIn wtX8_broke (wsV RX8 224 RX8 yX8_settlesTo wtX8_settlesTo) := tb_good (tb_v0 wd_482 wd_483 wd_484 wd_5 wd_485)
theorem gX8_broke_X8_shares : GoodIn wtX8_broke (wsV RX8 195 RX8 yX8_shares wtX8_shares) := tb_good (tb_v0 wd_450 wd_451 wd_452 wd_5 wd_453)
set_option maxHeartbeats 4000000 in
set_option maxRecDepth 100000 in
theorem m_X8_broke (l : Launch) (D : va_G) (cI cJ : ClassId) (sz : Nat) (g g2 g3 g4 g5 g6 g7 g8 g9 g10 g12 g13 g15 g16 g17 g19 g20 g21 g22 g23 g24 g25 g26 g27 g28 g33 g34 g35 g36 g37 g38 g39 g41 g42 g44 g45 mn ml mv tt : Nat) (gi0 gi14 gi18 gi29 gi30 gi40 gi43 p0 p1 p2 : Int32) (G2 G3 G4 G5 G6 G7 G8 G10 G12 G13 G19 G20 G21 G22 G23 G24 G25 G26 G27 G28 G33 G34 G35 G36 : Nat → Int32) (G37 : Nat → Int64) (li0 wo0 de0 ag0 : Nat → Nat) (hmn : mn ≤ 8) (hmL : ml ≤ 10) (hit : ∀ k, k < 10 → ∃ j : Nat, j < 8 ∧ G12 k = nI j) (hsu : ∀ k, k < 64 → ∃ j : Nat, j ≤ 1000001 ∧ G10 k = nI j) (hliv : nv G2 li0) (hlib : ∀ k, k < 8 → li0 k ≤ 1000000) (hwov : nv G5 wo0) (hwob : ∀ k, k < 8 → wo0 k ≤ 9000000) (hdev : nv G4 de0) (hdeb : ∀ k, k < 8 → de0 k ≤ 99999) (hagv : nv G3 ag0) (hagb : ∀ k, k < 8 → ag0 k ≤ 9000000) (hamt : ∀ k, k < 10 → ∃ j : Nat, j < 1000001 ∧ G13 k = nI j) (hLE : LE G19) (hLO : LO G20) (hLW : LW G25) (hSH : SH G27 tt) (htt : tt ≤ 1000000) (hmv : mv ≤ 8) : Met l yX8_broke wtX8_broke { frames := 8, cells := 0, slots := 0, locals := 189 } (cPc D cI cJ [.ref g, .int p0, .int p1, .int p2] sz [(oX8 g gi0 (nI mn) g2 g3 g4 g5 g6 g7 g8 g9 g10 (nI ml) g12 g13 gi14 g15 g16 g17 gi18 g19 g20 g21 g22 g23 g24 g25 g26 g27 g28 gi29 gi30 (nI mv) (nI tt) g33 g34 g35 g36 g37 g38 g39 gi40 g41 g42 gi43 g44 g45), (aIc cI g2 8 G2), (aIc cI g3 8 G3), (aIc cI g4 8 G4), (aIc cI g5 8 G5), (aIc cI g6 8 G6), (aIc cI g7 8 G7), (aIc cI g8 8 G8), (aIc cI g10 64 G10), (aIc cI g12 10 G12), (aIc cI g13 10 G13), (aIc cI g19 8 G19), (aIc cI g20 8 G20), (aIc cI g21 8 G21), (aIc cI g22 8 G22), (aIc cI g23 8 G23), (aIc cI g24 8 G24), (aIc cI g25 8 G25), (aIc cI g26 8 G26), (aIc cI g27 8 G27), (aIc cI g28 8 G28), (aIc cI g33 8 G33), (aIc cI g34 8 G34), (aIc cI g35 8 G35), (aIc cI g36 8 G36), (aJc cJ g37 8 G37)]) (cQi D (fun r u => ∃ (G19p G20p G21p G22p G23p G24p G25p G26p G27p G28p G33p G34p G35p G36p : Nat → Int32) (G37p : Nat → Int64) (gi29p gi30p gi18p : Int32) (mvp ttp : Nat) (gi0p : Int32), (LE G19p) ∧ (LO G20p) ∧ (LW G25p) ∧ (SH G27p ttp) ∧ (ttp ≤ 1000000) ∧ (mvp ≤ 8) ∧ u = [(oX8 g gi0p (nI mn) g2 g3 g4 g5 g6 g7 g8 g9 g10 (nI ml) g12 g13 gi14 g15 g16 g17 gi18p g19 g20 g21 g22 g23 g24 g25 g26 g27 g28 gi29p gi30p (nI mvp) (nI ttp) g33 g34 g35 g36 g37 g38 g39 gi40 g41 g42 gi43 g44 g45), (aIc cI g2 8 G2), (aIc cI g3 8 G3), (aIc cI g4 8 G4), (aIc cI g5 8 G5), (aIc cI g6 8 G6), (aIc cI g7 8 G7), (aIc cI g8 8 G8), (aIc cI g10 64 G10), (aIc cI g12 10 G12), (aIc cI g13 10 G13), (aIc cI g19 8 G19p), (aIc cI g20 8 G20p), (aIc cI g21 8 G21p), (aIc cI g22 8 G22p), (aIc cI g23 8 G23p), (aIc cI g24 8 G24p), (aIc cI g25 8 G25p), (aIc cI g26 8 G26p), (aIc cI g27 8 G27p), (aIc cI g28 8 G28p), (aIc cI g33 8 G33p), (aIc cI g34 8 G34p), (aIc cI g35 8 G35p), (aIc cI g36 8 G36p), (aJc cJ g37 8 G37p)]) (va_A [(oX8 g gi0 (nI mn) g2 g3 g4 g5 g6 g7 g8 g9 g10 (nI ml) g12 g13 gi14 g15 g16 g17 gi18 g19 g20 g21 g22 g23 g24 g25 g26 g27 g28 gi29 gi30 (nI mv) (nI tt) g33 g34 g35 g36 g37 g38 g39 gi40 g41 g42 gi43 g44 g45), (aIc cI g2 8 G2), (aIc cI g3 8 G3), (aIc cI g4 8 G4), (aIc cI g5 8 G5), (aIc cI g6 8 G6), (aIc cI g7 8 G7), (aIc cI g8 8 G8), (aIc cI g10 64 G10), (aIc cI g12 10 G12), (aIc cI g13 10 G13), (aIc cI g19 8 G19), (aIc cI g20 8 G20), (aIc cI g21 8 G21), (aIc cI g22 8 G22), (aIc cI g23 8 G23), (aIc cI g24 8 G24), (aIc cI g25 8 G25), (aIc cI g26 8 G26), (aIc cI g27 8 G27), (aIc cI g28 8 G28), (aIc cI g33 8 G33), (aIc cI g34 8 G34), (aIc cI g35 8 G35), (aIc cI g36 8 G36), (aJc cJ g37 8 G37)] sz)) 0 0 (va_A [(oX8 g gi0 (nI mn) g2 g3 g4 g5 g6 g7 g8 g9 g10 (nI ml) g12 g13 gi14 g15 g16 g17 gi18 g19 g20 g21 g22 g23 g24 g25 g26 g27 g28 gi29 gi30 (nI mv) (nI tt) g33 g34 g35 g36 g37 g38 g39 gi40 g41 g42 gi43 g44 g45), (aIc cI g2 8 G2), (aIc cI g3 8 G3), (aIc cI g4 8 G4), (aIc cI g5 8 G5), (aIc cI g6 8 G6), (aIc cI g7 8 G7), (aIc cI g8 8 G8), (aIc cI g10 64 G10), (aIc cI g12 10 G12), (aIc cI g13 10 G13), (aIc cI g19 8 G19), (aIc cI g20 8 G20), (aIc cI g21 8 G21), (aIc cI g22 8 G22), (aIc cI g23 8 G23), (aIc cI g24 8 G24), (aIc cI g25 8 G25), (aIc cI g26 8 G26), (aIc cI g27 8 G27), (aIc cI g28 8 G28), (aIc cI g33 8 G33), (aIc cI g34 8 G34), (aIc cI g35 8 G35), (aIc cI g36 8 G36), (aJc cJ g37 8 G37)] sz) := by
  refine k_ofW (Qc := cQi D (fun r u => ∃ (G19p G20p G21p G22p G23p G24p G25p G26p G27p G28p G33p G34p G35p G36p : Nat → Int32) (G37p : Nat → Int64) (gi29p gi30p gi18p : Int32) (mvp ttp : Nat) (gi0p : Int32), (LE G19p) ∧ (LO G20p) ∧ (LW G25p) ∧ (SH G27p ttp) ∧ (ttp ≤ 1000000) ∧ (mvp ≤ 8) ∧ u = [(oX8 g gi0p (nI mn) g2 g3 g4 g5 g6 g7 g8 g9 g10 (nI ml) g12 g13 gi14 g15 g16 g17 gi18p g19 g20 g21 g22 g23 g24 g25 g26 g27 g28 gi29p gi30p (nI mvp) (nI ttp) g33 g34 g35 g36 g37 g38 g39 gi40 g41 g42 gi43 g44 g45), (aIc cI g2 8 G2), (aIc cI g3 8 G3), (aIc cI g4 8 G4), (aIc cI g5 8 G5), (aIc cI g6 8 G6), (aIc cI g7 8 G7), (aIc cI g8 8 G8), (aIc cI g10 64 G10), (aIc cI g12 10 G12), (aIc cI g13 10 G13), (aIc cI g19 8 G19p), (aIc cI g20 8 G20p), (aIc cI g21 8 G21p), (aIc cI g22 8 G22p), (aIc cI g23 8 G23p), (aIc cI g24 8 G24p), (aIc cI g25 8 G25p), (aIc cI g26 8 G26p), (aIc cI g27 8 G27p), (aIc cI g28 8 G28p), (aIc cI g33 8 G33p), (aIc cI g34 8 G34p), (aIc cI g35 8 G35p), (aIc cI g36 8 G36p), (aJc cJ g37 8 G37p)])) (by decide) rfl (Nat.le_of_ble_eq_true rfl) ?_
  intro p e s m below meth c A ls hx hb hr hml hts hown hlk hnm hsz hE hP hD hS hA hl
  have hown : s.vm.findClass RX8 = some m.cls := hown
  have hiX8 : ∀ w ∈ u_ws RX8 TX8 46, w ∈ wtX8_broke := fun w h => List.mem_cons_of_mem _ (iuX8 w h)
  have hl : lv_has ls 6 [(0, .ref g), (1, .int p0), (2, .int p1), (3, .int p2)] := hl
  refine lv_aload_n hx hb dX8_broke_0 rfl (lv_at hl 0 rfl) ?_
  refine lv_iconst (v := 0) hx hb dX8_broke_1 (by decide) ?_
  refine va_put (D := D) (ci := 8) (v := .int 0) (ty := .int) (C := RX8) (T := TX8) (N := 46) hx hb hts hiX8 tyX8 tyX8_ok nmX8 hown hE.1 hP hD hS 0 rfl rfl 0 (by decide) (hts _ (List.mem_cons_of_mem _ wd_171)) (fun _ h9 => h9) rfl (by decide +kernel) rfl rfl (Nat.le_of_ble_eq_true rfl) dX8_broke_2 (fun H locs hP hD hS => ?_)
  refine k_re (w := [(oX8 g 0 (nI mn) g2 g3 g4 g5 g6 g7 g8 g9 g10 (nI ml) g12 g13 gi14 g15 g16 g17 gi18 g19 g20 g21 g22 g23 g24 g25 g26 g27 g28 gi29 gi30 (nI mv) (nI tt) g33 g34 g35 g36 g37 g38 g39 gi40 g41 g42 gi43 g44 g45), (aIc cI g2 8 G2), (aIc cI g3 8 G3), (aIc cI g4 8 G4), (aIc cI g5 8 G5), (aIc cI g6 8 G6), (aIc cI g7 8 G7), (aIc cI g8 8 G8), (aIc cI g10 64 G10), (aIc cI g12 10 G12), (aIc cI g13 10 G13), (aIc cI g19 8 G19), (aIc cI g20 8 G20), (aIc cI g21 8 G21), (aIc cI g22 8 G22), (aIc cI g23 8 G23), (aIc cI g24 8 G24), (aIc cI g25 8 G25), (aIc cI g26 8 G26), (aIc cI g27 8 G27), (aIc cI g28 8 G28), (aIc cI g33 8 G33), (aIc cI g34 8 G34), (aIc cI g35 8 G35), (aIc cI g36 8 G36), (aJc cJ g37 8 G37)]) hP hD (fun hP hD => ?_)
  refine lv_aload_n hx hb dX8_broke_5 rfl (lv_at hl 0 rfl) ?_
  refine lv_iload_n hx hb dX8_broke_6 rfl (lv_at hl 1 rfl) ?_
  refine k_iS (va_runV (As := [.int p0]) (rest := []) ⟨hx, hb, hml, hown, hts⟩ (m_X8_isLoss l D cI cJ H.size g g2 g3 g4 g5 g6 g7 g8 g9 g10 g12 g13 g15 g16 g17 g19 g20 g21 g22 g23 g24 g25 g26 g27 g28 g33 g34 g35 g36 g37 g38 g39 g41 g42 g44 g45 mn ml mv 0 gi14 gi18 gi29 gi30 (nI tt) gi40 gi43 p0) (cwV 1 hts gX8_broke_X8_isLoss rfl rfl rfl (by decide +kernel) ⟨Nat.le_of_ble_eq_true rfl, Nat.le_of_ble_eq_true rfl⟩) (k_preV hE hP hD [0] (by decide +kernel) rfl 0 rfl rfl) rfl rfl hl.1 rfl (lv_room (Nat.le_of_ble_eq_true rfl)) dX8_broke_7 ⟨Nat.le_of_ble_eq_true rfl, Nat.le_of_ble_eq_true rfl⟩) hP hD hS hA [0] rfl (fun _ _ ⟨_, h9⟩ => h9) (fun r1 H locs hw2 hP hD hS => ?_)
  obtain ⟨hb3, -⟩ := hw2
  refine lv_if_eq (tgt := 40) hx hb dX8_broke_10 (by decide) (fun c4 => ?_) (fun c4 => ?_)
  · skip
    have hc4 : ¬ (0 ≤ p0 ∧ p0 ≤ nI ml - 1) := bz_0 hb3 c4
    refine lv_iconst (v := (-1)) hx hb dX8_broke_40 (by decide) ?_
    refine k_iret (u := [(oX8 g 0 (nI mn) g2 g3 g4 g5 g6 g7 g8 g9 g10 (nI ml) g12 g13 gi14 g15 g16 g17 gi18 g19 g20 g21 g22 g23 g24 g25 g26 g27 g28 gi29 gi30 (nI mv) (nI tt) g33 g34 g35 g36 g37 g38 g39 gi40 g41 g42 gi43 g44 g45), (aIc cI g2 8 G2), (aIc cI g3 8 G3), (aIc cI g4 8 G4), (aIc cI g5 8 G5), (aIc cI g6 8 G6), (aIc cI g7 8 G7), (aIc cI g8 8 G8), (aIc cI g10 64 G10), (aIc cI g12 10 G12), (aIc cI g13 10 G13), (aIc cI g19 8 G19), (aIc cI g20 8 G20), (aIc cI g21 8 G21), (aIc cI g22 8 G22), (aIc cI g23 8 G23), (aIc cI g24 8 G24), (aIc cI g25 8 G25), (aIc cI g26 8 G26), (aIc cI g27 8 G27), (aIc cI g28 8 G28), (aIc cI g33 8 G33), (aIc cI g34 8 G34), (aIc cI g35 8 G35), (aIc cI g36 8 G36), (aJc cJ g37 8 G37)]) hx hb hr hlk hP hD hS dX8_broke_41 ?_
    exact ⟨G19, G20, G21, G22, G23, G24, G25, G26, G27, G28, G33, G34, G35, G36, G37, gi29, gi30, gi18, mv, tt, 0, hLE, hLO, hLW, hSH, htt, hmv, rfl⟩
  · skip
    have hc4 : 0 ≤ p0 ∧ p0 ≤ nI ml - 1 := bz_1 hb3 c4
    refine lv_iload_n hx hb dX8_broke_13 rfl (lv_at hl 2 rfl) ?_
    refine lv_i2l hx hb dX8_broke_14 rfl ?_
    refine lv_lconst (v := 0) hx hb dX8_broke_15 (by decide) ?_
    refine lv_aload_n hx hb dX8_broke_16 rfl (lv_at hl 0 rfl) ?_
    refine k_iS (va_runV (As := []) (rest := [.long 0, .long (Int32.toInt64 p1)]) ⟨hx, hb, hml, hown, hts⟩ (m_X8_all l D cI cJ H.size g g2 g3 g4 g5 g6 g7 g8 g9 g10 g12 g13 g15 g16 g17 g19 g20 g21 g22 g23 g24 g25 g26 g27 g28 g33 g34 g35 g36 g37 g38 g39 g41 g42 g44 g45 mn ml mv 0 gi14 gi18 gi29 gi30 (nI tt) gi40 gi43 hmn) (cwV 0 hts gX8_broke_X8_all rfl rfl rfl (by decide +kernel) ⟨Nat.le_of_ble_eq_true rfl, Nat.le_of_ble_eq_true rfl⟩) (k_preV hE hP hD [0] (by decide +kernel) rfl 0 rfl rfl) rfl rfl hl.1 rfl (lv_room (Nat.le_of_ble_eq_true rfl)) dX8_broke_17 ⟨Nat.le_of_ble_eq_true rfl, Nat.le_of_ble_eq_true rfl⟩) hP hD hS hA [0] rfl (fun _ _ ⟨_, h9⟩ => h9) (fun r5 H locs hw6 hP hD hS => ?_)
    obtain ⟨rfl, -⟩ := hw6
    refine lv_i2l hx hb dX8_broke_20 rfl ?_
    refine k_iS (va_runS (As := [.long (Int32.toInt64 p1), .long 0, .long (Int32.toInt64 (nI (2 ^ mn - 1)))]) (rest := []) ⟨hx, hb, hml, hown, hts⟩ (m_X8_in l D cI cJ H.size (Int32.toInt64 p1) 0 (Int32.toInt64 (nI (2 ^ mn - 1)))) (va_cwS 3 hts gX8_broke_X8_in rfl rfl rfl (by decide +kernel) ⟨Nat.le_of_ble_eq_true rfl, Nat.le_of_ble_eq_true rfl⟩) (k_pre hE hP hD [] (by decide +kernel) rfl) rfl rfl hl.1 rfl (lv_room (Nat.le_of_ble_eq_true rfl)) dX8_broke_21 ⟨Nat.le_of_ble_eq_true rfl, Nat.le_of_ble_eq_true rfl⟩) hP hD hS hA [] rfl (fun _ _ h9 => h9.2) (fun r7 H locs hw8 hP hD hS => ?_)
    obtain ⟨hw8, -⟩ := hw8
    have hw9 : r7 = bz (0 ≤ p1 ∧ p1 ≤ (nI (2 ^ mn - 1))) := by rw [hw8]; exact bz_c (w3 (a := p1) (lo := 0) (hi := (nI (2 ^ mn - 1))) (by decide) rfl)
    refine lv_if_eq (tgt := 40) hx hb dX8_broke_24 (by decide) (fun c10 => ?_) (fun c10 => ?_)
    · skip
      have hc10 : ¬ (0 ≤ p1 ∧ p1 ≤ (nI (2 ^ mn - 1))) := bz_0 hw9 c10
      refine lv_iconst (v := (-1)) hx hb dX8_broke_40 (by decide) ?_
      refine k_iret (u := [(oX8 g 0 (nI mn) g2 g3 g4 g5 g6 g7 g8 g9 g10 (nI ml) g12 g13 gi14 g15 g16 g17 gi18 g19 g20 g21 g22 g23 g24 g25 g26 g27 g28 gi29 gi30 (nI mv) (nI tt) g33 g34 g35 g36 g37 g38 g39 gi40 g41 g42 gi43 g44 g45), (aIc cI g2 8 G2), (aIc cI g3 8 G3), (aIc cI g4 8 G4), (aIc cI g5 8 G5), (aIc cI g6 8 G6), (aIc cI g7 8 G7), (aIc cI g8 8 G8), (aIc cI g10 64 G10), (aIc cI g12 10 G12), (aIc cI g13 10 G13), (aIc cI g19 8 G19), (aIc cI g20 8 G20), (aIc cI g21 8 G21), (aIc cI g22 8 G22), (aIc cI g23 8 G23), (aIc cI g24 8 G24), (aIc cI g25 8 G25), (aIc cI g26 8 G26), (aIc cI g27 8 G27), (aIc cI g28 8 G28), (aIc cI g33 8 G33), (aIc cI g34 8 G34), (aIc cI g35 8 G35), (aIc cI g36 8 G36), (aJc cJ g37 8 G37)]) hx hb hr hlk hP hD hS dX8_broke_41 ?_
      exact ⟨G19, G20, G21, G22, G23, G24, G25, G26, G27, G28, G33, G34, G35, G36, G37, gi29, gi30, gi18, mv, tt, 0, hLE, hLO, hLW, hSH, htt, hmv, rfl⟩
    · skip
      have hc10 : 0 ≤ p1 ∧ p1 ≤ (nI (2 ^ mn - 1)) := bz_1 hw9 c10
      refine lv_iload_n hx hb dX8_broke_27 rfl (lv_at hl 3 rfl) ?_
      refine lv_iconst (v := (-1)) hx hb dX8_broke_28 (by decide) ?_
      refine lv_icmp_eq (tgt := 42) hx hb dX8_broke_29 (by decide) (fun c11 => ?_) (fun c11 => ?_)
      · skip
        obtain ⟨lj, hlj, elj⟩ := wi_n (by omega) hc4
        rw [elj] at hl
        refine lv_aload_n hx hb dX8_broke_42 rfl (lv_at hl 0 rfl) ?_
        refine lv_iload_n hx hb dX8_broke_43 rfl (lv_at hl 1 rfl) ?_
        refine lv_aload_n hx hb dX8_broke_44 rfl (lv_at hl 0 rfl) ?_
        refine k_iS (va_runV (As := []) (rest := [.int (nI lj), .ref g]) ⟨hx, hb, hml, hown, hts⟩ (m_X8_all l D cI cJ H.size g g2 g3 g4 g5 g6 g7 g8 g9 g10 g12 g13 g15 g16 g17 g19 g20 g21 g22 g23 g24 g25 g26 g27 g28 g33 g34 g35 g36 g37 g38 g39 g41 g42 g44 g45 mn ml mv 0 gi14 gi18 gi29 gi30 (nI tt) gi40 gi43 hmn) (cwV 0 hts gX8_broke_X8_all rfl rfl rfl (by decide +kernel) ⟨Nat.le_of_ble_eq_true rfl, Nat.le_of_ble_eq_true rfl⟩) (k_preV hE hP hD [0] (by decide +kernel) rfl 0 rfl rfl) rfl rfl hl.1 rfl (lv_room (Nat.le_of_ble_eq_true rfl)) dX8_broke_45 ⟨Nat.le_of_ble_eq_true rfl, Nat.le_of_ble_eq_true rfl⟩) hP hD hS hA [0] rfl (fun _ _ ⟨_, h9⟩ => h9) (fun r12 H locs hw13 hP hD hS => ?_)
        obtain ⟨rfl, -⟩ := hw13
        refine k_v (va_runV (As := [.int (nI lj), .int (nI (2 ^ mn - 1))]) (rest := []) ⟨hx, hb, hml, hown, hts⟩ (m_X8_settlesTo l D cI cJ H.size g g2 g3 g4 g5 g6 g7 g8 g9 g10 g12 g13 g15 g16 g17 g19 g20 g21 g22 g23 g24 g25 g26 g27 g28 g33 g34 g35 g36 g37 g38 g39 g41 g42 g44 g45 mn ml mv tt (lj + 1) 0 gi14 gi18 gi29 gi30 gi40 gi43 (nI lj) (nI (2 ^ mn - 1)) G2 G3 G4 G5 G6 G7 G8 G10 G12 G13 G19 G20 G21 G22 G23 G24 G25 G26 G27 G28 G33 G34 G35 G36 G37 li0 wo0 de0 ag0 (nI_pred lj).symm (by omega) hit hsu hliv hlib hwov hwob hdev hdeb hagv hagb hamt hLE hLO hLW hSH htt hmv) (cwV 2 hts gX8_broke_X8_settlesTo rfl rfl rfl (by decide +kernel) ⟨Nat.le_of_ble_eq_true rfl, Nat.le_of_ble_eq_true rfl⟩) (k_preV hE hP hD [0, 1, 2, 3, 4, 5, 6, 7, 8, 9, 10, 11, 12, 13, 14, 15, 16, 17, 18, 19, 20, 21, 22, 23, 24, 25] (by decide +kernel) rfl 0 rfl rfl) rfl rfl hl.1 rfl (lv_room (Nat.le_of_ble_eq_true rfl)) dX8_broke_48 ⟨Nat.le_of_ble_eq_true rfl, Nat.le_of_ble_eq_true rfl⟩) hP hD hS hA [0, 1, 2, 3, 4, 5, 6, 7, 8, 9, 10, 11, 12, 13, 14, 15, 16, 17, 18, 19, 20, 21, 22, 23, 24, 25] [] rfl (wr := []) rfl (by decide +kernel) (by decide +kernel) (fun u H locs hw14 hP hD hS => ?_)
        obtain ⟨z15, z16, z17, z18, z19, z20, z21, z22, z23, z24, z25, z26, z27, z28, z29, z30, z31, z32, z33, z34, hz35, hz36, hz37, hz38, hz39, hz40, hz41, rfl⟩ := hw14
        refine k_re (w := [(oX8 g 0 (nI mn) g2 g3 g4 g5 g6 g7 g8 g9 g10 (nI ml) g12 g13 gi14 g15 g16 g17 z32 g19 g20 g21 g22 g23 g24 g25 g26 g27 g28 z30 z31 (nI z33) (nI z34) g33 g34 g35 g36 g37 g38 g39 gi40 g41 g42 gi43 g44 g45), (aIc cI g2 8 G2), (aIc cI g3 8 G3), (aIc cI g4 8 G4), (aIc cI g5 8 G5), (aIc cI g6 8 G6), (aIc cI g7 8 G7), (aIc cI g8 8 G8), (aIc cI g10 64 G10), (aIc cI g12 10 G12), (aIc cI g13 10 G13), (aIc cI g19 8 z15), (aIc cI g20 8 z16), (aIc cI g21 8 z17), (aIc cI g22 8 z18), (aIc cI g23 8 z19), (aIc cI g24 8 z20), (aIc cI g25 8 z21), (aIc cI g26 8 z22), (aIc cI g27 8 z23), (aIc cI g28 8 z24), (aIc cI g33 8 z25), (aIc cI g34 8 z26), (aIc cI g35 8 z27), (aIc cI g36 8 z28), (aJc cJ g37 8 z29)]) hP hD (fun hP hD => ?_)
        obtain ⟨lo9, hlo9, hlob9⟩ := id hz36
        obtain ⟨sh9, hsh9, hss9⟩ := id hz38
        refine lv_iconst (v := 0) hx hb dX8_broke_51 (by decide) ?_
        refine lv_istore (lv' := [(4, .int 0), (0, .ref g), (1, .int (nI lj)), (2, .int p1), (3, .int p2)]) hx hb dX8_broke_52 hl (by decide) rfl (fun ls hl => ?_)
        refine lv_iconst (v := 0) hx hb dX8_broke_54 (by decide) ?_
        refine lv_istore (lv' := [(5, .int 0), (4, .int 0), (0, .ref g), (1, .int (nI lj)), (2, .int p1), (3, .int p2)]) hx hb dX8_broke_55 hl (by decide) rfl (fun ls hl => ?_)
        have J57 : ∀ (zz : Nat) (i57 : Nat) (h4_57 : Int32) (a_g35_57 : Nat → Int32), (i57 ≤ 8) → (∀ k, k < i57 → -1000000 ≤ (a_g35_57 k).toInt ∧ (a_g35_57 k).toInt ≤ 1000000) → (8 - i57) < zz → ∀ (H : Heap) (locs : List Loc) (ls : Array Slot), va_P D vwCl [(oX8 g 0 (nI mn) g2 g3 g4 g5 g6 g7 g8 g9 g10 (nI ml) g12 g13 gi14 g15 g16 g17 z32 g19 g20 g21 g22 g23 g24 g25 g26 g27 g28 z30 z31 (nI z33) (nI z34) g33 g34 g35 g36 g37 g38 g39 gi40 g41 g42 gi43 g44 g45), (aIc cI g2 8 G2), (aIc cI g3 8 G3), (aIc cI g4 8 G4), (aIc cI g5 8 G5), (aIc cI g6 8 G6), (aIc cI g7 8 G7), (aIc cI g8 8 G8), (aIc cI g10 64 G10), (aIc cI g12 10 G12), (aIc cI g13 10 G13), (aIc cI g19 8 z15), (aIc cI g20 8 z16), (aIc cI g21 8 z17), (aIc cI g22 8 z18), (aIc cI g23 8 z19), (aIc cI g24 8 z20), (aIc cI g25 8 z21), (aIc cI g26 8 z22), (aIc cI g27 8 z23), (aIc cI g28 8 z24), (aIc cI g33 8 z25), (aIc cI g34 8 z26), (aIc cI g35 8 a_g35_57), (aIc cI g36 8 z28), (aJc cJ g37 8 z29)] H → va_D A [(oX8 g 0 (nI mn) g2 g3 g4 g5 g6 g7 g8 g9 g10 (nI ml) g12 g13 gi14 g15 g16 g17 z32 g19 g20 g21 g22 g23 g24 g25 g26 g27 g28 z30 z31 (nI z33) (nI z34) g33 g34 g35 g36 g37 g38 g39 gi40 g41 g42 gi43 g44 g45), (aIc cI g2 8 G2), (aIc cI g3 8 G3), (aIc cI g4 8 G4), (aIc cI g5 8 G5), (aIc cI g6 8 G6), (aIc cI g7 8 G7), (aIc cI g8 8 G8), (aIc cI g10 64 G10), (aIc cI g12 10 G12), (aIc cI g13 10 G13), (aIc cI g19 8 z15), (aIc cI g20 8 z16), (aIc cI g21 8 z17), (aIc cI g22 8 z18), (aIc cI g23 8 z19), (aIc cI g24 8 z20), (aIc cI g25 8 z21), (aIc cI g26 8 z22), (aIc cI g27 8 z23), (aIc cI g28 8 z24), (aIc cI g33 8 z25), (aIc cI g34 8 z26), (aIc cI g35 8 a_g35_57), (aIc cI g36 8 z28), (aJc cJ g37 8 z29)] → va_S A s.heap H locs → lv_has ls 6 [(5, .int (nI i57)), (4, .int h4_57), (0, .ref g), (1, .int (nI lj)), (2, .int p1), (3, .int p2)] → W p l e { frames := 8, cells := 0, slots := 0, locals := 189 } s m [.ref g, .int p0, .int p1, .int p2].toArray below meth c H locs 0 0 (MQ below (cQi D (fun r u => ∃ (G19p G20p G21p G22p G23p G24p G25p G26p G27p G28p G33p G34p G35p G36p : Nat → Int32) (G37p : Nat → Int64) (gi29p gi30p gi18p : Int32) (mvp ttp : Nat) (gi0p : Int32), (LE G19p) ∧ (LO G20p) ∧ (LW G25p) ∧ (SH G27p ttp) ∧ (ttp ≤ 1000000) ∧ (mvp ≤ 8) ∧ u = [(oX8 g gi0p (nI mn) g2 g3 g4 g5 g6 g7 g8 g9 g10 (nI ml) g12 g13 gi14 g15 g16 g17 gi18p g19 g20 g21 g22 g23 g24 g25 g26 g27 g28 gi29p gi30p (nI mvp) (nI ttp) g33 g34 g35 g36 g37 g38 g39 gi40 g41 g42 gi43 g44 g45), (aIc cI g2 8 G2), (aIc cI g3 8 G3), (aIc cI g4 8 G4), (aIc cI g5 8 G5), (aIc cI g6 8 G6), (aIc cI g7 8 G7), (aIc cI g8 8 G8), (aIc cI g10 64 G10), (aIc cI g12 10 G12), (aIc cI g13 10 G13), (aIc cI g19 8 G19p), (aIc cI g20 8 G20p), (aIc cI g21 8 G21p), (aIc cI g22 8 G22p), (aIc cI g23 8 G23p), (aIc cI g24 8 G24p), (aIc cI g25 8 G25p), (aIc cI g26 8 G26p), (aIc cI g27 8 G27p), (aIc cI g28 8 G28p), (aIc cI g33 8 G33p), (aIc cI g34 8 G34p), (aIc cI g35 8 G35p), (aIc cI g36 8 G36p), (aJc cJ g37 8 G37p)]) A) [.ref g, .int p0, .int p1, .int p2].toArray s 0 0 A) (F0 m 57 ls []) := by
          intro zz
          induction zz with
          | zero => intro i57 h4_57 a_g35_57 _ _; exact fun h => absurd h (Nat.not_lt_zero _)
          | succ zz ih57 =>
            intro i57 h4_57 a_g35_57 hc5_57 hci_57 hmu57 H locs ls hP hD hS hl
            refine lv_iload hx hb dX8_broke_57 (lv_at hl 0 rfl) ?_
            refine lv_bipush (v := 8) hx hb dX8_broke_59 (by decide) ?_
            refine lv_icmp_ge (tgt := 149) hx hb dX8_broke_61 (by decide) (fun c42 => ?_) (fun c42 => ?_)
            · skip
              have nc42 : 8 ≤ i57 := (nI_leI (a := 8) (b := i57) (by omega) (by omega)).mp c42
              refine lv_aload_n hx hb dX8_broke_149 rfl (lv_at hl 2 rfl) ?_
              refine lv_iload hx hb dX8_broke_150 (lv_at hl 1 rfl) ?_
              refine k_i (va_runV (As := [.int h4_57]) (rest := []) ⟨hx, hb, hml, hown, hts⟩ (k_X8_shares l D cI cJ H.size g g2 g3 g4 g5 g6 g7 g8 g9 g10 g12 g13 g15 g16 g17 g19 g20 g21 g22 g23 g24 g25 g26 g27 g28 g33 g34 g35 g36 g37 g38 g39 g41 g42 g44 g45 mn ml z33 0 gi14 z32 z30 z31 (nI z34) gi40 gi43 h4_57 a_g35_57 z28 z29 (fun k hk => hci_57 k (by omega))) (cwV 1 hts gX8_broke_X8_shares rfl rfl rfl (by decide +kernel) ⟨Nat.le_of_ble_eq_true rfl, Nat.le_of_ble_eq_true rfl⟩) (k_preV hE hP hD [0, 23, 24, 25] (by decide +kernel) rfl 0 rfl rfl) rfl rfl hl.1 rfl (lv_room (Nat.le_of_ble_eq_true rfl)) dX8_broke_152 ⟨Nat.le_of_ble_eq_true rfl, Nat.le_of_ble_eq_true rfl⟩) hP hD hS hA [0, 23, 24, 25] [1, 2, 3, 4, 5, 6, 7, 8, 9, 10, 11, 12, 13, 14, 15, 16, 17, 18, 19, 20, 21, 22] rfl (wr := [(aIc cI g2 8 G2), (aIc cI g3 8 G3), (aIc cI g4 8 G4), (aIc cI g5 8 G5), (aIc cI g6 8 G6), (aIc cI g7 8 G7), (aIc cI g8 8 G8), (aIc cI g10 64 G10), (aIc cI g12 10 G12), (aIc cI g13 10 G13), (aIc cI g19 8 z15), (aIc cI g20 8 z16), (aIc cI g21 8 z17), (aIc cI g22 8 z18), (aIc cI g23 8 z19), (aIc cI g24 8 z20), (aIc cI g25 8 z21), (aIc cI g26 8 z22), (aIc cI g27 8 z23), (aIc cI g28 8 z24), (aIc cI g33 8 z25), (aIc cI g34 8 z26)]) rfl (by decide +kernel) (by decide +kernel) (fun r43 u H locs hw44 hP hD hS => ?_)
              obtain ⟨z45, z46, rfl⟩ := hw44
              refine k_re (w := [(aIc cI g2 8 G2), (aIc cI g3 8 G3), (aIc cI g4 8 G4), (aIc cI g5 8 G5), (aIc cI g6 8 G6), (aIc cI g7 8 G7), (aIc cI g8 8 G8), (aIc cI g10 64 G10), (aIc cI g12 10 G12), (aIc cI g13 10 G13), (aIc cI g19 8 z15), (aIc cI g20 8 z16), (aIc cI g21 8 z17), (aIc cI g22 8 z18), (aIc cI g23 8 z19), (aIc cI g24 8 z20), (aIc cI g25 8 z21), (aIc cI g26 8 z22), (aIc cI g27 8 z23), (aIc cI g28 8 z24), (aIc cI g33 8 z25), (aIc cI g34 8 z26), (oX8 g 0 (nI mn) g2 g3 g4 g5 g6 g7 g8 g9 g10 (nI ml) g12 g13 gi14 g15 g16 g17 z32 g19 g20 g21 g22 g23 g24 g25 g26 g27 g28 z30 z31 (nI z33) (nI z34) g33 g34 g35 g36 g37 g38 g39 gi40 g41 g42 gi43 g44 g45), (aIc cI g35 8 a_g35_57), (aIc cI g36 8 z45), (aJc cJ g37 8 z46)]) hP hD (fun hP hD => ?_)
              refine lv_istore (lv' := [(5, .int r43), (4, .int h4_57), (0, .ref g), (1, .int (nI lj)), (2, .int p1), (3, .int p2)]) hx hb dX8_broke_155 hl (by decide) rfl (fun ls hl => ?_)
              refine lv_iload_n hx hb dX8_broke_157 rfl (lv_at hl 5 rfl) ?_
              refine lv_iconst (v := (-1)) hx hb dX8_broke_158 (by decide) ?_
              refine lv_icmp_ne (tgt := 168) hx hb dX8_broke_159 (by decide) (fun c47 => absurd c11 c47) (fun c47a => ?_)
              refine lv_iload hx hb dX8_broke_162 (lv_at hl 1 rfl) ?_
              refine lv_iload hx hb dX8_broke_164 (lv_at hl 0 rfl) ?_
              refine lv_isub hx hb dX8_broke_166 ?_
              refine lv_topi (fun v48 ev48 => ?_)
              refine k_iret (u := [(oX8 g 0 (nI mn) g2 g3 g4 g5 g6 g7 g8 g9 g10 (nI ml) g12 g13 gi14 g15 g16 g17 z32 g19 g20 g21 g22 g23 g24 g25 g26 g27 g28 z30 z31 (nI z33) (nI z34) g33 g34 g35 g36 g37 g38 g39 gi40 g41 g42 gi43 g44 g45), (aIc cI g2 8 G2), (aIc cI g3 8 G3), (aIc cI g4 8 G4), (aIc cI g5 8 G5), (aIc cI g6 8 G6), (aIc cI g7 8 G7), (aIc cI g8 8 G8), (aIc cI g10 64 G10), (aIc cI g12 10 G12), (aIc cI g13 10 G13), (aIc cI g19 8 z15), (aIc cI g20 8 z16), (aIc cI g21 8 z17), (aIc cI g22 8 z18), (aIc cI g23 8 z19), (aIc cI g24 8 z20), (aIc cI g25 8 z21), (aIc cI g26 8 z22), (aIc cI g27 8 z23), (aIc cI g28 8 z24), (aIc cI g33 8 z25), (aIc cI g34 8 z26), (aIc cI g35 8 a_g35_57), (aIc cI g36 8 z45), (aJc cJ g37 8 z46)]) hx hb hr hlk (k_sub hP [22, 0, 1, 2, 3, 4, 5, 6, 7, 8, 9, 10, 11, 12, 13, 14, 15, 16, 17, 18, 19, 20, 21, 23, 24, 25] rfl) (hD.sub [22, 0, 1, 2, 3, 4, 5, 6, 7, 8, 9, 10, 11, 12, 13, 14, 15, 16, 17, 18, 19, 20, 21, 23, 24, 25] (by decide +kernel) rfl) hS dX8_broke_167 ?_
              exact ⟨z15, z16, z17, z18, z19, z20, z21, z22, z23, z24, z25, z26, a_g35_57, z45, z46, z30, z31, z32, z33, z34, 0, hz35, hz36, hz37, hz38, hz39, hz40, rfl⟩
            · skip
              have nc42 : ¬ 8 ≤ i57 := fun q9 => c42 ((nI_leI (a := 8) (b := i57) (by omega) (by omega)).mpr q9)
              refine lv_iload hx hb dX8_broke_64 (lv_at hl 1 rfl) ?_
              refine lv_iload_n hx hb dX8_broke_66 rfl (lv_at hl 4 rfl) ?_
              refine lv_iload hx hb dX8_broke_67 (lv_at hl 0 rfl) ?_
              refine k_iS (va_runS (As := [.int p1, .int (nI i57)]) (rest := [.int h4_57]) ⟨hx, hb, hml, hown, hts⟩ (m_X8_isOn l D cI cJ H.size p1 (nI i57)) (va_cwS 2 hts gX8_broke_X8_isOn rfl rfl rfl (by decide +kernel) ⟨Nat.le_of_ble_eq_true rfl, Nat.le_of_ble_eq_true rfl⟩) (k_pre hE hP hD [] (by decide +kernel) rfl) rfl rfl hl.1 rfl (lv_room (Nat.le_of_ble_eq_true rfl)) dX8_broke_69 ⟨Nat.le_of_ble_eq_true rfl, Nat.le_of_ble_eq_true rfl⟩) hP hD hS hA [] rfl (fun _ _ h9 => h9.2) (fun r49 H locs hw50 hP hD hS => ?_)
              obtain ⟨hw50, -⟩ := hw50
              refine lv_if_eq (tgt := 85) hx hb dX8_broke_72 (by decide) (fun c51 => ?_) (fun c51 => ?_)
              · skip
                have hc51 : ¬ ((p1 >>> ((nI i57) &&& 31)) &&& 1 = 1) := bz_0 hw50 c51
                refine lv_iconst (v := 0) hx hb dX8_broke_85 (by decide) ?_
                refine lv_iadd hx hb dX8_broke_86 ?_
                refine lv_topi (fun v52 ev52 => ?_)
                refine lv_istore (lv' := [(4, .int v52), (5, .int (nI i57)), (0, .ref g), (1, .int (nI lj)), (2, .int p1), (3, .int p2)]) hx hb dX8_broke_87 hl (by decide) rfl (fun ls hl => ?_)
                refine lv_aload_n hx hb dX8_broke_89 rfl (lv_at hl 2 rfl) ?_
                refine va_get (D := D) (ci := 8) (v := .ref g35) (C := RX8) (T := TX8) (N := 46) hx hb hts hiX8 hown hE.1 hP 0 rfl rfl 35 (by decide) (hts _ (List.mem_cons_of_mem _ wd_142)) (fun _ h9 => h9) rfl dX8_broke_90 ?_
                refine lv_iload hx hb dX8_broke_93 (lv_at hl 1 rfl) ?_
                refine lv_aload_n hx hb dX8_broke_95 rfl (lv_at hl 2 rfl) ?_
                refine lv_iload hx hb dX8_broke_96 (lv_at hl 1 rfl) ?_
                refine k_iS (va_runV (As := [.int (nI i57)]) (rest := [.int (nI i57), .ref g35]) ⟨hx, hb, hml, hown, hts⟩ (m_X8_isPolicy l D cI cJ H.size g g2 g3 g4 g5 g6 g7 g8 g9 g10 g12 g13 g15 g16 g17 g19 g20 g21 g22 g23 g24 g25 g26 g27 g28 g33 g34 g35 g36 g37 g38 g39 g41 g42 g44 g45 mn ml z33 0 gi14 z32 z30 z31 (nI z34) gi40 gi43 (nI i57)) (cwV 1 hts gX8_broke_X8_isPolicy rfl rfl rfl (by decide +kernel) ⟨Nat.le_of_ble_eq_true rfl, Nat.le_of_ble_eq_true rfl⟩) (k_preV hE hP hD [0] (by decide +kernel) rfl 0 rfl rfl) rfl rfl hl.1 rfl (lv_room (Nat.le_of_ble_eq_true rfl)) dX8_broke_98 ⟨Nat.le_of_ble_eq_true rfl, Nat.le_of_ble_eq_true rfl⟩) hP hD hS hA [0] rfl (fun _ _ ⟨_, h9⟩ => h9) (fun r53 H locs hw54 hP hD hS => ?_)
                obtain ⟨hb55, -⟩ := hw54
                refine lv_if_eq (tgt := 141) hx hb dX8_broke_101 (by decide) (fun c56 => ?_) (fun c56 => ?_)
                · skip
                  have hc56 : ¬ (0 ≤ (nI i57) ∧ (nI i57) ≤ nI mn - 1) := bz_0 hb55 c56
                  refine lv_iconst (v := 0) hx hb dX8_broke_141 (by decide) ?_
                  refine va_iast hx hb hE.1 hP hD hS 23 0 rfl rfl (vp_in_nI (n := i57) (by omega) (by decide)) dX8_broke_142 (fun H locs hP hD hS => ?_)
                  refine k_re (w := [(oX8 g 0 (nI mn) g2 g3 g4 g5 g6 g7 g8 g9 g10 (nI ml) g12 g13 gi14 g15 g16 g17 z32 g19 g20 g21 g22 g23 g24 g25 g26 g27 g28 z30 z31 (nI z33) (nI z34) g33 g34 g35 g36 g37 g38 g39 gi40 g41 g42 gi43 g44 g45), (aIc cI g2 8 G2), (aIc cI g3 8 G3), (aIc cI g4 8 G4), (aIc cI g5 8 G5), (aIc cI g6 8 G6), (aIc cI g7 8 G7), (aIc cI g8 8 G8), (aIc cI g10 64 G10), (aIc cI g12 10 G12), (aIc cI g13 10 G13), (aIc cI g19 8 z15), (aIc cI g20 8 z16), (aIc cI g21 8 z17), (aIc cI g22 8 z18), (aIc cI g23 8 z19), (aIc cI g24 8 z20), (aIc cI g25 8 z21), (aIc cI g26 8 z22), (aIc cI g27 8 z23), (aIc cI g28 8 z24), (aIc cI g33 8 z25), (aIc cI g34 8 z26), (aIc cI g35 8 (upd a_g35_57 (Int32.toNatClampNeg (nI i57)) 0)), (aIc cI g36 8 z28), (aJc cJ g37 8 z29)]) hP hD (fun hP hD => ?_)
                  refine lv_iinc (v := (nI (i57 + 1))) (lv' := [(5, .int (nI (i57 + 1))), (4, .int v52), (0, .ref g), (1, .int (nI lj)), (2, .int p1), (3, .int p2)]) hx hb dX8_broke_143 hl (k := 1) rfl (nI_1 _) (by decide) rfl (fun ls hl => ?_)
                  refine lv_goto (tgt := 57) hx hb dX8_broke_146 (by decide) ?_
                  exact ih57 (i57 + 1) v52 (upd a_g35_57 (Int32.toNatClampNeg (nI i57)) 0) (by omega) (ci_up (by omega) bk_0 hci_57) (by omega) _ _ _ hP hD hS (lv_sub hl [0, 1, 2, 3, 4, 5] rfl)
                · skip
                  have hc56 : 0 ≤ (nI i57) ∧ (nI i57) ≤ nI mn - 1 := bz_1 hb55 c56
                  refine lv_aload_n hx hb dX8_broke_104 rfl (lv_at hl 2 rfl) ?_
                  refine va_get (D := D) (ci := 8) (v := .ref g7) (C := RX8) (T := TX8) (N := 46) hx hb hts hiX8 hown hE.1 hP 0 rfl rfl 7 (by decide) (hts _ (List.mem_cons_of_mem _ wd_121)) (fun _ h9 => h9) rfl dX8_broke_105 ?_
                  refine lv_iload hx hb dX8_broke_108 (lv_at hl 1 rfl) ?_
                  refine va_iald hx hb hE.1 hP 6 0 rfl rfl (vp_in_nI (n := i57) (by omega) (by decide)) dX8_broke_110 ?_
                  refine lv_topi (fun v57 ev57 => ?_)
                  refine lv_if_ne (tgt := 141) hx hb dX8_broke_111 (by decide) (fun c58 => ?_) (fun c58 => ?_)
                  · skip
                    refine lv_iconst (v := 0) hx hb dX8_broke_141 (by decide) ?_
                    refine va_iast hx hb hE.1 hP hD hS 23 0 rfl rfl (vp_in_nI (n := i57) (by omega) (by decide)) dX8_broke_142 (fun H locs hP hD hS => ?_)
                    refine k_re (w := [(oX8 g 0 (nI mn) g2 g3 g4 g5 g6 g7 g8 g9 g10 (nI ml) g12 g13 gi14 g15 g16 g17 z32 g19 g20 g21 g22 g23 g24 g25 g26 g27 g28 z30 z31 (nI z33) (nI z34) g33 g34 g35 g36 g37 g38 g39 gi40 g41 g42 gi43 g44 g45), (aIc cI g2 8 G2), (aIc cI g3 8 G3), (aIc cI g4 8 G4), (aIc cI g5 8 G5), (aIc cI g6 8 G6), (aIc cI g7 8 G7), (aIc cI g8 8 G8), (aIc cI g10 64 G10), (aIc cI g12 10 G12), (aIc cI g13 10 G13), (aIc cI g19 8 z15), (aIc cI g20 8 z16), (aIc cI g21 8 z17), (aIc cI g22 8 z18), (aIc cI g23 8 z19), (aIc cI g24 8 z20), (aIc cI g25 8 z21), (aIc cI g26 8 z22), (aIc cI g27 8 z23), (aIc cI g28 8 z24), (aIc cI g33 8 z25), (aIc cI g34 8 z26), (aIc cI g35 8 (upd a_g35_57 (Int32.toNatClampNeg (nI i57)) 0)), (aIc cI g36 8 z28), (aJc cJ g37 8 z29)]) hP hD (fun hP hD => ?_)
                    refine lv_iinc (v := (nI (i57 + 1))) (lv' := [(5, .int (nI (i57 + 1))), (4, .int v52), (0, .ref g), (1, .int (nI lj)), (2, .int p1), (3, .int p2)]) hx hb dX8_broke_143 hl (k := 1) rfl (nI_1 _) (by decide) rfl (fun ls hl => ?_)
                    refine lv_goto (tgt := 57) hx hb dX8_broke_146 (by decide) ?_
                    exact ih57 (i57 + 1) v52 (upd a_g35_57 (Int32.toNatClampNeg (nI i57)) 0) (by omega) (ci_up (by omega) bk_0 hci_57) (by omega) _ _ _ hP hD hS (lv_sub hl [0, 1, 2, 3, 4, 5] rfl)
                  · skip
                    refine lv_iload_n hx hb dX8_broke_114 rfl (lv_at hl 4 rfl) ?_
                    refine lv_iload hx hb dX8_broke_115 (lv_at hl 1 rfl) ?_
                    refine k_iS (va_runS (As := [.int p1, .int (nI i57)]) (rest := [.int (nI i57), .ref g35]) ⟨hx, hb, hml, hown, hts⟩ (m_X8_isOn l D cI cJ H.size p1 (nI i57)) (va_cwS 2 hts gX8_broke_X8_isOn rfl rfl rfl (by decide +kernel) ⟨Nat.le_of_ble_eq_true rfl, Nat.le_of_ble_eq_true rfl⟩) (k_pre hE hP hD [] (by decide +kernel) rfl) rfl rfl hl.1 rfl (lv_room (Nat.le_of_ble_eq_true rfl)) dX8_broke_117 ⟨Nat.le_of_ble_eq_true rfl, Nat.le_of_ble_eq_true rfl⟩) hP hD hS hA [] rfl (fun _ _ h9 => h9.2) (fun r59 H locs hw60 hP hD hS => ?_)
                    obtain ⟨hw60, -⟩ := hw60
                    refine lv_if_ne (tgt := 141) hx hb dX8_broke_120 (by decide) (fun c61 => ?_) (fun c61 => ?_)
                    · skip
                      have hc61 : (p1 >>> ((nI i57) &&& 31)) &&& 1 = 1 := bz_1 hw60 c61
                      refine lv_iconst (v := 0) hx hb dX8_broke_141 (by decide) ?_
                      refine va_iast hx hb hE.1 hP hD hS 23 0 rfl rfl (vp_in_nI (n := i57) (by omega) (by decide)) dX8_broke_142 (fun H locs hP hD hS => ?_)
                      refine k_re (w := [(oX8 g 0 (nI mn) g2 g3 g4 g5 g6 g7 g8 g9 g10 (nI ml) g12 g13 gi14 g15 g16 g17 z32 g19 g20 g21 g22 g23 g24 g25 g26 g27 g28 z30 z31 (nI z33) (nI z34) g33 g34 g35 g36 g37 g38 g39 gi40 g41 g42 gi43 g44 g45), (aIc cI g2 8 G2), (aIc cI g3 8 G3), (aIc cI g4 8 G4), (aIc cI g5 8 G5), (aIc cI g6 8 G6), (aIc cI g7 8 G7), (aIc cI g8 8 G8), (aIc cI g10 64 G10), (aIc cI g12 10 G12), (aIc cI g13 10 G13), (aIc cI g19 8 z15), (aIc cI g20 8 z16), (aIc cI g21 8 z17), (aIc cI g22 8 z18), (aIc cI g23 8 z19), (aIc cI g24 8 z20), (aIc cI g25 8 z21), (aIc cI g26 8 z22), (aIc cI g27 8 z23), (aIc cI g28 8 z24), (aIc cI g33 8 z25), (aIc cI g34 8 z26), (aIc cI g35 8 (upd a_g35_57 (Int32.toNatClampNeg (nI i57)) 0)), (aIc cI g36 8 z28), (aJc cJ g37 8 z29)]) hP hD (fun hP hD => ?_)
                      refine lv_iinc (v := (nI (i57 + 1))) (lv' := [(5, .int (nI (i57 + 1))), (4, .int v52), (0, .ref g), (1, .int (nI lj)), (2, .int p1), (3, .int p2)]) hx hb dX8_broke_143 hl (k := 1) rfl (nI_1 _) (by decide) rfl (fun ls hl => ?_)
                      refine lv_goto (tgt := 57) hx hb dX8_broke_146 (by decide) ?_
                      exact ih57 (i57 + 1) v52 (upd a_g35_57 (Int32.toNatClampNeg (nI i57)) 0) (by omega) (ci_up (by omega) bk_0 hci_57) (by omega) _ _ _ hP hD hS (lv_sub hl [0, 1, 2, 3, 4, 5] rfl)
                    · skip
                      have hc61 : ¬ ((p1 >>> ((nI i57) &&& 31)) &&& 1 = 1) := bz_0 hw60 c61
                      refine lv_aload_n hx hb dX8_broke_123 rfl (lv_at hl 2 rfl) ?_
                      refine va_get (D := D) (ci := 8) (v := .ref g20) (C := RX8) (T := TX8) (N := 46) hx hb hts hiX8 hown hE.1 hP 0 rfl rfl 20 (by decide) (hts _ (List.mem_cons_of_mem _ wd_131)) (fun _ h9 => h9) rfl dX8_broke_124 ?_
                      refine lv_iload hx hb dX8_broke_127 (lv_at hl 1 rfl) ?_
                      refine va_iald hx hb hE.1 hP 12 0 rfl rfl (vp_in_nI (n := i57) (by omega) (by decide)) dX8_broke_129 ?_
                      refine lv_topi (fun v62 ev62 => ?_)
                      obtain rfl : v62 = nI (lo9 i57) := ev62.trans (nv_at hlo9 (by omega))
                      refine lv_aload_n hx hb dX8_broke_130 rfl (lv_at hl 2 rfl) ?_
                      refine va_get (D := D) (ci := 8) (v := .ref g27) (C := RX8) (T := TX8) (N := 46) hx hb hts hiX8 hown hE.1 hP 0 rfl rfl 27 (by decide) (hts _ (List.mem_cons_of_mem _ wd_138)) (fun _ h9 => h9) rfl dX8_broke_131 ?_
                      refine lv_iload hx hb dX8_broke_134 (lv_at hl 1 rfl) ?_
                      refine va_iald hx hb hE.1 hP 19 0 rfl rfl (vp_in_nI (n := i57) (by omega) (by decide)) dX8_broke_136 ?_
                      refine lv_topi (fun v63 ev63 => ?_)
                      obtain rfl : v63 = nI (sh9 i57) := ev63.trans (nv_at hsh9 (by omega))
                      refine lv_isub hx hb dX8_broke_137 ?_
                      refine lv_topi (fun v64 ev64 => ?_)
                      have hlob_ := hlob9 i57 (by omega)
                      have hshb_ := sm_get sh9 (k := i57) (n := 8) (by omega)
                      have hbd := bk_d ev64 (by omega) (by omega)
                      refine lv_goto (tgt := 142) hx hb dX8_broke_138 (by decide) ?_
                      refine va_iast hx hb hE.1 hP hD hS 23 0 rfl rfl (vp_in_nI (n := i57) (by omega) (by decide)) dX8_broke_142 (fun H locs hP hD hS => ?_)
                      refine k_re (w := [(oX8 g 0 (nI mn) g2 g3 g4 g5 g6 g7 g8 g9 g10 (nI ml) g12 g13 gi14 g15 g16 g17 z32 g19 g20 g21 g22 g23 g24 g25 g26 g27 g28 z30 z31 (nI z33) (nI z34) g33 g34 g35 g36 g37 g38 g39 gi40 g41 g42 gi43 g44 g45), (aIc cI g2 8 G2), (aIc cI g3 8 G3), (aIc cI g4 8 G4), (aIc cI g5 8 G5), (aIc cI g6 8 G6), (aIc cI g7 8 G7), (aIc cI g8 8 G8), (aIc cI g10 64 G10), (aIc cI g12 10 G12), (aIc cI g13 10 G13), (aIc cI g19 8 z15), (aIc cI g20 8 z16), (aIc cI g21 8 z17), (aIc cI g22 8 z18), (aIc cI g23 8 z19), (aIc cI g24 8 z20), (aIc cI g25 8 z21), (aIc cI g26 8 z22), (aIc cI g27 8 z23), (aIc cI g28 8 z24), (aIc cI g33 8 z25), (aIc cI g34 8 z26), (aIc cI g35 8 (upd a_g35_57 (Int32.toNatClampNeg (nI i57)) v64)), (aIc cI g36 8 z28), (aJc cJ g37 8 z29)]) hP hD (fun hP hD => ?_)
                      refine lv_iinc (v := (nI (i57 + 1))) (lv' := [(5, .int (nI (i57 + 1))), (4, .int v52), (0, .ref g), (1, .int (nI lj)), (2, .int p1), (3, .int p2)]) hx hb dX8_broke_143 hl (k := 1) rfl (nI_1 _) (by decide) rfl (fun ls hl => ?_)
                      refine lv_goto (tgt := 57) hx hb dX8_broke_146 (by decide) ?_
                      exact ih57 (i57 + 1) v52 (upd a_g35_57 (Int32.toNatClampNeg (nI i57)) v64) (by omega) (ci_up (by omega) hbd hci_57) (by omega) _ _ _ hP hD hS (lv_sub hl [0, 1, 2, 3, 4, 5] rfl)
              · skip
                have hc51 : (p1 >>> ((nI i57) &&& 31)) &&& 1 = 1 := bz_1 hw50 c51
                refine lv_aload_n hx hb dX8_broke_75 rfl (lv_at hl 2 rfl) ?_
                refine va_get (D := D) (ci := 8) (v := .ref g27) (C := RX8) (T := TX8) (N := 46) hx hb hts hiX8 hown hE.1 hP 0 rfl rfl 27 (by decide) (hts _ (List.mem_cons_of_mem _ wd_138)) (fun _ h9 => h9) rfl dX8_broke_76 ?_
                refine lv_iload hx hb dX8_broke_79 (lv_at hl 0 rfl) ?_
                refine va_iald hx hb hE.1 hP 19 0 rfl rfl (vp_in_nI (n := i57) (by omega) (by decide)) dX8_broke_81 ?_
                refine lv_topi (fun v65 ev65 => ?_)
                refine lv_goto (tgt := 86) hx hb dX8_broke_82 (by decide) ?_
                refine lv_iadd hx hb dX8_broke_86 ?_
                refine lv_topi (fun v66 ev66 => ?_)
                refine lv_istore (lv' := [(4, .int v66), (5, .int (nI i57)), (0, .ref g), (1, .int (nI lj)), (2, .int p1), (3, .int p2)]) hx hb dX8_broke_87 hl (by decide) rfl (fun ls hl => ?_)
                refine lv_aload_n hx hb dX8_broke_89 rfl (lv_at hl 2 rfl) ?_
                refine va_get (D := D) (ci := 8) (v := .ref g35) (C := RX8) (T := TX8) (N := 46) hx hb hts hiX8 hown hE.1 hP 0 rfl rfl 35 (by decide) (hts _ (List.mem_cons_of_mem _ wd_142)) (fun _ h9 => h9) rfl dX8_broke_90 ?_
                refine lv_iload hx hb dX8_broke_93 (lv_at hl 1 rfl) ?_
                refine lv_aload_n hx hb dX8_broke_95 rfl (lv_at hl 2 rfl) ?_
                refine lv_iload hx hb dX8_broke_96 (lv_at hl 1 rfl) ?_
                refine k_iS (va_runV (As := [.int (nI i57)]) (rest := [.int (nI i57), .ref g35]) ⟨hx, hb, hml, hown, hts⟩ (m_X8_isPolicy l D cI cJ H.size g g2 g3 g4 g5 g6 g7 g8 g9 g10 g12 g13 g15 g16 g17 g19 g20 g21 g22 g23 g24 g25 g26 g27 g28 g33 g34 g35 g36 g37 g38 g39 g41 g42 g44 g45 mn ml z33 0 gi14 z32 z30 z31 (nI z34) gi40 gi43 (nI i57)) (cwV 1 hts gX8_broke_X8_isPolicy rfl rfl rfl (by decide +kernel) ⟨Nat.le_of_ble_eq_true rfl, Nat.le_of_ble_eq_true rfl⟩) (k_preV hE hP hD [0] (by decide +kernel) rfl 0 rfl rfl) rfl rfl hl.1 rfl (lv_room (Nat.le_of_ble_eq_true rfl)) dX8_broke_98 ⟨Nat.le_of_ble_eq_true rfl, Nat.le_of_ble_eq_true rfl⟩) hP hD hS hA [0] rfl (fun _ _ ⟨_, h9⟩ => h9) (fun r67 H locs hw68 hP hD hS => ?_)
                obtain ⟨hb69, -⟩ := hw68
                refine lv_if_eq (tgt := 141) hx hb dX8_broke_101 (by decide) (fun c70 => ?_) (fun c70 => ?_)
                · skip
                  have hc70 : ¬ (0 ≤ (nI i57) ∧ (nI i57) ≤ nI mn - 1) := bz_0 hb69 c70
                  refine lv_iconst (v := 0) hx hb dX8_broke_141 (by decide) ?_
                  refine va_iast hx hb hE.1 hP hD hS 23 0 rfl rfl (vp_in_nI (n := i57) (by omega) (by decide)) dX8_broke_142 (fun H locs hP hD hS => ?_)
                  refine k_re (w := [(oX8 g 0 (nI mn) g2 g3 g4 g5 g6 g7 g8 g9 g10 (nI ml) g12 g13 gi14 g15 g16 g17 z32 g19 g20 g21 g22 g23 g24 g25 g26 g27 g28 z30 z31 (nI z33) (nI z34) g33 g34 g35 g36 g37 g38 g39 gi40 g41 g42 gi43 g44 g45), (aIc cI g2 8 G2), (aIc cI g3 8 G3), (aIc cI g4 8 G4), (aIc cI g5 8 G5), (aIc cI g6 8 G6), (aIc cI g7 8 G7), (aIc cI g8 8 G8), (aIc cI g10 64 G10), (aIc cI g12 10 G12), (aIc cI g13 10 G13), (aIc cI g19 8 z15), (aIc cI g20 8 z16), (aIc cI g21 8 z17), (aIc cI g22 8 z18), (aIc cI g23 8 z19), (aIc cI g24 8 z20), (aIc cI g25 8 z21), (aIc cI g26 8 z22), (aIc cI g27 8 z23), (aIc cI g28 8 z24), (aIc cI g33 8 z25), (aIc cI g34 8 z26), (aIc cI g35 8 (upd a_g35_57 (Int32.toNatClampNeg (nI i57)) 0)), (aIc cI g36 8 z28), (aJc cJ g37 8 z29)]) hP hD (fun hP hD => ?_)
                  refine lv_iinc (v := (nI (i57 + 1))) (lv' := [(5, .int (nI (i57 + 1))), (4, .int v66), (0, .ref g), (1, .int (nI lj)), (2, .int p1), (3, .int p2)]) hx hb dX8_broke_143 hl (k := 1) rfl (nI_1 _) (by decide) rfl (fun ls hl => ?_)
                  refine lv_goto (tgt := 57) hx hb dX8_broke_146 (by decide) ?_
                  exact ih57 (i57 + 1) v66 (upd a_g35_57 (Int32.toNatClampNeg (nI i57)) 0) (by omega) (ci_up (by omega) bk_0 hci_57) (by omega) _ _ _ hP hD hS (lv_sub hl [0, 1, 2, 3, 4, 5] rfl)
                · skip
                  have hc70 : 0 ≤ (nI i57) ∧ (nI i57) ≤ nI mn - 1 := bz_1 hb69 c70
                  refine lv_aload_n hx hb dX8_broke_104 rfl (lv_at hl 2 rfl) ?_
                  refine va_get (D := D) (ci := 8) (v := .ref g7) (C := RX8) (T := TX8) (N := 46) hx hb hts hiX8 hown hE.1 hP 0 rfl rfl 7 (by decide) (hts _ (List.mem_cons_of_mem _ wd_121)) (fun _ h9 => h9) rfl dX8_broke_105 ?_
                  refine lv_iload hx hb dX8_broke_108 (lv_at hl 1 rfl) ?_
                  refine va_iald hx hb hE.1 hP 6 0 rfl rfl (vp_in_nI (n := i57) (by omega) (by decide)) dX8_broke_110 ?_
                  refine lv_topi (fun v71 ev71 => ?_)
                  refine lv_if_ne (tgt := 141) hx hb dX8_broke_111 (by decide) (fun c72 => ?_) (fun c72 => ?_)
                  · skip
                    refine lv_iconst (v := 0) hx hb dX8_broke_141 (by decide) ?_
                    refine va_iast hx hb hE.1 hP hD hS 23 0 rfl rfl (vp_in_nI (n := i57) (by omega) (by decide)) dX8_broke_142 (fun H locs hP hD hS => ?_)
                    refine k_re (w := [(oX8 g 0 (nI mn) g2 g3 g4 g5 g6 g7 g8 g9 g10 (nI ml) g12 g13 gi14 g15 g16 g17 z32 g19 g20 g21 g22 g23 g24 g25 g26 g27 g28 z30 z31 (nI z33) (nI z34) g33 g34 g35 g36 g37 g38 g39 gi40 g41 g42 gi43 g44 g45), (aIc cI g2 8 G2), (aIc cI g3 8 G3), (aIc cI g4 8 G4), (aIc cI g5 8 G5), (aIc cI g6 8 G6), (aIc cI g7 8 G7), (aIc cI g8 8 G8), (aIc cI g10 64 G10), (aIc cI g12 10 G12), (aIc cI g13 10 G13), (aIc cI g19 8 z15), (aIc cI g20 8 z16), (aIc cI g21 8 z17), (aIc cI g22 8 z18), (aIc cI g23 8 z19), (aIc cI g24 8 z20), (aIc cI g25 8 z21), (aIc cI g26 8 z22), (aIc cI g27 8 z23), (aIc cI g28 8 z24), (aIc cI g33 8 z25), (aIc cI g34 8 z26), (aIc cI g35 8 (upd a_g35_57 (Int32.toNatClampNeg (nI i57)) 0)), (aIc cI g36 8 z28), (aJc cJ g37 8 z29)]) hP hD (fun hP hD => ?_)
                    refine lv_iinc (v := (nI (i57 + 1))) (lv' := [(5, .int (nI (i57 + 1))), (4, .int v66), (0, .ref g), (1, .int (nI lj)), (2, .int p1), (3, .int p2)]) hx hb dX8_broke_143 hl (k := 1) rfl (nI_1 _) (by decide) rfl (fun ls hl => ?_)
                    refine lv_goto (tgt := 57) hx hb dX8_broke_146 (by decide) ?_
                    exact ih57 (i57 + 1) v66 (upd a_g35_57 (Int32.toNatClampNeg (nI i57)) 0) (by omega) (ci_up (by omega) bk_0 hci_57) (by omega) _ _ _ hP hD hS (lv_sub hl [0, 1, 2, 3, 4, 5] rfl)
                  · skip
                    refine lv_iload_n hx hb dX8_broke_114 rfl (lv_at hl 4 rfl) ?_
                    refine lv_iload hx hb dX8_broke_115 (lv_at hl 1 rfl) ?_
                    refine k_iS (va_runS (As := [.int p1, .int (nI i57)]) (rest := [.int (nI i57), .ref g35]) ⟨hx, hb, hml, hown, hts⟩ (m_X8_isOn l D cI cJ H.size p1 (nI i57)) (va_cwS 2 hts gX8_broke_X8_isOn rfl rfl rfl (by decide +kernel) ⟨Nat.le_of_ble_eq_true rfl, Nat.le_of_ble_eq_true rfl⟩) (k_pre hE hP hD [] (by decide +kernel) rfl) rfl rfl hl.1 rfl (lv_room (Nat.le_of_ble_eq_true rfl)) dX8_broke_117 ⟨Nat.le_of_ble_eq_true rfl, Nat.le_of_ble_eq_true rfl⟩) hP hD hS hA [] rfl (fun _ _ h9 => h9.2) (fun r73 H locs hw74 hP hD hS => ?_)
                    obtain ⟨hw74, -⟩ := hw74
                    refine lv_if_ne (tgt := 141) hx hb dX8_broke_120 (by decide) (fun c75 => ?_) (fun c75 => ?_)
                    · skip
                      have hc75 : (p1 >>> ((nI i57) &&& 31)) &&& 1 = 1 := bz_1 hw74 c75
                      refine lv_iconst (v := 0) hx hb dX8_broke_141 (by decide) ?_
                      refine va_iast hx hb hE.1 hP hD hS 23 0 rfl rfl (vp_in_nI (n := i57) (by omega) (by decide)) dX8_broke_142 (fun H locs hP hD hS => ?_)
                      refine k_re (w := [(oX8 g 0 (nI mn) g2 g3 g4 g5 g6 g7 g8 g9 g10 (nI ml) g12 g13 gi14 g15 g16 g17 z32 g19 g20 g21 g22 g23 g24 g25 g26 g27 g28 z30 z31 (nI z33) (nI z34) g33 g34 g35 g36 g37 g38 g39 gi40 g41 g42 gi43 g44 g45), (aIc cI g2 8 G2), (aIc cI g3 8 G3), (aIc cI g4 8 G4), (aIc cI g5 8 G5), (aIc cI g6 8 G6), (aIc cI g7 8 G7), (aIc cI g8 8 G8), (aIc cI g10 64 G10), (aIc cI g12 10 G12), (aIc cI g13 10 G13), (aIc cI g19 8 z15), (aIc cI g20 8 z16), (aIc cI g21 8 z17), (aIc cI g22 8 z18), (aIc cI g23 8 z19), (aIc cI g24 8 z20), (aIc cI g25 8 z21), (aIc cI g26 8 z22), (aIc cI g27 8 z23), (aIc cI g28 8 z24), (aIc cI g33 8 z25), (aIc cI g34 8 z26), (aIc cI g35 8 (upd a_g35_57 (Int32.toNatClampNeg (nI i57)) 0)), (aIc cI g36 8 z28), (aJc cJ g37 8 z29)]) hP hD (fun hP hD => ?_)
                      refine lv_iinc (v := (nI (i57 + 1))) (lv' := [(5, .int (nI (i57 + 1))), (4, .int v66), (0, .ref g), (1, .int (nI lj)), (2, .int p1), (3, .int p2)]) hx hb dX8_broke_143 hl (k := 1) rfl (nI_1 _) (by decide) rfl (fun ls hl => ?_)
                      refine lv_goto (tgt := 57) hx hb dX8_broke_146 (by decide) ?_
                      exact ih57 (i57 + 1) v66 (upd a_g35_57 (Int32.toNatClampNeg (nI i57)) 0) (by omega) (ci_up (by omega) bk_0 hci_57) (by omega) _ _ _ hP hD hS (lv_sub hl [0, 1, 2, 3, 4, 5] rfl)
                    · skip
                      have hc75 : ¬ ((p1 >>> ((nI i57) &&& 31)) &&& 1 = 1) := bz_0 hw74 c75
                      refine lv_aload_n hx hb dX8_broke_123 rfl (lv_at hl 2 rfl) ?_
                      refine va_get (D := D) (ci := 8) (v := .ref g20) (C := RX8) (T := TX8) (N := 46) hx hb hts hiX8 hown hE.1 hP 0 rfl rfl 20 (by decide) (hts _ (List.mem_cons_of_mem _ wd_131)) (fun _ h9 => h9) rfl dX8_broke_124 ?_
                      refine lv_iload hx hb dX8_broke_127 (lv_at hl 1 rfl) ?_
                      refine va_iald hx hb hE.1 hP 12 0 rfl rfl (vp_in_nI (n := i57) (by omega) (by decide)) dX8_broke_129 ?_
                      refine lv_topi (fun v76 ev76 => ?_)
                      obtain rfl : v76 = nI (lo9 i57) := ev76.trans (nv_at hlo9 (by omega))
                      refine lv_aload_n hx hb dX8_broke_130 rfl (lv_at hl 2 rfl) ?_
                      refine va_get (D := D) (ci := 8) (v := .ref g27) (C := RX8) (T := TX8) (N := 46) hx hb hts hiX8 hown hE.1 hP 0 rfl rfl 27 (by decide) (hts _ (List.mem_cons_of_mem _ wd_138)) (fun _ h9 => h9) rfl dX8_broke_131 ?_
                      refine lv_iload hx hb dX8_broke_134 (lv_at hl 1 rfl) ?_
                      refine va_iald hx hb hE.1 hP 19 0 rfl rfl (vp_in_nI (n := i57) (by omega) (by decide)) dX8_broke_136 ?_
                      refine lv_topi (fun v77 ev77 => ?_)
                      obtain rfl : v77 = nI (sh9 i57) := ev77.trans (nv_at hsh9 (by omega))
                      refine lv_isub hx hb dX8_broke_137 ?_
                      refine lv_topi (fun v78 ev78 => ?_)
                      have hlob_ := hlob9 i57 (by omega)
                      have hshb_ := sm_get sh9 (k := i57) (n := 8) (by omega)
                      have hbd := bk_d ev78 (by omega) (by omega)
                      refine lv_goto (tgt := 142) hx hb dX8_broke_138 (by decide) ?_
                      refine va_iast hx hb hE.1 hP hD hS 23 0 rfl rfl (vp_in_nI (n := i57) (by omega) (by decide)) dX8_broke_142 (fun H locs hP hD hS => ?_)
                      refine k_re (w := [(oX8 g 0 (nI mn) g2 g3 g4 g5 g6 g7 g8 g9 g10 (nI ml) g12 g13 gi14 g15 g16 g17 z32 g19 g20 g21 g22 g23 g24 g25 g26 g27 g28 z30 z31 (nI z33) (nI z34) g33 g34 g35 g36 g37 g38 g39 gi40 g41 g42 gi43 g44 g45), (aIc cI g2 8 G2), (aIc cI g3 8 G3), (aIc cI g4 8 G4), (aIc cI g5 8 G5), (aIc cI g6 8 G6), (aIc cI g7 8 G7), (aIc cI g8 8 G8), (aIc cI g10 64 G10), (aIc cI g12 10 G12), (aIc cI g13 10 G13), (aIc cI g19 8 z15), (aIc cI g20 8 z16), (aIc cI g21 8 z17), (aIc cI g22 8 z18), (aIc cI g23 8 z19), (aIc cI g24 8 z20), (aIc cI g25 8 z21), (aIc cI g26 8 z22), (aIc cI g27 8 z23), (aIc cI g28 8 z24), (aIc cI g33 8 z25), (aIc cI g34 8 z26), (aIc cI g35 8 (upd a_g35_57 (Int32.toNatClampNeg (nI i57)) v78)), (aIc cI g36 8 z28), (aJc cJ g37 8 z29)]) hP hD (fun hP hD => ?_)
                      refine lv_iinc (v := (nI (i57 + 1))) (lv' := [(5, .int (nI (i57 + 1))), (4, .int v66), (0, .ref g), (1, .int (nI lj)), (2, .int p1), (3, .int p2)]) hx hb dX8_broke_143 hl (k := 1) rfl (nI_1 _) (by decide) rfl (fun ls hl => ?_)
                      refine lv_goto (tgt := 57) hx hb dX8_broke_146 (by decide) ?_
                      exact ih57 (i57 + 1) v66 (upd a_g35_57 (Int32.toNatClampNeg (nI i57)) v78) (by omega) (ci_up (by omega) hbd hci_57) (by omega) _ _ _ hP hD hS (lv_sub hl [0, 1, 2, 3, 4, 5] rfl)
        exact J57 _ 0 0 z27 (by omega) (fun k hk => absurd hk (Nat.not_lt_zero k)) (Nat.lt_succ_self _) _ _ _ hP hD hS (lv_sub hl [0, 1, 2, 3, 4, 5] rfl)
      · skip
        refine lv_aload_n hx hb dX8_broke_32 rfl (lv_at hl 0 rfl) ?_
        refine lv_iload_n hx hb dX8_broke_33 rfl (lv_at hl 3 rfl) ?_
        refine k_iS (va_runV (As := [.int p2]) (rest := []) ⟨hx, hb, hml, hown, hts⟩ (m_X8_isPolicy l D cI cJ H.size g g2 g3 g4 g5 g6 g7 g8 g9 g10 g12 g13 g15 g16 g17 g19 g20 g21 g22 g23 g24 g25 g26 g27 g28 g33 g34 g35 g36 g37 g38 g39 g41 g42 g44 g45 mn ml mv 0 gi14 gi18 gi29 gi30 (nI tt) gi40 gi43 p2) (cwV 1 hts gX8_broke_X8_isPolicy rfl rfl rfl (by decide +kernel) ⟨Nat.le_of_ble_eq_true rfl, Nat.le_of_ble_eq_true rfl⟩) (k_preV hE hP hD [0] (by decide +kernel) rfl 0 rfl rfl) rfl rfl hl.1 rfl (lv_room (Nat.le_of_ble_eq_true rfl)) dX8_broke_34 ⟨Nat.le_of_ble_eq_true rfl, Nat.le_of_ble_eq_true rfl⟩) hP hD hS hA [0] rfl (fun _ _ ⟨_, h9⟩ => h9) (fun r79 H locs hw80 hP hD hS => ?_)
        obtain ⟨hb81, -⟩ := hw80
        refine lv_if_ne (tgt := 42) hx hb dX8_broke_37 (by decide) (fun c82 => ?_) (fun c82 => ?_)
        · skip
          have hc82 : 0 ≤ p2 ∧ p2 ≤ nI mn - 1 := bz_1 hb81 c82
          obtain ⟨lj, hlj, elj⟩ := wi_n (by omega) hc4
          rw [elj] at hl
          refine lv_aload_n hx hb dX8_broke_42 rfl (lv_at hl 0 rfl) ?_
          refine lv_iload_n hx hb dX8_broke_43 rfl (lv_at hl 1 rfl) ?_
          refine lv_aload_n hx hb dX8_broke_44 rfl (lv_at hl 0 rfl) ?_
          refine k_iS (va_runV (As := []) (rest := [.int (nI lj), .ref g]) ⟨hx, hb, hml, hown, hts⟩ (m_X8_all l D cI cJ H.size g g2 g3 g4 g5 g6 g7 g8 g9 g10 g12 g13 g15 g16 g17 g19 g20 g21 g22 g23 g24 g25 g26 g27 g28 g33 g34 g35 g36 g37 g38 g39 g41 g42 g44 g45 mn ml mv 0 gi14 gi18 gi29 gi30 (nI tt) gi40 gi43 hmn) (cwV 0 hts gX8_broke_X8_all rfl rfl rfl (by decide +kernel) ⟨Nat.le_of_ble_eq_true rfl, Nat.le_of_ble_eq_true rfl⟩) (k_preV hE hP hD [0] (by decide +kernel) rfl 0 rfl rfl) rfl rfl hl.1 rfl (lv_room (Nat.le_of_ble_eq_true rfl)) dX8_broke_45 ⟨Nat.le_of_ble_eq_true rfl, Nat.le_of_ble_eq_true rfl⟩) hP hD hS hA [0] rfl (fun _ _ ⟨_, h9⟩ => h9) (fun r83 H locs hw84 hP hD hS => ?_)
          obtain ⟨rfl, -⟩ := hw84
          refine k_v (va_runV (As := [.int (nI lj), .int (nI (2 ^ mn - 1))]) (rest := []) ⟨hx, hb, hml, hown, hts⟩ (m_X8_settlesTo l D cI cJ H.size g g2 g3 g4 g5 g6 g7 g8 g9 g10 g12 g13 g15 g16 g17 g19 g20 g21 g22 g23 g24 g25 g26 g27 g28 g33 g34 g35 g36 g37 g38 g39 g41 g42 g44 g45 mn ml mv tt (lj + 1) 0 gi14 gi18 gi29 gi30 gi40 gi43 (nI lj) (nI (2 ^ mn - 1)) G2 G3 G4 G5 G6 G7 G8 G10 G12 G13 G19 G20 G21 G22 G23 G24 G25 G26 G27 G28 G33 G34 G35 G36 G37 li0 wo0 de0 ag0 (nI_pred lj).symm (by omega) hit hsu hliv hlib hwov hwob hdev hdeb hagv hagb hamt hLE hLO hLW hSH htt hmv) (cwV 2 hts gX8_broke_X8_settlesTo rfl rfl rfl (by decide +kernel) ⟨Nat.le_of_ble_eq_true rfl, Nat.le_of_ble_eq_true rfl⟩) (k_preV hE hP hD [0, 1, 2, 3, 4, 5, 6, 7, 8, 9, 10, 11, 12, 13, 14, 15, 16, 17, 18, 19, 20, 21, 22, 23, 24, 25] (by decide +kernel) rfl 0 rfl rfl) rfl rfl hl.1 rfl (lv_room (Nat.le_of_ble_eq_true rfl)) dX8_broke_48 ⟨Nat.le_of_ble_eq_true rfl, Nat.le_of_ble_eq_true rfl⟩) hP hD hS hA [0, 1, 2, 3, 4, 5, 6, 7, 8, 9, 10, 11, 12, 13, 14, 15, 16, 17, 18, 19, 20, 21, 22, 23, 24, 25] [] rfl (wr := []) rfl (by decide +kernel) (by decide +kernel) (fun u H locs hw85 hP hD hS => ?_)
          obtain ⟨z86, z87, z88, z89, z90, z91, z92, z93, z94, z95, z96, z97, z98, z99, z100, z101, z102, z103, z104, z105, hz106, hz107, hz108, hz109, hz110, hz111, hz112, rfl⟩ := hw85
          refine k_re (w := [(oX8 g 0 (nI mn) g2 g3 g4 g5 g6 g7 g8 g9 g10 (nI ml) g12 g13 gi14 g15 g16 g17 z103 g19 g20 g21 g22 g23 g24 g25 g26 g27 g28 z101 z102 (nI z104) (nI z105) g33 g34 g35 g36 g37 g38 g39 gi40 g41 g42 gi43 g44 g45), (aIc cI g2 8 G2), (aIc cI g3 8 G3), (aIc cI g4 8 G4), (aIc cI g5 8 G5), (aIc cI g6 8 G6), (aIc cI g7 8 G7), (aIc cI g8 8 G8), (aIc cI g10 64 G10), (aIc cI g12 10 G12), (aIc cI g13 10 G13), (aIc cI g19 8 z86), (aIc cI g20 8 z87), (aIc cI g21 8 z88), (aIc cI g22 8 z89), (aIc cI g23 8 z90), (aIc cI g24 8 z91), (aIc cI g25 8 z92), (aIc cI g26 8 z93), (aIc cI g27 8 z94), (aIc cI g28 8 z95), (aIc cI g33 8 z96), (aIc cI g34 8 z97), (aIc cI g35 8 z98), (aIc cI g36 8 z99), (aJc cJ g37 8 z100)]) hP hD (fun hP hD => ?_)
          obtain ⟨lo9, hlo9, hlob9⟩ := id hz107
          obtain ⟨sh9, hsh9, hss9⟩ := id hz109
          refine lv_iconst (v := 0) hx hb dX8_broke_51 (by decide) ?_
          refine lv_istore (lv' := [(4, .int 0), (0, .ref g), (1, .int (nI lj)), (2, .int p1), (3, .int p2)]) hx hb dX8_broke_52 hl (by decide) rfl (fun ls hl => ?_)
          refine lv_iconst (v := 0) hx hb dX8_broke_54 (by decide) ?_
          refine lv_istore (lv' := [(5, .int 0), (4, .int 0), (0, .ref g), (1, .int (nI lj)), (2, .int p1), (3, .int p2)]) hx hb dX8_broke_55 hl (by decide) rfl (fun ls hl => ?_)
          have J57 : ∀ (zz : Nat) (i57 : Nat) (h4_57 : Int32) (a_g35_57 : Nat → Int32), (i57 ≤ 8) → (∀ k, k < i57 → -1000000 ≤ (a_g35_57 k).toInt ∧ (a_g35_57 k).toInt ≤ 1000000) → (8 - i57) < zz → ∀ (H : Heap) (locs : List Loc) (ls : Array Slot), va_P D vwCl [(oX8 g 0 (nI mn) g2 g3 g4 g5 g6 g7 g8 g9 g10 (nI ml) g12 g13 gi14 g15 g16 g17 z103 g19 g20 g21 g22 g23 g24 g25 g26 g27 g28 z101 z102 (nI z104) (nI z105) g33 g34 g35 g36 g37 g38 g39 gi40 g41 g42 gi43 g44 g45), (aIc cI g2 8 G2), (aIc cI g3 8 G3), (aIc cI g4 8 G4), (aIc cI g5 8 G5), (aIc cI g6 8 G6), (aIc cI g7 8 G7), (aIc cI g8 8 G8), (aIc cI g10 64 G10), (aIc cI g12 10 G12), (aIc cI g13 10 G13), (aIc cI g19 8 z86), (aIc cI g20 8 z87), (aIc cI g21 8 z88), (aIc cI g22 8 z89), (aIc cI g23 8 z90), (aIc cI g24 8 z91), (aIc cI g25 8 z92), (aIc cI g26 8 z93), (aIc cI g27 8 z94), (aIc cI g28 8 z95), (aIc cI g33 8 z96), (aIc cI g34 8 z97), (aIc cI g35 8 a_g35_57), (aIc cI g36 8 z99), (aJc cJ g37 8 z100)] H → va_D A [(oX8 g 0 (nI mn) g2 g3 g4 g5 g6 g7 g8 g9 g10 (nI ml) g12 g13 gi14 g15 g16 g17 z103 g19 g20 g21 g22 g23 g24 g25 g26 g27 g28 z101 z102 (nI z104) (nI z105) g33 g34 g35 g36 g37 g38 g39 gi40 g41 g42 gi43 g44 g45), (aIc cI g2 8 G2), (aIc cI g3 8 G3), (aIc cI g4 8 G4), (aIc cI g5 8 G5), (aIc cI g6 8 G6), (aIc cI g7 8 G7), (aIc cI g8 8 G8), (aIc cI g10 64 G10), (aIc cI g12 10 G12), (aIc cI g13 10 G13), (aIc cI g19 8 z86), (aIc cI g20 8 z87), (aIc cI g21 8 z88), (aIc cI g22 8 z89), (aIc cI g23 8 z90), (aIc cI g24 8 z91), (aIc cI g25 8 z92), (aIc cI g26 8 z93), (aIc cI g27 8 z94), (aIc cI g28 8 z95), (aIc cI g33 8 z96), (aIc cI g34 8 z97), (aIc cI g35 8 a_g35_57), (aIc cI g36 8 z99), (aJc cJ g37 8 z100)] → va_S A s.heap H locs → lv_has ls 6 [(5, .int (nI i57)), (4, .int h4_57), (0, .ref g), (1, .int (nI lj)), (2, .int p1), (3, .int p2)] → W p l e { frames := 8, cells := 0, slots := 0, locals := 189 } s m [.ref g, .int p0, .int p1, .int p2].toArray below meth c H locs 0 0 (MQ below (cQi D (fun r u => ∃ (G19p G20p G21p G22p G23p G24p G25p G26p G27p G28p G33p G34p G35p G36p : Nat → Int32) (G37p : Nat → Int64) (gi29p gi30p gi18p : Int32) (mvp ttp : Nat) (gi0p : Int32), (LE G19p) ∧ (LO G20p) ∧ (LW G25p) ∧ (SH G27p ttp) ∧ (ttp ≤ 1000000) ∧ (mvp ≤ 8) ∧ u = [(oX8 g gi0p (nI mn) g2 g3 g4 g5 g6 g7 g8 g9 g10 (nI ml) g12 g13 gi14 g15 g16 g17 gi18p g19 g20 g21 g22 g23 g24 g25 g26 g27 g28 gi29p gi30p (nI mvp) (nI ttp) g33 g34 g35 g36 g37 g38 g39 gi40 g41 g42 gi43 g44 g45), (aIc cI g2 8 G2), (aIc cI g3 8 G3), (aIc cI g4 8 G4), (aIc cI g5 8 G5), (aIc cI g6 8 G6), (aIc cI g7 8 G7), (aIc cI g8 8 G8), (aIc cI g10 64 G10), (aIc cI g12 10 G12), (aIc cI g13 10 G13), (aIc cI g19 8 G19p), (aIc cI g20 8 G20p), (aIc cI g21 8 G21p), (aIc cI g22 8 G22p), (aIc cI g23 8 G23p), (aIc cI g24 8 G24p), (aIc cI g25 8 G25p), (aIc cI g26 8 G26p), (aIc cI g27 8 G27p), (aIc cI g28 8 G28p), (aIc cI g33 8 G33p), (aIc cI g34 8 G34p), (aIc cI g35 8 G35p), (aIc cI g36 8 G36p), (aJc cJ g37 8 G37p)]) A) [.ref g, .int p0, .int p1, .int p2].toArray s 0 0 A) (F0 m 57 ls []) := by
            intro zz
            induction zz with
            | zero => intro i57 h4_57 a_g35_57 _ _; exact fun h => absurd h (Nat.not_lt_zero _)
            | succ zz ih57 =>
              intro i57 h4_57 a_g35_57 hc5_57 hci_57 hmu57 H locs ls hP hD hS hl
              refine lv_iload hx hb dX8_broke_57 (lv_at hl 0 rfl) ?_
              refine lv_bipush (v := 8) hx hb dX8_broke_59 (by decide) ?_
              refine lv_icmp_ge (tgt := 149) hx hb dX8_broke_61 (by decide) (fun c113 => ?_) (fun c113 => ?_)
              · skip
                have nc113 : 8 ≤ i57 := (nI_leI (a := 8) (b := i57) (by omega) (by omega)).mp c113
                refine lv_aload_n hx hb dX8_broke_149 rfl (lv_at hl 2 rfl) ?_
                refine lv_iload hx hb dX8_broke_150 (lv_at hl 1 rfl) ?_
                refine k_i (va_runV (As := [.int h4_57]) (rest := []) ⟨hx, hb, hml, hown, hts⟩ (k_X8_shares l D cI cJ H.size g g2 g3 g4 g5 g6 g7 g8 g9 g10 g12 g13 g15 g16 g17 g19 g20 g21 g22 g23 g24 g25 g26 g27 g28 g33 g34 g35 g36 g37 g38 g39 g41 g42 g44 g45 mn ml z104 0 gi14 z103 z101 z102 (nI z105) gi40 gi43 h4_57 a_g35_57 z99 z100 (fun k hk => hci_57 k (by omega))) (cwV 1 hts gX8_broke_X8_shares rfl rfl rfl (by decide +kernel) ⟨Nat.le_of_ble_eq_true rfl, Nat.le_of_ble_eq_true rfl⟩) (k_preV hE hP hD [0, 23, 24, 25] (by decide +kernel) rfl 0 rfl rfl) rfl rfl hl.1 rfl (lv_room (Nat.le_of_ble_eq_true rfl)) dX8_broke_152 ⟨Nat.le_of_ble_eq_true rfl, Nat.le_of_ble_eq_true rfl⟩) hP hD hS hA [0, 23, 24, 25] [1, 2, 3, 4, 5, 6, 7, 8, 9, 10, 11, 12, 13, 14, 15, 16, 17, 18, 19, 20, 21, 22] rfl (wr := [(aIc cI g2 8 G2), (aIc cI g3 8 G3), (aIc cI g4 8 G4), (aIc cI g5 8 G5), (aIc cI g6 8 G6), (aIc cI g7 8 G7), (aIc cI g8 8 G8), (aIc cI g10 64 G10), (aIc cI g12 10 G12), (aIc cI g13 10 G13), (aIc cI g19 8 z86), (aIc cI g20 8 z87), (aIc cI g21 8 z88), (aIc cI g22 8 z89), (aIc cI g23 8 z90), (aIc cI g24 8 z91), (aIc cI g25 8 z92), (aIc cI g26 8 z93), (aIc cI g27 8 z94), (aIc cI g28 8 z95), (aIc cI g33 8 z96), (aIc cI g34 8 z97)]) rfl (by decide +kernel) (by decide +kernel) (fun r114 u H locs hw115 hP hD hS => ?_)
                obtain ⟨z116, z117, rfl⟩ := hw115
                refine k_re (w := [(aIc cI g2 8 G2), (aIc cI g3 8 G3), (aIc cI g4 8 G4), (aIc cI g5 8 G5), (aIc cI g6 8 G6), (aIc cI g7 8 G7), (aIc cI g8 8 G8), (aIc cI g10 64 G10), (aIc cI g12 10 G12), (aIc cI g13 10 G13), (aIc cI g19 8 z86), (aIc cI g20 8 z87), (aIc cI g21 8 z88), (aIc cI g22 8 z89), (aIc cI g23 8 z90), (aIc cI g24 8 z91), (aIc cI g25 8 z92), (aIc cI g26 8 z93), (aIc cI g27 8 z94), (aIc cI g28 8 z95), (aIc cI g33 8 z96), (aIc cI g34 8 z97), (oX8 g 0 (nI mn) g2 g3 g4 g5 g6 g7 g8 g9 g10 (nI ml) g12 g13 gi14 g15 g16 g17 z103 g19 g20 g21 g22 g23 g24 g25 g26 g27 g28 z101 z102 (nI z104) (nI z105) g33 g34 g35 g36 g37 g38 g39 gi40 g41 g42 gi43 g44 g45), (aIc cI g35 8 a_g35_57), (aIc cI g36 8 z116), (aJc cJ g37 8 z117)]) hP hD (fun hP hD => ?_)
                refine lv_istore (lv' := [(5, .int r114), (4, .int h4_57), (0, .ref g), (1, .int (nI lj)), (2, .int p1), (3, .int p2)]) hx hb dX8_broke_155 hl (by decide) rfl (fun ls hl => ?_)
                refine lv_iload_n hx hb dX8_broke_157 rfl (lv_at hl 5 rfl) ?_
                refine lv_iconst (v := (-1)) hx hb dX8_broke_158 (by decide) ?_
                refine lv_icmp_ne (tgt := 168) hx hb dX8_broke_159 (by decide) (fun c118a => ?_) (fun c118 => absurd c118 c11)
                obtain ⟨pj, hpj, epj⟩ := wi_n (by omega) hc82
                rw [epj] at hl
                refine lv_iload_n hx hb dX8_broke_168 rfl (lv_at hl 4 rfl) ?_
                refine lv_iload_n hx hb dX8_broke_169 rfl (lv_at hl 5 rfl) ?_
                refine k_iS (va_runS (As := [.int p1, .int (nI pj)]) (rest := []) ⟨hx, hb, hml, hown, hts⟩ (m_X8_isOn l D cI cJ H.size p1 (nI pj)) (va_cwS 2 hts gX8_broke_X8_isOn rfl rfl rfl (by decide +kernel) ⟨Nat.le_of_ble_eq_true rfl, Nat.le_of_ble_eq_true rfl⟩) (k_pre hE hP hD [] (by decide +kernel) rfl) rfl rfl hl.1 rfl (lv_room (Nat.le_of_ble_eq_true rfl)) dX8_broke_170 ⟨Nat.le_of_ble_eq_true rfl, Nat.le_of_ble_eq_true rfl⟩) hP hD hS hA [] rfl (fun _ _ h9 => h9.2) (fun r119 H locs hw120 hP hD hS => ?_)
                obtain ⟨hw120, -⟩ := hw120
                refine lv_if_eq (tgt := 180) hx hb dX8_broke_173 (by decide) (fun c121 => ?_) (fun c121 => ?_)
                · skip
                  have hc121 : ¬ ((p1 >>> ((nI pj) &&& 31)) &&& 1 = 1) := bz_0 hw120 c121
                  refine lv_aload_n hx hb dX8_broke_180 rfl (lv_at hl 2 rfl) ?_
                  refine va_get (D := D) (ci := 8) (v := .ref g27) (C := RX8) (T := TX8) (N := 46) hx hb hts hiX8 hown hE.1 hP 22 rfl rfl 27 (by decide) (hts _ (List.mem_cons_of_mem _ wd_138)) (fun _ h9 => h9) rfl dX8_broke_181 ?_
                  refine lv_iload_n hx hb dX8_broke_184 rfl (lv_at hl 5 rfl) ?_
                  refine va_iald hx hb hE.1 hP 18 0 rfl rfl (vp_in_nI (n := pj) (by omega) (by decide)) dX8_broke_185 ?_
                  refine lv_topi (fun v122 ev122 => ?_)
                  refine lv_aload_n hx hb dX8_broke_186 rfl (lv_at hl 2 rfl) ?_
                  refine va_get (D := D) (ci := 8) (v := .ref g36) (C := RX8) (T := TX8) (N := 46) hx hb hts hiX8 hown hE.1 hP 22 rfl rfl 36 (by decide) (hts _ (List.mem_cons_of_mem _ wd_143)) (fun _ h9 => h9) rfl dX8_broke_187 ?_
                  refine lv_iload_n hx hb dX8_broke_190 rfl (lv_at hl 5 rfl) ?_
                  refine va_iald hx hb hE.1 hP 24 0 rfl rfl (vp_in_nI (n := pj) (by omega) (by decide)) dX8_broke_191 ?_
                  refine lv_topi (fun v123 ev123 => ?_)
                  refine lv_iadd hx hb dX8_broke_192 ?_
                  refine lv_topi (fun v124 ev124 => ?_)
                  refine k_iret (u := [(oX8 g 0 (nI mn) g2 g3 g4 g5 g6 g7 g8 g9 g10 (nI ml) g12 g13 gi14 g15 g16 g17 z103 g19 g20 g21 g22 g23 g24 g25 g26 g27 g28 z101 z102 (nI z104) (nI z105) g33 g34 g35 g36 g37 g38 g39 gi40 g41 g42 gi43 g44 g45), (aIc cI g2 8 G2), (aIc cI g3 8 G3), (aIc cI g4 8 G4), (aIc cI g5 8 G5), (aIc cI g6 8 G6), (aIc cI g7 8 G7), (aIc cI g8 8 G8), (aIc cI g10 64 G10), (aIc cI g12 10 G12), (aIc cI g13 10 G13), (aIc cI g19 8 z86), (aIc cI g20 8 z87), (aIc cI g21 8 z88), (aIc cI g22 8 z89), (aIc cI g23 8 z90), (aIc cI g24 8 z91), (aIc cI g25 8 z92), (aIc cI g26 8 z93), (aIc cI g27 8 z94), (aIc cI g28 8 z95), (aIc cI g33 8 z96), (aIc cI g34 8 z97), (aIc cI g35 8 a_g35_57), (aIc cI g36 8 z116), (aJc cJ g37 8 z117)]) hx hb hr hlk (k_sub hP [22, 0, 1, 2, 3, 4, 5, 6, 7, 8, 9, 10, 11, 12, 13, 14, 15, 16, 17, 18, 19, 20, 21, 23, 24, 25] rfl) (hD.sub [22, 0, 1, 2, 3, 4, 5, 6, 7, 8, 9, 10, 11, 12, 13, 14, 15, 16, 17, 18, 19, 20, 21, 23, 24, 25] (by decide +kernel) rfl) hS dX8_broke_193 ?_
                  exact ⟨z86, z87, z88, z89, z90, z91, z92, z93, z94, z95, z96, z97, a_g35_57, z116, z117, z101, z102, z103, z104, z105, 0, hz106, hz107, hz108, hz109, hz110, hz111, rfl⟩
                · skip
                  have hc121 : (p1 >>> ((nI pj) &&& 31)) &&& 1 = 1 := bz_1 hw120 c121
                  refine lv_iconst (v := 0) hx hb dX8_broke_176 (by decide) ?_
                  refine lv_goto (tgt := 193) hx hb dX8_broke_177 (by decide) ?_
                  refine k_iret (u := [(oX8 g 0 (nI mn) g2 g3 g4 g5 g6 g7 g8 g9 g10 (nI ml) g12 g13 gi14 g15 g16 g17 z103 g19 g20 g21 g22 g23 g24 g25 g26 g27 g28 z101 z102 (nI z104) (nI z105) g33 g34 g35 g36 g37 g38 g39 gi40 g41 g42 gi43 g44 g45), (aIc cI g2 8 G2), (aIc cI g3 8 G3), (aIc cI g4 8 G4), (aIc cI g5 8 G5), (aIc cI g6 8 G6), (aIc cI g7 8 G7), (aIc cI g8 8 G8), (aIc cI g10 64 G10), (aIc cI g12 10 G12), (aIc cI g13 10 G13), (aIc cI g19 8 z86), (aIc cI g20 8 z87), (aIc cI g21 8 z88), (aIc cI g22 8 z89), (aIc cI g23 8 z90), (aIc cI g24 8 z91), (aIc cI g25 8 z92), (aIc cI g26 8 z93), (aIc cI g27 8 z94), (aIc cI g28 8 z95), (aIc cI g33 8 z96), (aIc cI g34 8 z97), (aIc cI g35 8 a_g35_57), (aIc cI g36 8 z116), (aJc cJ g37 8 z117)]) hx hb hr hlk (k_sub hP [22, 0, 1, 2, 3, 4, 5, 6, 7, 8, 9, 10, 11, 12, 13, 14, 15, 16, 17, 18, 19, 20, 21, 23, 24, 25] rfl) (hD.sub [22, 0, 1, 2, 3, 4, 5, 6, 7, 8, 9, 10, 11, 12, 13, 14, 15, 16, 17, 18, 19, 20, 21, 23, 24, 25] (by decide +kernel) rfl) hS dX8_broke_193 ?_
                  exact ⟨z86, z87, z88, z89, z90, z91, z92, z93, z94, z95, z96, z97, a_g35_57, z116, z117, z101, z102, z103, z104, z105, 0, hz106, hz107, hz108, hz109, hz110, hz111, rfl⟩
              · skip
                have nc113 : ¬ 8 ≤ i57 := fun q9 => c113 ((nI_leI (a := 8) (b := i57) (by omega) (by omega)).mpr q9)
                refine lv_iload hx hb dX8_broke_64 (lv_at hl 1 rfl) ?_
                refine lv_iload_n hx hb dX8_broke_66 rfl (lv_at hl 4 rfl) ?_
                refine lv_iload hx hb dX8_broke_67 (lv_at hl 0 rfl) ?_
                refine k_iS (va_runS (As := [.int p1, .int (nI i57)]) (rest := [.int h4_57]) ⟨hx, hb, hml, hown, hts⟩ (m_X8_isOn l D cI cJ H.size p1 (nI i57)) (va_cwS 2 hts gX8_broke_X8_isOn rfl rfl rfl (by decide +kernel) ⟨Nat.le_of_ble_eq_true rfl, Nat.le_of_ble_eq_true rfl⟩) (k_pre hE hP hD [] (by decide +kernel) rfl) rfl rfl hl.1 rfl (lv_room (Nat.le_of_ble_eq_true rfl)) dX8_broke_69 ⟨Nat.le_of_ble_eq_true rfl, Nat.le_of_ble_eq_true rfl⟩) hP hD hS hA [] rfl (fun _ _ h9 => h9.2) (fun r125 H locs hw126 hP hD hS => ?_)
                obtain ⟨hw126, -⟩ := hw126
                refine lv_if_eq (tgt := 85) hx hb dX8_broke_72 (by decide) (fun c127 => ?_) (fun c127 => ?_)
                · skip
                  have hc127 : ¬ ((p1 >>> ((nI i57) &&& 31)) &&& 1 = 1) := bz_0 hw126 c127
                  refine lv_iconst (v := 0) hx hb dX8_broke_85 (by decide) ?_
                  refine lv_iadd hx hb dX8_broke_86 ?_
                  refine lv_topi (fun v128 ev128 => ?_)
                  refine lv_istore (lv' := [(4, .int v128), (5, .int (nI i57)), (0, .ref g), (1, .int (nI lj)), (2, .int p1), (3, .int p2)]) hx hb dX8_broke_87 hl (by decide) rfl (fun ls hl => ?_)
                  refine lv_aload_n hx hb dX8_broke_89 rfl (lv_at hl 2 rfl) ?_
                  refine va_get (D := D) (ci := 8) (v := .ref g35) (C := RX8) (T := TX8) (N := 46) hx hb hts hiX8 hown hE.1 hP 0 rfl rfl 35 (by decide) (hts _ (List.mem_cons_of_mem _ wd_142)) (fun _ h9 => h9) rfl dX8_broke_90 ?_
                  refine lv_iload hx hb dX8_broke_93 (lv_at hl 1 rfl) ?_
                  refine lv_aload_n hx hb dX8_broke_95 rfl (lv_at hl 2 rfl) ?_
                  refine lv_iload hx hb dX8_broke_96 (lv_at hl 1 rfl) ?_
                  refine k_iS (va_runV (As := [.int (nI i57)]) (rest := [.int (nI i57), .ref g35]) ⟨hx, hb, hml, hown, hts⟩ (m_X8_isPolicy l D cI cJ H.size g g2 g3 g4 g5 g6 g7 g8 g9 g10 g12 g13 g15 g16 g17 g19 g20 g21 g22 g23 g24 g25 g26 g27 g28 g33 g34 g35 g36 g37 g38 g39 g41 g42 g44 g45 mn ml z104 0 gi14 z103 z101 z102 (nI z105) gi40 gi43 (nI i57)) (cwV 1 hts gX8_broke_X8_isPolicy rfl rfl rfl (by decide +kernel) ⟨Nat.le_of_ble_eq_true rfl, Nat.le_of_ble_eq_true rfl⟩) (k_preV hE hP hD [0] (by decide +kernel) rfl 0 rfl rfl) rfl rfl hl.1 rfl (lv_room (Nat.le_of_ble_eq_true rfl)) dX8_broke_98 ⟨Nat.le_of_ble_eq_true rfl, Nat.le_of_ble_eq_true rfl⟩) hP hD hS hA [0] rfl (fun _ _ ⟨_, h9⟩ => h9) (fun r129 H locs hw130 hP hD hS => ?_)
                  obtain ⟨hb131, -⟩ := hw130
                  refine lv_if_eq (tgt := 141) hx hb dX8_broke_101 (by decide) (fun c132 => ?_) (fun c132 => ?_)
                  · skip
                    have hc132 : ¬ (0 ≤ (nI i57) ∧ (nI i57) ≤ nI mn - 1) := bz_0 hb131 c132
                    refine lv_iconst (v := 0) hx hb dX8_broke_141 (by decide) ?_
                    refine va_iast hx hb hE.1 hP hD hS 23 0 rfl rfl (vp_in_nI (n := i57) (by omega) (by decide)) dX8_broke_142 (fun H locs hP hD hS => ?_)
                    refine k_re (w := [(oX8 g 0 (nI mn) g2 g3 g4 g5 g6 g7 g8 g9 g10 (nI ml) g12 g13 gi14 g15 g16 g17 z103 g19 g20 g21 g22 g23 g24 g25 g26 g27 g28 z101 z102 (nI z104) (nI z105) g33 g34 g35 g36 g37 g38 g39 gi40 g41 g42 gi43 g44 g45), (aIc cI g2 8 G2), (aIc cI g3 8 G3), (aIc cI g4 8 G4), (aIc cI g5 8 G5), (aIc cI g6 8 G6), (aIc cI g7 8 G7), (aIc cI g8 8 G8), (aIc cI g10 64 G10), (aIc cI g12 10 G12), (aIc cI g13 10 G13), (aIc cI g19 8 z86), (aIc cI g20 8 z87), (aIc cI g21 8 z88), (aIc cI g22 8 z89), (aIc cI g23 8 z90), (aIc cI g24 8 z91), (aIc cI g25 8 z92), (aIc cI g26 8 z93), (aIc cI g27 8 z94), (aIc cI g28 8 z95), (aIc cI g33 8 z96), (aIc cI g34 8 z97), (aIc cI g35 8 (upd a_g35_57 (Int32.toNatClampNeg (nI i57)) 0)), (aIc cI g36 8 z99), (aJc cJ g37 8 z100)]) hP hD (fun hP hD => ?_)
                    refine lv_iinc (v := (nI (i57 + 1))) (lv' := [(5, .int (nI (i57 + 1))), (4, .int v128), (0, .ref g), (1, .int (nI lj)), (2, .int p1), (3, .int p2)]) hx hb dX8_broke_143 hl (k := 1) rfl (nI_1 _) (by decide) rfl (fun ls hl => ?_)
                    refine lv_goto (tgt := 57) hx hb dX8_broke_146 (by decide) ?_
                    exact ih57 (i57 + 1) v128 (upd a_g35_57 (Int32.toNatClampNeg (nI i57)) 0) (by omega) (ci_up (by omega) bk_0 hci_57) (by omega) _ _ _ hP hD hS (lv_sub hl [0, 1, 2, 3, 4, 5] rfl)
                  · skip
                    have hc132 : 0 ≤ (nI i57) ∧ (nI i57) ≤ nI mn - 1 := bz_1 hb131 c132
                    refine lv_aload_n hx hb dX8_broke_104 rfl (lv_at hl 2 rfl) ?_
                    refine va_get (D := D) (ci := 8) (v := .ref g7) (C := RX8) (T := TX8) (N := 46) hx hb hts hiX8 hown hE.1 hP 0 rfl rfl 7 (by decide) (hts _ (List.mem_cons_of_mem _ wd_121)) (fun _ h9 => h9) rfl dX8_broke_105 ?_
                    refine lv_iload hx hb dX8_broke_108 (lv_at hl 1 rfl) ?_
                    refine va_iald hx hb hE.1 hP 6 0 rfl rfl (vp_in_nI (n := i57) (by omega) (by decide)) dX8_broke_110 ?_
                    refine lv_topi (fun v133 ev133 => ?_)
                    refine lv_if_ne (tgt := 141) hx hb dX8_broke_111 (by decide) (fun c134 => ?_) (fun c134 => ?_)
                    · skip
                      refine lv_iconst (v := 0) hx hb dX8_broke_141 (by decide) ?_
                      refine va_iast hx hb hE.1 hP hD hS 23 0 rfl rfl (vp_in_nI (n := i57) (by omega) (by decide)) dX8_broke_142 (fun H locs hP hD hS => ?_)
                      refine k_re (w := [(oX8 g 0 (nI mn) g2 g3 g4 g5 g6 g7 g8 g9 g10 (nI ml) g12 g13 gi14 g15 g16 g17 z103 g19 g20 g21 g22 g23 g24 g25 g26 g27 g28 z101 z102 (nI z104) (nI z105) g33 g34 g35 g36 g37 g38 g39 gi40 g41 g42 gi43 g44 g45), (aIc cI g2 8 G2), (aIc cI g3 8 G3), (aIc cI g4 8 G4), (aIc cI g5 8 G5), (aIc cI g6 8 G6), (aIc cI g7 8 G7), (aIc cI g8 8 G8), (aIc cI g10 64 G10), (aIc cI g12 10 G12), (aIc cI g13 10 G13), (aIc cI g19 8 z86), (aIc cI g20 8 z87), (aIc cI g21 8 z88), (aIc cI g22 8 z89), (aIc cI g23 8 z90), (aIc cI g24 8 z91), (aIc cI g25 8 z92), (aIc cI g26 8 z93), (aIc cI g27 8 z94), (aIc cI g28 8 z95), (aIc cI g33 8 z96), (aIc cI g34 8 z97), (aIc cI g35 8 (upd a_g35_57 (Int32.toNatClampNeg (nI i57)) 0)), (aIc cI g36 8 z99), (aJc cJ g37 8 z100)]) hP hD (fun hP hD => ?_)
                      refine lv_iinc (v := (nI (i57 + 1))) (lv' := [(5, .int (nI (i57 + 1))), (4, .int v128), (0, .ref g), (1, .int (nI lj)), (2, .int p1), (3, .int p2)]) hx hb dX8_broke_143 hl (k := 1) rfl (nI_1 _) (by decide) rfl (fun ls hl => ?_)
                      refine lv_goto (tgt := 57) hx hb dX8_broke_146 (by decide) ?_
                      exact ih57 (i57 + 1) v128 (upd a_g35_57 (Int32.toNatClampNeg (nI i57)) 0) (by omega) (ci_up (by omega) bk_0 hci_57) (by omega) _ _ _ hP hD hS (lv_sub hl [0, 1, 2, 3, 4, 5] rfl)
                    · skip
                      refine lv_iload_n hx hb dX8_broke_114 rfl (lv_at hl 4 rfl) ?_
                      refine lv_iload hx hb dX8_broke_115 (lv_at hl 1 rfl) ?_
                      refine k_iS (va_runS (As := [.int p1, .int (nI i57)]) (rest := [.int (nI i57), .ref g35]) ⟨hx, hb, hml, hown, hts⟩ (m_X8_isOn l D cI cJ H.size p1 (nI i57)) (va_cwS 2 hts gX8_broke_X8_isOn rfl rfl rfl (by decide +kernel) ⟨Nat.le_of_ble_eq_true rfl, Nat.le_of_ble_eq_true rfl⟩) (k_pre hE hP hD [] (by decide +kernel) rfl) rfl rfl hl.1 rfl (lv_room (Nat.le_of_ble_eq_true rfl)) dX8_broke_117 ⟨Nat.le_of_ble_eq_true rfl, Nat.le_of_ble_eq_true rfl⟩) hP hD hS hA [] rfl (fun _ _ h9 => h9.2) (fun r135 H locs hw136 hP hD hS => ?_)
                      obtain ⟨hw136, -⟩ := hw136
                      refine lv_if_ne (tgt := 141) hx hb dX8_broke_120 (by decide) (fun c137 => ?_) (fun c137 => ?_)
                      · skip
                        have hc137 : (p1 >>> ((nI i57) &&& 31)) &&& 1 = 1 := bz_1 hw136 c137
                        refine lv_iconst (v := 0) hx hb dX8_broke_141 (by decide) ?_
                        refine va_iast hx hb hE.1 hP hD hS 23 0 rfl rfl (vp_in_nI (n := i57) (by omega) (by decide)) dX8_broke_142 (fun H locs hP hD hS => ?_)
                        refine k_re (w := [(oX8 g 0 (nI mn) g2 g3 g4 g5 g6 g7 g8 g9 g10 (nI ml) g12 g13 gi14 g15 g16 g17 z103 g19 g20 g21 g22 g23 g24 g25 g26 g27 g28 z101 z102 (nI z104) (nI z105) g33 g34 g35 g36 g37 g38 g39 gi40 g41 g42 gi43 g44 g45), (aIc cI g2 8 G2), (aIc cI g3 8 G3), (aIc cI g4 8 G4), (aIc cI g5 8 G5), (aIc cI g6 8 G6), (aIc cI g7 8 G7), (aIc cI g8 8 G8), (aIc cI g10 64 G10), (aIc cI g12 10 G12), (aIc cI g13 10 G13), (aIc cI g19 8 z86), (aIc cI g20 8 z87), (aIc cI g21 8 z88), (aIc cI g22 8 z89), (aIc cI g23 8 z90), (aIc cI g24 8 z91), (aIc cI g25 8 z92), (aIc cI g26 8 z93), (aIc cI g27 8 z94), (aIc cI g28 8 z95), (aIc cI g33 8 z96), (aIc cI g34 8 z97), (aIc cI g35 8 (upd a_g35_57 (Int32.toNatClampNeg (nI i57)) 0)), (aIc cI g36 8 z99), (aJc cJ g37 8 z100)]) hP hD (fun hP hD => ?_)
                        refine lv_iinc (v := (nI (i57 + 1))) (lv' := [(5, .int (nI (i57 + 1))), (4, .int v128), (0, .ref g), (1, .int (nI lj)), (2, .int p1), (3, .int p2)]) hx hb dX8_broke_143 hl (k := 1) rfl (nI_1 _) (by decide) rfl (fun ls hl => ?_)
                        refine lv_goto (tgt := 57) hx hb dX8_broke_146 (by decide) ?_
                        exact ih57 (i57 + 1) v128 (upd a_g35_57 (Int32.toNatClampNeg (nI i57)) 0) (by omega) (ci_up (by omega) bk_0 hci_57) (by omega) _ _ _ hP hD hS (lv_sub hl [0, 1, 2, 3, 4, 5] rfl)
                      · skip
                        have hc137 : ¬ ((p1 >>> ((nI i57) &&& 31)) &&& 1 = 1) := bz_0 hw136 c137
                        refine lv_aload_n hx hb dX8_broke_123 rfl (lv_at hl 2 rfl) ?_
                        refine va_get (D := D) (ci := 8) (v := .ref g20) (C := RX8) (T := TX8) (N := 46) hx hb hts hiX8 hown hE.1 hP 0 rfl rfl 20 (by decide) (hts _ (List.mem_cons_of_mem _ wd_131)) (fun _ h9 => h9) rfl dX8_broke_124 ?_
                        refine lv_iload hx hb dX8_broke_127 (lv_at hl 1 rfl) ?_
                        refine va_iald hx hb hE.1 hP 12 0 rfl rfl (vp_in_nI (n := i57) (by omega) (by decide)) dX8_broke_129 ?_
                        refine lv_topi (fun v138 ev138 => ?_)
                        obtain rfl : v138 = nI (lo9 i57) := ev138.trans (nv_at hlo9 (by omega))
                        refine lv_aload_n hx hb dX8_broke_130 rfl (lv_at hl 2 rfl) ?_
                        refine va_get (D := D) (ci := 8) (v := .ref g27) (C := RX8) (T := TX8) (N := 46) hx hb hts hiX8 hown hE.1 hP 0 rfl rfl 27 (by decide) (hts _ (List.mem_cons_of_mem _ wd_138)) (fun _ h9 => h9) rfl dX8_broke_131 ?_
                        refine lv_iload hx hb dX8_broke_134 (lv_at hl 1 rfl) ?_
                        refine va_iald hx hb hE.1 hP 19 0 rfl rfl (vp_in_nI (n := i57) (by omega) (by decide)) dX8_broke_136 ?_
                        refine lv_topi (fun v139 ev139 => ?_)
                        obtain rfl : v139 = nI (sh9 i57) := ev139.trans (nv_at hsh9 (by omega))
                        refine lv_isub hx hb dX8_broke_137 ?_
                        refine lv_topi (fun v140 ev140 => ?_)
                        have hlob_ := hlob9 i57 (by omega)
                        have hshb_ := sm_get sh9 (k := i57) (n := 8) (by omega)
                        have hbd := bk_d ev140 (by omega) (by omega)
                        refine lv_goto (tgt := 142) hx hb dX8_broke_138 (by decide) ?_
                        refine va_iast hx hb hE.1 hP hD hS 23 0 rfl rfl (vp_in_nI (n := i57) (by omega) (by decide)) dX8_broke_142 (fun H locs hP hD hS => ?_)
                        refine k_re (w := [(oX8 g 0 (nI mn) g2 g3 g4 g5 g6 g7 g8 g9 g10 (nI ml) g12 g13 gi14 g15 g16 g17 z103 g19 g20 g21 g22 g23 g24 g25 g26 g27 g28 z101 z102 (nI z104) (nI z105) g33 g34 g35 g36 g37 g38 g39 gi40 g41 g42 gi43 g44 g45), (aIc cI g2 8 G2), (aIc cI g3 8 G3), (aIc cI g4 8 G4), (aIc cI g5 8 G5), (aIc cI g6 8 G6), (aIc cI g7 8 G7), (aIc cI g8 8 G8), (aIc cI g10 64 G10), (aIc cI g12 10 G12), (aIc cI g13 10 G13), (aIc cI g19 8 z86), (aIc cI g20 8 z87), (aIc cI g21 8 z88), (aIc cI g22 8 z89), (aIc cI g23 8 z90), (aIc cI g24 8 z91), (aIc cI g25 8 z92), (aIc cI g26 8 z93), (aIc cI g27 8 z94), (aIc cI g28 8 z95), (aIc cI g33 8 z96), (aIc cI g34 8 z97), (aIc cI g35 8 (upd a_g35_57 (Int32.toNatClampNeg (nI i57)) v140)), (aIc cI g36 8 z99), (aJc cJ g37 8 z100)]) hP hD (fun hP hD => ?_)
                        refine lv_iinc (v := (nI (i57 + 1))) (lv' := [(5, .int (nI (i57 + 1))), (4, .int v128), (0, .ref g), (1, .int (nI lj)), (2, .int p1), (3, .int p2)]) hx hb dX8_broke_143 hl (k := 1) rfl (nI_1 _) (by decide) rfl (fun ls hl => ?_)
                        refine lv_goto (tgt := 57) hx hb dX8_broke_146 (by decide) ?_
                        exact ih57 (i57 + 1) v128 (upd a_g35_57 (Int32.toNatClampNeg (nI i57)) v140) (by omega) (ci_up (by omega) hbd hci_57) (by omega) _ _ _ hP hD hS (lv_sub hl [0, 1, 2, 3, 4, 5] rfl)
                · skip
                  have hc127 : (p1 >>> ((nI i57) &&& 31)) &&& 1 = 1 := bz_1 hw126 c127
                  refine lv_aload_n hx hb dX8_broke_75 rfl (lv_at hl 2 rfl) ?_
                  refine va_get (D := D) (ci := 8) (v := .ref g27) (C := RX8) (T := TX8) (N := 46) hx hb hts hiX8 hown hE.1 hP 0 rfl rfl 27 (by decide) (hts _ (List.mem_cons_of_mem _ wd_138)) (fun _ h9 => h9) rfl dX8_broke_76 ?_
                  refine lv_iload hx hb dX8_broke_79 (lv_at hl 0 rfl) ?_
                  refine va_iald hx hb hE.1 hP 19 0 rfl rfl (vp_in_nI (n := i57) (by omega) (by decide)) dX8_broke_81 ?_
                  refine lv_topi (fun v141 ev141 => ?_)
                  refine lv_goto (tgt := 86) hx hb dX8_broke_82 (by decide) ?_
                  refine lv_iadd hx hb dX8_broke_86 ?_
                  refine lv_topi (fun v142 ev142 => ?_)
                  refine lv_istore (lv' := [(4, .int v142), (5, .int (nI i57)), (0, .ref g), (1, .int (nI lj)), (2, .int p1), (3, .int p2)]) hx hb dX8_broke_87 hl (by decide) rfl (fun ls hl => ?_)
                  refine lv_aload_n hx hb dX8_broke_89 rfl (lv_at hl 2 rfl) ?_
                  refine va_get (D := D) (ci := 8) (v := .ref g35) (C := RX8) (T := TX8) (N := 46) hx hb hts hiX8 hown hE.1 hP 0 rfl rfl 35 (by decide) (hts _ (List.mem_cons_of_mem _ wd_142)) (fun _ h9 => h9) rfl dX8_broke_90 ?_
                  refine lv_iload hx hb dX8_broke_93 (lv_at hl 1 rfl) ?_
                  refine lv_aload_n hx hb dX8_broke_95 rfl (lv_at hl 2 rfl) ?_
                  refine lv_iload hx hb dX8_broke_96 (lv_at hl 1 rfl) ?_
                  refine k_iS (va_runV (As := [.int (nI i57)]) (rest := [.int (nI i57), .ref g35]) ⟨hx, hb, hml, hown, hts⟩ (m_X8_isPolicy l D cI cJ H.size g g2 g3 g4 g5 g6 g7 g8 g9 g10 g12 g13 g15 g16 g17 g19 g20 g21 g22 g23 g24 g25 g26 g27 g28 g33 g34 g35 g36 g37 g38 g39 g41 g42 g44 g45 mn ml z104 0 gi14 z103 z101 z102 (nI z105) gi40 gi43 (nI i57)) (cwV 1 hts gX8_broke_X8_isPolicy rfl rfl rfl (by decide +kernel) ⟨Nat.le_of_ble_eq_true rfl, Nat.le_of_ble_eq_true rfl⟩) (k_preV hE hP hD [0] (by decide +kernel) rfl 0 rfl rfl) rfl rfl hl.1 rfl (lv_room (Nat.le_of_ble_eq_true rfl)) dX8_broke_98 ⟨Nat.le_of_ble_eq_true rfl, Nat.le_of_ble_eq_true rfl⟩) hP hD hS hA [0] rfl (fun _ _ ⟨_, h9⟩ => h9) (fun r143 H locs hw144 hP hD hS => ?_)
                  obtain ⟨hb145, -⟩ := hw144
                  refine lv_if_eq (tgt := 141) hx hb dX8_broke_101 (by decide) (fun c146 => ?_) (fun c146 => ?_)
                  · skip
                    have hc146 : ¬ (0 ≤ (nI i57) ∧ (nI i57) ≤ nI mn - 1) := bz_0 hb145 c146
                    refine lv_iconst (v := 0) hx hb dX8_broke_141 (by decide) ?_
                    refine va_iast hx hb hE.1 hP hD hS 23 0 rfl rfl (vp_in_nI (n := i57) (by omega) (by decide)) dX8_broke_142 (fun H locs hP hD hS => ?_)
                    refine k_re (w := [(oX8 g 0 (nI mn) g2 g3 g4 g5 g6 g7 g8 g9 g10 (nI ml) g12 g13 gi14 g15 g16 g17 z103 g19 g20 g21 g22 g23 g24 g25 g26 g27 g28 z101 z102 (nI z104) (nI z105) g33 g34 g35 g36 g37 g38 g39 gi40 g41 g42 gi43 g44 g45), (aIc cI g2 8 G2), (aIc cI g3 8 G3), (aIc cI g4 8 G4), (aIc cI g5 8 G5), (aIc cI g6 8 G6), (aIc cI g7 8 G7), (aIc cI g8 8 G8), (aIc cI g10 64 G10), (aIc cI g12 10 G12), (aIc cI g13 10 G13), (aIc cI g19 8 z86), (aIc cI g20 8 z87), (aIc cI g21 8 z88), (aIc cI g22 8 z89), (aIc cI g23 8 z90), (aIc cI g24 8 z91), (aIc cI g25 8 z92), (aIc cI g26 8 z93), (aIc cI g27 8 z94), (aIc cI g28 8 z95), (aIc cI g33 8 z96), (aIc cI g34 8 z97), (aIc cI g35 8 (upd a_g35_57 (Int32.toNatClampNeg (nI i57)) 0)), (aIc cI g36 8 z99), (aJc cJ g37 8 z100)]) hP hD (fun hP hD => ?_)
                    refine lv_iinc (v := (nI (i57 + 1))) (lv' := [(5, .int (nI (i57 + 1))), (4, .int v142), (0, .ref g), (1, .int (nI lj)), (2, .int p1), (3, .int p2)]) hx hb dX8_broke_143 hl (k := 1) rfl (nI_1 _) (by decide) rfl (fun ls hl => ?_)
                    refine lv_goto (tgt := 57) hx hb dX8_broke_146 (by decide) ?_
                    exact ih57 (i57 + 1) v142 (upd a_g35_57 (Int32.toNatClampNeg (nI i57)) 0) (by omega) (ci_up (by omega) bk_0 hci_57) (by omega) _ _ _ hP hD hS (lv_sub hl [0, 1, 2, 3, 4, 5] rfl)
                  · skip
                    have hc146 : 0 ≤ (nI i57) ∧ (nI i57) ≤ nI mn - 1 := bz_1 hb145 c146
                    refine lv_aload_n hx hb dX8_broke_104 rfl (lv_at hl 2 rfl) ?_
                    refine va_get (D := D) (ci := 8) (v := .ref g7) (C := RX8) (T := TX8) (N := 46) hx hb hts hiX8 hown hE.1 hP 0 rfl rfl 7 (by decide) (hts _ (List.mem_cons_of_mem _ wd_121)) (fun _ h9 => h9) rfl dX8_broke_105 ?_
                    refine lv_iload hx hb dX8_broke_108 (lv_at hl 1 rfl) ?_
                    refine va_iald hx hb hE.1 hP 6 0 rfl rfl (vp_in_nI (n := i57) (by omega) (by decide)) dX8_broke_110 ?_
                    refine lv_topi (fun v147 ev147 => ?_)
                    refine lv_if_ne (tgt := 141) hx hb dX8_broke_111 (by decide) (fun c148 => ?_) (fun c148 => ?_)
                    · skip
                      refine lv_iconst (v := 0) hx hb dX8_broke_141 (by decide) ?_
                      refine va_iast hx hb hE.1 hP hD hS 23 0 rfl rfl (vp_in_nI (n := i57) (by omega) (by decide)) dX8_broke_142 (fun H locs hP hD hS => ?_)
                      refine k_re (w := [(oX8 g 0 (nI mn) g2 g3 g4 g5 g6 g7 g8 g9 g10 (nI ml) g12 g13 gi14 g15 g16 g17 z103 g19 g20 g21 g22 g23 g24 g25 g26 g27 g28 z101 z102 (nI z104) (nI z105) g33 g34 g35 g36 g37 g38 g39 gi40 g41 g42 gi43 g44 g45), (aIc cI g2 8 G2), (aIc cI g3 8 G3), (aIc cI g4 8 G4), (aIc cI g5 8 G5), (aIc cI g6 8 G6), (aIc cI g7 8 G7), (aIc cI g8 8 G8), (aIc cI g10 64 G10), (aIc cI g12 10 G12), (aIc cI g13 10 G13), (aIc cI g19 8 z86), (aIc cI g20 8 z87), (aIc cI g21 8 z88), (aIc cI g22 8 z89), (aIc cI g23 8 z90), (aIc cI g24 8 z91), (aIc cI g25 8 z92), (aIc cI g26 8 z93), (aIc cI g27 8 z94), (aIc cI g28 8 z95), (aIc cI g33 8 z96), (aIc cI g34 8 z97), (aIc cI g35 8 (upd a_g35_57 (Int32.toNatClampNeg (nI i57)) 0)), (aIc cI g36 8 z99), (aJc cJ g37 8 z100)]) hP hD (fun hP hD => ?_)
                      refine lv_iinc (v := (nI (i57 + 1))) (lv' := [(5, .int (nI (i57 + 1))), (4, .int v142), (0, .ref g), (1, .int (nI lj)), (2, .int p1), (3, .int p2)]) hx hb dX8_broke_143 hl (k := 1) rfl (nI_1 _) (by decide) rfl (fun ls hl => ?_)
                      refine lv_goto (tgt := 57) hx hb dX8_broke_146 (by decide) ?_
                      exact ih57 (i57 + 1) v142 (upd a_g35_57 (Int32.toNatClampNeg (nI i57)) 0) (by omega) (ci_up (by omega) bk_0 hci_57) (by omega) _ _ _ hP hD hS (lv_sub hl [0, 1, 2, 3, 4, 5] rfl)
                    · skip
                      refine lv_iload_n hx hb dX8_broke_114 rfl (lv_at hl 4 rfl) ?_
                      refine lv_iload hx hb dX8_broke_115 (lv_at hl 1 rfl) ?_
                      refine k_iS (va_runS (As := [.int p1, .int (nI i57)]) (rest := [.int (nI i57), .ref g35]) ⟨hx, hb, hml, hown, hts⟩ (m_X8_isOn l D cI cJ H.size p1 (nI i57)) (va_cwS 2 hts gX8_broke_X8_isOn rfl rfl rfl (by decide +kernel) ⟨Nat.le_of_ble_eq_true rfl, Nat.le_of_ble_eq_true rfl⟩) (k_pre hE hP hD [] (by decide +kernel) rfl) rfl rfl hl.1 rfl (lv_room (Nat.le_of_ble_eq_true rfl)) dX8_broke_117 ⟨Nat.le_of_ble_eq_true rfl, Nat.le_of_ble_eq_true rfl⟩) hP hD hS hA [] rfl (fun _ _ h9 => h9.2) (fun r149 H locs hw150 hP hD hS => ?_)
                      obtain ⟨hw150, -⟩ := hw150
                      refine lv_if_ne (tgt := 141) hx hb dX8_broke_120 (by decide) (fun c151 => ?_) (fun c151 => ?_)
                      · skip
                        have hc151 : (p1 >>> ((nI i57) &&& 31)) &&& 1 = 1 := bz_1 hw150 c151
                        refine lv_iconst (v := 0) hx hb dX8_broke_141 (by decide) ?_
                        refine va_iast hx hb hE.1 hP hD hS 23 0 rfl rfl (vp_in_nI (n := i57) (by omega) (by decide)) dX8_broke_142 (fun H locs hP hD hS => ?_)
                        refine k_re (w := [(oX8 g 0 (nI mn) g2 g3 g4 g5 g6 g7 g8 g9 g10 (nI ml) g12 g13 gi14 g15 g16 g17 z103 g19 g20 g21 g22 g23 g24 g25 g26 g27 g28 z101 z102 (nI z104) (nI z105) g33 g34 g35 g36 g37 g38 g39 gi40 g41 g42 gi43 g44 g45), (aIc cI g2 8 G2), (aIc cI g3 8 G3), (aIc cI g4 8 G4), (aIc cI g5 8 G5), (aIc cI g6 8 G6), (aIc cI g7 8 G7), (aIc cI g8 8 G8), (aIc cI g10 64 G10), (aIc cI g12 10 G12), (aIc cI g13 10 G13), (aIc cI g19 8 z86), (aIc cI g20 8 z87), (aIc cI g21 8 z88), (aIc cI g22 8 z89), (aIc cI g23 8 z90), (aIc cI g24 8 z91), (aIc cI g25 8 z92), (aIc cI g26 8 z93), (aIc cI g27 8 z94), (aIc cI g28 8 z95), (aIc cI g33 8 z96), (aIc cI g34 8 z97), (aIc cI g35 8 (upd a_g35_57 (Int32.toNatClampNeg (nI i57)) 0)), (aIc cI g36 8 z99), (aJc cJ g37 8 z100)]) hP hD (fun hP hD => ?_)
                        refine lv_iinc (v := (nI (i57 + 1))) (lv' := [(5, .int (nI (i57 + 1))), (4, .int v142), (0, .ref g), (1, .int (nI lj)), (2, .int p1), (3, .int p2)]) hx hb dX8_broke_143 hl (k := 1) rfl (nI_1 _) (by decide) rfl (fun ls hl => ?_)
                        refine lv_goto (tgt := 57) hx hb dX8_broke_146 (by decide) ?_
                        exact ih57 (i57 + 1) v142 (upd a_g35_57 (Int32.toNatClampNeg (nI i57)) 0) (by omega) (ci_up (by omega) bk_0 hci_57) (by omega) _ _ _ hP hD hS (lv_sub hl [0, 1, 2, 3, 4, 5] rfl)
                      · skip
                        have hc151 : ¬ ((p1 >>> ((nI i57) &&& 31)) &&& 1 = 1) := bz_0 hw150 c151
                        refine lv_aload_n hx hb dX8_broke_123 rfl (lv_at hl 2 rfl) ?_
                        refine va_get (D := D) (ci := 8) (v := .ref g20) (C := RX8) (T := TX8) (N := 46) hx hb hts hiX8 hown hE.1 hP 0 rfl rfl 20 (by decide) (hts _ (List.mem_cons_of_mem _ wd_131)) (fun _ h9 => h9) rfl dX8_broke_124 ?_
                        refine lv_iload hx hb dX8_broke_127 (lv_at hl 1 rfl) ?_
                        refine va_iald hx hb hE.1 hP 12 0 rfl rfl (vp_in_nI (n := i57) (by omega) (by decide)) dX8_broke_129 ?_
                        refine lv_topi (fun v152 ev152 => ?_)
                        obtain rfl : v152 = nI (lo9 i57) := ev152.trans (nv_at hlo9 (by omega))
                        refine lv_aload_n hx hb dX8_broke_130 rfl (lv_at hl 2 rfl) ?_
                        refine va_get (D := D) (ci := 8) (v := .ref g27) (C := RX8) (T := TX8) (N := 46) hx hb hts hiX8 hown hE.1 hP 0 rfl rfl 27 (by decide) (hts _ (List.mem_cons_of_mem _ wd_138)) (fun _ h9 => h9) rfl dX8_broke_131 ?_
                        refine lv_iload hx hb dX8_broke_134 (lv_at hl 1 rfl) ?_
                        refine va_iald hx hb hE.1 hP 19 0 rfl rfl (vp_in_nI (n := i57) (by omega) (by decide)) dX8_broke_136 ?_
                        refine lv_topi (fun v153 ev153 => ?_)
                        obtain rfl : v153 = nI (sh9 i57) := ev153.trans (nv_at hsh9 (by omega))
                        refine lv_isub hx hb dX8_broke_137 ?_
                        refine lv_topi (fun v154 ev154 => ?_)
                        have hlob_ := hlob9 i57 (by omega)
                        have hshb_ := sm_get sh9 (k := i57) (n := 8) (by omega)
                        have hbd := bk_d ev154 (by omega) (by omega)
                        refine lv_goto (tgt := 142) hx hb dX8_broke_138 (by decide) ?_
                        refine va_iast hx hb hE.1 hP hD hS 23 0 rfl rfl (vp_in_nI (n := i57) (by omega) (by decide)) dX8_broke_142 (fun H locs hP hD hS => ?_)
                        refine k_re (w := [(oX8 g 0 (nI mn) g2 g3 g4 g5 g6 g7 g8 g9 g10 (nI ml) g12 g13 gi14 g15 g16 g17 z103 g19 g20 g21 g22 g23 g24 g25 g26 g27 g28 z101 z102 (nI z104) (nI z105) g33 g34 g35 g36 g37 g38 g39 gi40 g41 g42 gi43 g44 g45), (aIc cI g2 8 G2), (aIc cI g3 8 G3), (aIc cI g4 8 G4), (aIc cI g5 8 G5), (aIc cI g6 8 G6), (aIc cI g7 8 G7), (aIc cI g8 8 G8), (aIc cI g10 64 G10), (aIc cI g12 10 G12), (aIc cI g13 10 G13), (aIc cI g19 8 z86), (aIc cI g20 8 z87), (aIc cI g21 8 z88), (aIc cI g22 8 z89), (aIc cI g23 8 z90), (aIc cI g24 8 z91), (aIc cI g25 8 z92), (aIc cI g26 8 z93), (aIc cI g27 8 z94), (aIc cI g28 8 z95), (aIc cI g33 8 z96), (aIc cI g34 8 z97), (aIc cI g35 8 (upd a_g35_57 (Int32.toNatClampNeg (nI i57)) v154)), (aIc cI g36 8 z99), (aJc cJ g37 8 z100)]) hP hD (fun hP hD => ?_)
                        refine lv_iinc (v := (nI (i57 + 1))) (lv' := [(5, .int (nI (i57 + 1))), (4, .int v142), (0, .ref g), (1, .int (nI lj)), (2, .int p1), (3, .int p2)]) hx hb dX8_broke_143 hl (k := 1) rfl (nI_1 _) (by decide) rfl (fun ls hl => ?_)
                        refine lv_goto (tgt := 57) hx hb dX8_broke_146 (by decide) ?_
                        exact ih57 (i57 + 1) v142 (upd a_g35_57 (Int32.toNatClampNeg (nI i57)) v154) (by omega) (ci_up (by omega) hbd hci_57) (by omega) _ _ _ hP hD hS (lv_sub hl [0, 1, 2, 3, 4, 5] rfl)
          exact J57 _ 0 0 z98 (by omega) (fun k hk => absurd hk (Nat.not_lt_zero k)) (Nat.lt_succ_self _) _ _ _ hP hD hS (lv_sub hl [0, 1, 2, 3, 4, 5] rfl)
        · skip
          have hc82 : ¬ (0 ≤ p2 ∧ p2 ≤ nI mn - 1) := bz_0 hb81 c82
          refine lv_iconst (v := (-1)) hx hb dX8_broke_40 (by decide) ?_
          refine k_iret (u := [(oX8 g 0 (nI mn) g2 g3 g4 g5 g6 g7 g8 g9 g10 (nI ml) g12 g13 gi14 g15 g16 g17 gi18 g19 g20 g21 g22 g23 g24 g25 g26 g27 g28 gi29 gi30 (nI mv) (nI tt) g33 g34 g35 g36 g37 g38 g39 gi40 g41 g42 gi43 g44 g45), (aIc cI g2 8 G2), (aIc cI g3 8 G3), (aIc cI g4 8 G4), (aIc cI g5 8 G5), (aIc cI g6 8 G6), (aIc cI g7 8 G7), (aIc cI g8 8 G8), (aIc cI g10 64 G10), (aIc cI g12 10 G12), (aIc cI g13 10 G13), (aIc cI g19 8 G19), (aIc cI g20 8 G20), (aIc cI g21 8 G21), (aIc cI g22 8 G22), (aIc cI g23 8 G23), (aIc cI g24 8 G24), (aIc cI g25 8 G25), (aIc cI g26 8 G26), (aIc cI g27 8 G27), (aIc cI g28 8 G28), (aIc cI g33 8 G33), (aIc cI g34 8 G34), (aIc cI g35 8 G35), (aIc cI g36 8 G36), (aJc cJ g37 8 G37)]) hx hb hr hlk hP hD hS dX8_broke_41 ?_
          exact ⟨G19, G20, G21, G22, G23, G24, G25, G26, G27, G28, G33, G34, G35, G36, G37, gi29, gi30, gi18, mv, tt, 0, hLE, hLO, hLW, hSH, htt, hmv, rfl⟩
theorem dX8_without_0 : decode cX8_without 0 = .ok (.aload_n 0, 1) := by decide +kernel
theorem dX8_without_1 : decode cX8_without 1 = .ok (.iload_n 1, 1) := by decide +kernel
theorem dX8_without_2 : decode cX8_without 2 = .ok (.iload_n 2, 1) := by decide +kernel
theorem dX8_without_3 : decode cX8_without 3 = .ok (.invokevirtual 264, 3) := by decide +kernel
theorem dX8_without_6 : decode cX8_without 6 = .ok (.ifCond .ne 5, 3) := by decide +kernel
theorem dX8_without_9 : decode cX8_without 9 = .ok (.iconst (-1), 1) := by decide +kernel
theorem dX8_without_10 : decode cX8_without 10 = .ok (.ireturn, 1) := by decide +kernel
theorem dX8_without_11 : decode cX8_without 11 = .ok (.aload_n 0, 1) := by decide +kernel
theorem dX8_without_12 : decode cX8_without 12 = .ok (.iload_n 1, 1) := by decide +kernel
theorem dX8_without_13 : decode cX8_without 13 = .ok (.aload_n 0, 1) := by decide +kernel
theorem dX8_without_14 : decode cX8_without 14 = .ok (.invokevirtual 220, 3) := by decide +kernel
theorem dX8_without_17 : decode cX8_without 17 = .ok (.iconst 1, 1) := by decide +kernel
theorem dX8_without_18 : decode cX8_without 18 = .ok (.iload_n 2, 1) := by decide +kernel
theorem dX8_without_19 : decode cX8_without 19 = .ok (.ishl, 1) := by decide +kernel
theorem dX8_without_20 : decode cX8_without 20 = .ok (.iconst (-1), 1) := by decide +kernel
theorem dX8_without_21 : decode cX8_without 21 = .ok (.ixor, 1) := by decide +kernel
theorem dX8_without_22 : decode cX8_without 22 = .ok (.iand, 1) := by decide +kernel
theorem dX8_without_23 : decode cX8_without 23 = .ok (.invokevirtual 224, 3) := by decide +kernel
theorem dX8_without_26 : decode cX8_without 26 = .ok (.aload_n 0, 1) := by decide +kernel
theorem dX8_without_27 : decode cX8_without 27 = .ok (.getfield 198, 3) := by decide +kernel
theorem dX8_without_30 : decode cX8_without 30 = .ok (.ireturn, 1) := by decide +kernel
theorem gX8_without_X8_all : GoodIn wtX8_without (wsV RX8 220 RX8 yX8_all wtX8_all) := tb_good (tb_v0 wd_413 wd_414 wd_415 wd_5 wd_416)
theorem gX8_without_X8_isBoth : GoodIn wtX8_without (wsV RX8 264 RX8 yX8_isBoth wtX8_isBoth) := tb_good (tb_v0 wd_611 wd_612 wd_613 wd_5 wd_614)
theorem gX8_without_X8_settlesTo : GoodIn wtX8_without (wsV RX8 224 RX8 yX8_settlesTo wtX8_settlesTo) := tb_good (tb_v0 wd_482 wd_483 wd_484 wd_5 wd_485)
set_option maxHeartbeats 4000000 in
set_option maxRecDepth 100000 in
theorem m_X8_without (l : Launch) (D : va_G) (cI cJ : ClassId) (sz : Nat) (g g2 g3 g4 g5 g6 g7 g8 g9 g10 g12 g13 g15 g16 g17 g19 g20 g21 g22 g23 g24 g25 g26 g27 g28 g33 g34 g35 g36 g37 g38 g39 g41 g42 g44 g45 mn ml mv tt : Nat) (gi0 gi14 gi18 gi29 gi30 gi40 gi43 p0 p1 : Int32) (G2 G3 G4 G5 G6 G7 G8 G10 G12 G13 G19 G20 G21 G22 G23 G24 G25 G26 G27 G28 G33 G34 G35 G36 : Nat → Int32) (G37 : Nat → Int64) (li0 wo0 de0 ag0 : Nat → Nat) (hmn : mn ≤ 8) (hmL : ml ≤ 10) (hit : ∀ k, k < 10 → ∃ j : Nat, j < 8 ∧ G12 k = nI j) (hsu : ∀ k, k < 64 → ∃ j : Nat, j ≤ 1000001 ∧ G10 k = nI j) (hliv : nv G2 li0) (hlib : ∀ k, k < 8 → li0 k ≤ 1000000) (hwov : nv G5 wo0) (hwob : ∀ k, k < 8 → wo0 k ≤ 9000000) (hdev : nv G4 de0) (hdeb : ∀ k, k < 8 → de0 k ≤ 99999) (hagv : nv G3 ag0) (hagb : ∀ k, k < 8 → ag0 k ≤ 9000000) (hamt : ∀ k, k < 10 → ∃ j : Nat, j < 1000001 ∧ G13 k = nI j) (hLE : LE G19) (hLO : LO G20) (hLW : LW G25) (hSH : SH G27 tt) (htt : tt ≤ 1000000) (hmv : mv ≤ 8) : Met l yX8_without wtX8_without { frames := 9, cells := 0, slots := 0, locals := 211 } (cPc D cI cJ [.ref g, .int p0, .int p1] sz [(oX8 g gi0 (nI mn) g2 g3 g4 g5 g6 g7 g8 g9 g10 (nI ml) g12 g13 gi14 g15 g16 g17 gi18 g19 g20 g21 g22 g23 g24 g25 g26 g27 g28 gi29 gi30 (nI mv) (nI tt) g33 g34 g35 g36 g37 g38 g39 gi40 g41 g42 gi43 g44 g45), (aIc cI g2 8 G2), (aIc cI g3 8 G3), (aIc cI g4 8 G4), (aIc cI g5 8 G5), (aIc cI g6 8 G6), (aIc cI g7 8 G7), (aIc cI g8 8 G8), (aIc cI g10 64 G10), (aIc cI g12 10 G12), (aIc cI g13 10 G13), (aIc cI g19 8 G19), (aIc cI g20 8 G20), (aIc cI g21 8 G21), (aIc cI g22 8 G22), (aIc cI g23 8 G23), (aIc cI g24 8 G24), (aIc cI g25 8 G25), (aIc cI g26 8 G26), (aIc cI g27 8 G27), (aIc cI g28 8 G28), (aIc cI g33 8 G33), (aIc cI g34 8 G34), (aIc cI g35 8 G35), (aIc cI g36 8 G36), (aJc cJ g37 8 G37)]) (cQi D (fun r u => ∃ (G19p G20p G21p G22p G23p G24p G25p G26p G27p G28p G33p G34p G35p G36p : Nat → Int32) (G37p : Nat → Int64) (gi29p gi30p gi18p : Int32) (mvp ttp : Nat) (gi0p : Int32), (LE G19p) ∧ (LO G20p) ∧ (LW G25p) ∧ (SH G27p ttp) ∧ (ttp ≤ 1000000) ∧ (mvp ≤ 8) ∧ u = [(oX8 g gi0p (nI mn) g2 g3 g4 g5 g6 g7 g8 g9 g10 (nI ml) g12 g13 gi14 g15 g16 g17 gi18p g19 g20 g21 g22 g23 g24 g25 g26 g27 g28 gi29p gi30p (nI mvp) (nI ttp) g33 g34 g35 g36 g37 g38 g39 gi40 g41 g42 gi43 g44 g45), (aIc cI g2 8 G2), (aIc cI g3 8 G3), (aIc cI g4 8 G4), (aIc cI g5 8 G5), (aIc cI g6 8 G6), (aIc cI g7 8 G7), (aIc cI g8 8 G8), (aIc cI g10 64 G10), (aIc cI g12 10 G12), (aIc cI g13 10 G13), (aIc cI g19 8 G19p), (aIc cI g20 8 G20p), (aIc cI g21 8 G21p), (aIc cI g22 8 G22p), (aIc cI g23 8 G23p), (aIc cI g24 8 G24p), (aIc cI g25 8 G25p), (aIc cI g26 8 G26p), (aIc cI g27 8 G27p), (aIc cI g28 8 G28p), (aIc cI g33 8 G33p), (aIc cI g34 8 G34p), (aIc cI g35 8 G35p), (aIc cI g36 8 G36p), (aJc cJ g37 8 G37p)]) (va_A [(oX8 g gi0 (nI mn) g2 g3 g4 g5 g6 g7 g8 g9 g10 (nI ml) g12 g13 gi14 g15 g16 g17 gi18 g19 g20 g21 g22 g23 g24 g25 g26 g27 g28 gi29 gi30 (nI mv) (nI tt) g33 g34 g35 g36 g37 g38 g39 gi40 g41 g42 gi43 g44 g45), (aIc cI g2 8 G2), (aIc cI g3 8 G3), (aIc cI g4 8 G4), (aIc cI g5 8 G5), (aIc cI g6 8 G6), (aIc cI g7 8 G7), (aIc cI g8 8 G8), (aIc cI g10 64 G10), (aIc cI g12 10 G12), (aIc cI g13 10 G13), (aIc cI g19 8 G19), (aIc cI g20 8 G20), (aIc cI g21 8 G21), (aIc cI g22 8 G22), (aIc cI g23 8 G23), (aIc cI g24 8 G24), (aIc cI g25 8 G25), (aIc cI g26 8 G26), (aIc cI g27 8 G27), (aIc cI g28 8 G28), (aIc cI g33 8 G33), (aIc cI g34 8 G34), (aIc cI g35 8 G35), (aIc cI g36 8 G36), (aJc cJ g37 8 G37)] sz)) 0 0 (va_A [(oX8 g gi0 (nI mn) g2 g3 g4 g5 g6 g7 g8 g9 g10 (nI ml) g12 g13 gi14 g15 g16 g17 gi18 g19 g20 g21 g22 g23 g24 g25 g26 g27 g28 gi29 gi30 (nI mv) (nI tt) g33 g34 g35 g36 g37 g38 g39 gi40 g41 g42 gi43 g44 g45), (aIc cI g2 8 G2), (aIc cI g3 8 G3), (aIc cI g4 8 G4), (aIc cI g5 8 G5), (aIc cI g6 8 G6), (aIc cI g7 8 G7), (aIc cI g8 8 G8), (aIc cI g10 64 G10), (aIc cI g12 10 G12), (aIc cI g13 10 G13), (aIc cI g19 8 G19), (aIc cI g20 8 G20), (aIc cI g21 8 G21), (aIc cI g22 8 G22), (aIc cI g23 8 G23), (aIc cI g24 8 G24), (aIc cI g25 8 G25), (aIc cI g26 8 G26), (aIc cI g27 8 G27), (aIc cI g28 8 G28), (aIc cI g33 8 G33), (aIc cI g34 8 G34), (aIc cI g35 8 G35), (aIc cI g36 8 G36), (aJc cJ g37 8 G37)] sz) := by
  refine k_ofW (Qc := cQi D (fun r u => ∃ (G19p G20p G21p G22p G23p G24p G25p G26p G27p G28p G33p G34p G35p G36p : Nat → Int32) (G37p : Nat → Int64) (gi29p gi30p gi18p : Int32) (mvp ttp : Nat) (gi0p : Int32), (LE G19p) ∧ (LO G20p) ∧ (LW G25p) ∧ (SH G27p ttp) ∧ (ttp ≤ 1000000) ∧ (mvp ≤ 8) ∧ u = [(oX8 g gi0p (nI mn) g2 g3 g4 g5 g6 g7 g8 g9 g10 (nI ml) g12 g13 gi14 g15 g16 g17 gi18p g19 g20 g21 g22 g23 g24 g25 g26 g27 g28 gi29p gi30p (nI mvp) (nI ttp) g33 g34 g35 g36 g37 g38 g39 gi40 g41 g42 gi43 g44 g45), (aIc cI g2 8 G2), (aIc cI g3 8 G3), (aIc cI g4 8 G4), (aIc cI g5 8 G5), (aIc cI g6 8 G6), (aIc cI g7 8 G7), (aIc cI g8 8 G8), (aIc cI g10 64 G10), (aIc cI g12 10 G12), (aIc cI g13 10 G13), (aIc cI g19 8 G19p), (aIc cI g20 8 G20p), (aIc cI g21 8 G21p), (aIc cI g22 8 G22p), (aIc cI g23 8 G23p), (aIc cI g24 8 G24p), (aIc cI g25 8 G25p), (aIc cI g26 8 G26p), (aIc cI g27 8 G27p), (aIc cI g28 8 G28p), (aIc cI g33 8 G33p), (aIc cI g34 8 G34p), (aIc cI g35 8 G35p), (aIc cI g36 8 G36p), (aJc cJ g37 8 G37p)])) (by decide) rfl (Nat.le_of_ble_eq_true rfl) ?_
  intro p e s m below meth c A ls hx hb hr hml hts hown hlk hnm hsz hE hP hD hS hA hl
  have hown : s.vm.findClass RX8 = some m.cls := hown
  have hiX8 : ∀ w ∈ u_ws RX8 TX8 46, w ∈ wtX8_without := fun w h => List.mem_cons_of_mem _ (iuX8 w h)
  have hl : lv_has ls 3 [(0, .ref g), (1, .int p0), (2, .int p1)] := hl
  refine lv_aload_n hx hb dX8_without_0 rfl (lv_at hl 0 rfl) ?_
  refine lv_iload_n hx hb dX8_without_1 rfl (lv_at hl 1 rfl) ?_
  refine lv_iload_n hx hb dX8_without_2 rfl (lv_at hl 2 rfl) ?_
  refine k_i (va_runV (As := [.int p0, .int p1]) (rest := []) ⟨hx, hb, hml, hown, hts⟩ (m_X8_isBoth l D cI cJ (s.heap).size g g2 g3 g4 g5 g6 g7 g8 g9 g10 g12 g13 g15 g16 g17 g19 g20 g21 g22 g23 g24 g25 g26 g27 g28 g33 g34 g35 g36 g37 g38 g39 g41 g42 g44 g45 mn ml mv tt gi0 gi14 gi18 gi29 gi30 gi40 gi43 p0 p1 G2 G3 G4 G5 G6 G7 G8 G10 G12 G13 G19 G20 G21 G22 G23 G24 G25 G26 G27 G28 G33 G34 G35 G36 G37 li0 wo0 de0 ag0 hmn hmL hit hsu hliv hlib hwov hwob hdev hdeb hagv hagb hamt hLE hLO hLW hSH htt hmv) (cwV 2 hts gX8_without_X8_isBoth rfl rfl rfl (by decide +kernel) ⟨Nat.le_of_ble_eq_true rfl, Nat.le_of_ble_eq_true rfl⟩) (k_preV hE hP hD [0, 1, 2, 3, 4, 5, 6, 7, 8, 9, 10, 11, 12, 13, 14, 15, 16, 17, 18, 19, 20, 21, 22, 23, 24, 25] (by decide +kernel) rfl 0 rfl rfl) rfl rfl hl.1 rfl (lv_room (Nat.le_of_ble_eq_true rfl)) dX8_without_3 ⟨Nat.le_of_ble_eq_true rfl, Nat.le_of_ble_eq_true rfl⟩) hP hD hS hA [0, 1, 2, 3, 4, 5, 6, 7, 8, 9, 10, 11, 12, 13, 14, 15, 16, 17, 18, 19, 20, 21, 22, 23, 24, 25] [] rfl (wr := []) rfl (by decide +kernel) (by decide +kernel) (fun r1 u H locs hw2 hP hD hS => ?_)
  obtain ⟨z3, z4, z5, z6, z7, z8, z9, z10, z11, z12, z13, z14, z15, z16, z17, z18, z19, z20, z21, z22, z23, hz24, hz25, hz26, hz27, hz28, hz29, hz30, rfl⟩ := hw2
  refine k_re (w := [(oX8 g z23 (nI mn) g2 g3 g4 g5 g6 g7 g8 g9 g10 (nI ml) g12 g13 gi14 g15 g16 g17 z20 g19 g20 g21 g22 g23 g24 g25 g26 g27 g28 z18 z19 (nI z21) (nI z22) g33 g34 g35 g36 g37 g38 g39 gi40 g41 g42 gi43 g44 g45), (aIc cI g2 8 G2), (aIc cI g3 8 G3), (aIc cI g4 8 G4), (aIc cI g5 8 G5), (aIc cI g6 8 G6), (aIc cI g7 8 G7), (aIc cI g8 8 G8), (aIc cI g10 64 G10), (aIc cI g12 10 G12), (aIc cI g13 10 G13), (aIc cI g19 8 z3), (aIc cI g20 8 z4), (aIc cI g21 8 z5), (aIc cI g22 8 z6), (aIc cI g23 8 z7), (aIc cI g24 8 z8), (aIc cI g25 8 z9), (aIc cI g26 8 z10), (aIc cI g27 8 z11), (aIc cI g28 8 z12), (aIc cI g33 8 z13), (aIc cI g34 8 z14), (aIc cI g35 8 z15), (aIc cI g36 8 z16), (aJc cJ g37 8 z17)]) hP hD (fun hP hD => ?_)
  refine lv_if_ne (tgt := 11) hx hb dX8_without_6 (by decide) (fun c31 => ?_) (fun c31 => ?_)
  · skip
    obtain ⟨_, hbl, hbp⟩ := hz30.resolve_left c31
    obtain ⟨lj, hlj, elj⟩ := wi_n (by omega) hbl
    rw [elj] at hl
    obtain ⟨pj, hpj, epj⟩ := wi_n (by omega) hbp
    rw [epj] at hl
    refine lv_aload_n hx hb dX8_without_11 rfl (lv_at hl 0 rfl) ?_
    refine lv_iload_n hx hb dX8_without_12 rfl (lv_at hl 1 rfl) ?_
    refine lv_aload_n hx hb dX8_without_13 rfl (lv_at hl 0 rfl) ?_
    refine k_iS (va_runV (As := []) (rest := [.int (nI lj), .ref g]) ⟨hx, hb, hml, hown, hts⟩ (m_X8_all l D cI cJ H.size g g2 g3 g4 g5 g6 g7 g8 g9 g10 g12 g13 g15 g16 g17 g19 g20 g21 g22 g23 g24 g25 g26 g27 g28 g33 g34 g35 g36 g37 g38 g39 g41 g42 g44 g45 mn ml z21 z23 gi14 z20 z18 z19 (nI z22) gi40 gi43 hmn) (cwV 0 hts gX8_without_X8_all rfl rfl rfl (by decide +kernel) ⟨Nat.le_of_ble_eq_true rfl, Nat.le_of_ble_eq_true rfl⟩) (k_preV hE hP hD [0] (by decide +kernel) rfl 0 rfl rfl) rfl rfl hl.1 rfl (lv_room (Nat.le_of_ble_eq_true rfl)) dX8_without_14 ⟨Nat.le_of_ble_eq_true rfl, Nat.le_of_ble_eq_true rfl⟩) hP hD hS hA [0] rfl (fun _ _ ⟨_, h9⟩ => h9) (fun r32 H locs hw33 hP hD hS => ?_)
    obtain ⟨rfl, -⟩ := hw33
    refine lv_iconst (v := 1) hx hb dX8_without_17 (by decide) ?_
    refine lv_iload_n hx hb dX8_without_18 rfl (lv_at hl 2 rfl) ?_
    refine lv_ishl hx hb dX8_without_19 ?_
    refine lv_topi (fun v34 ev34 => ?_)
    refine lv_iconst (v := (-1)) hx hb dX8_without_20 (by decide) ?_
    refine lv_ixor hx hb dX8_without_21 ?_
    refine lv_topi (fun v35 ev35 => ?_)
    refine lv_iand hx hb dX8_without_22 ?_
    refine lv_topi (fun v36 ev36 => ?_)
    refine k_v (va_runV (As := [.int (nI lj), .int v36]) (rest := []) ⟨hx, hb, hml, hown, hts⟩ (m_X8_settlesTo l D cI cJ H.size g g2 g3 g4 g5 g6 g7 g8 g9 g10 g12 g13 g15 g16 g17 g19 g20 g21 g22 g23 g24 g25 g26 g27 g28 g33 g34 g35 g36 g37 g38 g39 g41 g42 g44 g45 mn ml z21 z22 (lj + 1) z23 gi14 z20 z18 z19 gi40 gi43 (nI lj) v36 G2 G3 G4 G5 G6 G7 G8 G10 G12 G13 z3 z4 z5 z6 z7 z8 z9 z10 z11 z12 z13 z14 z15 z16 z17 li0 wo0 de0 ag0 (nI_pred lj).symm (by omega) hit hsu hliv hlib hwov hwob hdev hdeb hagv hagb hamt hz24 hz25 hz26 hz27 hz28 hz29) (cwV 2 hts gX8_without_X8_settlesTo rfl rfl rfl (by decide +kernel) ⟨Nat.le_of_ble_eq_true rfl, Nat.le_of_ble_eq_true rfl⟩) (k_preV hE hP hD [0, 1, 2, 3, 4, 5, 6, 7, 8, 9, 10, 11, 12, 13, 14, 15, 16, 17, 18, 19, 20, 21, 22, 23, 24, 25] (by decide +kernel) rfl 0 rfl rfl) rfl rfl hl.1 rfl (lv_room (Nat.le_of_ble_eq_true rfl)) dX8_without_23 ⟨Nat.le_of_ble_eq_true rfl, Nat.le_of_ble_eq_true rfl⟩) hP hD hS hA [0, 1, 2, 3, 4, 5, 6, 7, 8, 9, 10, 11, 12, 13, 14, 15, 16, 17, 18, 19, 20, 21, 22, 23, 24, 25] [] rfl (wr := []) rfl (by decide +kernel) (by decide +kernel) (fun u H locs hw37 hP hD hS => ?_)
    obtain ⟨z38, z39, z40, z41, z42, z43, z44, z45, z46, z47, z48, z49, z50, z51, z52, z53, z54, z55, z56, z57, hz58, hz59, hz60, hz61, hz62, hz63, hz64, rfl⟩ := hw37
    refine k_re (w := [(oX8 g z23 (nI mn) g2 g3 g4 g5 g6 g7 g8 g9 g10 (nI ml) g12 g13 gi14 g15 g16 g17 z55 g19 g20 g21 g22 g23 g24 g25 g26 g27 g28 z53 z54 (nI z56) (nI z57) g33 g34 g35 g36 g37 g38 g39 gi40 g41 g42 gi43 g44 g45), (aIc cI g2 8 G2), (aIc cI g3 8 G3), (aIc cI g4 8 G4), (aIc cI g5 8 G5), (aIc cI g6 8 G6), (aIc cI g7 8 G7), (aIc cI g8 8 G8), (aIc cI g10 64 G10), (aIc cI g12 10 G12), (aIc cI g13 10 G13), (aIc cI g19 8 z38), (aIc cI g20 8 z39), (aIc cI g21 8 z40), (aIc cI g22 8 z41), (aIc cI g23 8 z42), (aIc cI g24 8 z43), (aIc cI g25 8 z44), (aIc cI g26 8 z45), (aIc cI g27 8 z46), (aIc cI g28 8 z47), (aIc cI g33 8 z48), (aIc cI g34 8 z49), (aIc cI g35 8 z50), (aIc cI g36 8 z51), (aJc cJ g37 8 z52)]) hP hD (fun hP hD => ?_)
    refine lv_aload_n hx hb dX8_without_26 rfl (lv_at hl 0 rfl) ?_
    refine va_get (D := D) (ci := 8) (v := .int (nI z57)) (C := RX8) (T := TX8) (N := 46) hx hb hts hiX8 hown hE.1 hP 0 rfl rfl 32 (by decide) (hts _ (List.mem_cons_of_mem _ wd_412)) (fun _ h9 => h9) rfl dX8_without_27 ?_
    refine k_iret (u := [(oX8 g z23 (nI mn) g2 g3 g4 g5 g6 g7 g8 g9 g10 (nI ml) g12 g13 gi14 g15 g16 g17 z55 g19 g20 g21 g22 g23 g24 g25 g26 g27 g28 z53 z54 (nI z56) (nI z57) g33 g34 g35 g36 g37 g38 g39 gi40 g41 g42 gi43 g44 g45), (aIc cI g2 8 G2), (aIc cI g3 8 G3), (aIc cI g4 8 G4), (aIc cI g5 8 G5), (aIc cI g6 8 G6), (aIc cI g7 8 G7), (aIc cI g8 8 G8), (aIc cI g10 64 G10), (aIc cI g12 10 G12), (aIc cI g13 10 G13), (aIc cI g19 8 z38), (aIc cI g20 8 z39), (aIc cI g21 8 z40), (aIc cI g22 8 z41), (aIc cI g23 8 z42), (aIc cI g24 8 z43), (aIc cI g25 8 z44), (aIc cI g26 8 z45), (aIc cI g27 8 z46), (aIc cI g28 8 z47), (aIc cI g33 8 z48), (aIc cI g34 8 z49), (aIc cI g35 8 z50), (aIc cI g36 8 z51), (aJc cJ g37 8 z52)]) hx hb hr hlk hP hD hS dX8_without_30 ?_
    exact ⟨z38, z39, z40, z41, z42, z43, z44, z45, z46, z47, z48, z49, z50, z51, z52, z53, z54, z55, z56, z57, z23, hz58, hz59, hz60, hz61, hz62, hz63, rfl⟩
  · skip
    refine lv_iconst (v := (-1)) hx hb dX8_without_9 (by decide) ?_
    refine k_iret (u := [(oX8 g z23 (nI mn) g2 g3 g4 g5 g6 g7 g8 g9 g10 (nI ml) g12 g13 gi14 g15 g16 g17 z20 g19 g20 g21 g22 g23 g24 g25 g26 g27 g28 z18 z19 (nI z21) (nI z22) g33 g34 g35 g36 g37 g38 g39 gi40 g41 g42 gi43 g44 g45), (aIc cI g2 8 G2), (aIc cI g3 8 G3), (aIc cI g4 8 G4), (aIc cI g5 8 G5), (aIc cI g6 8 G6), (aIc cI g7 8 G7), (aIc cI g8 8 G8), (aIc cI g10 64 G10), (aIc cI g12 10 G12), (aIc cI g13 10 G13), (aIc cI g19 8 z3), (aIc cI g20 8 z4), (aIc cI g21 8 z5), (aIc cI g22 8 z6), (aIc cI g23 8 z7), (aIc cI g24 8 z8), (aIc cI g25 8 z9), (aIc cI g26 8 z10), (aIc cI g27 8 z11), (aIc cI g28 8 z12), (aIc cI g33 8 z13), (aIc cI g34 8 z14), (aIc cI g35 8 z15), (aIc cI g36 8 z16), (aJc cJ g37 8 z17)]) hx hb hr hlk hP hD hS dX8_without_10 ?_
    exact ⟨z3, z4, z5, z6, z7, z8, z9, z10, z11, z12, z13, z14, z15, z16, z17, z18, z19, z20, z21, z22, z23, hz24, hz25, hz26, hz27, hz28, hz29, rfl⟩
theorem dX8_other_0 : decode cX8_other 0 = .ok (.aload_n 0, 1) := by decide +kernel
theorem dX8_other_1 : decode cX8_other 1 = .ok (.iload_n 1, 1) := by decide +kernel
theorem dX8_other_2 : decode cX8_other 2 = .ok (.iload_n 2, 1) := by decide +kernel
theorem dX8_other_3 : decode cX8_other 3 = .ok (.invokevirtual 264, 3) := by decide +kernel
theorem dX8_other_6 : decode cX8_other 6 = .ok (.ifCond .ne 5, 3) := by decide +kernel
theorem dX8_other_9 : decode cX8_other 9 = .ok (.iconst (-1), 1) := by decide +kernel
theorem dX8_other_10 : decode cX8_other 10 = .ok (.ireturn, 1) := by decide +kernel
theorem dX8_other_11 : decode cX8_other 11 = .ok (.aload_n 0, 1) := by decide +kernel
theorem dX8_other_12 : decode cX8_other 12 = .ok (.iconst 1, 1) := by decide +kernel
theorem dX8_other_13 : decode cX8_other 13 = .ok (.aload_n 0, 1) := by decide +kernel
theorem dX8_other_14 : decode cX8_other 14 = .ok (.getfield 151, 3) := by decide +kernel
theorem dX8_other_17 : decode cX8_other 17 = .ok (.isub, 1) := by decide +kernel
theorem dX8_other_18 : decode cX8_other 18 = .ok (.putfield 151, 3) := by decide +kernel
theorem dX8_other_21 : decode cX8_other 21 = .ok (.aload_n 0, 1) := by decide +kernel
theorem dX8_other_22 : decode cX8_other 22 = .ok (.iload_n 1, 1) := by decide +kernel
theorem dX8_other_23 : decode cX8_other 23 = .ok (.aload_n 0, 1) := by decide +kernel
theorem dX8_other_24 : decode cX8_other 24 = .ok (.invokevirtual 220, 3) := by decide +kernel
theorem dX8_other_27 : decode cX8_other 27 = .ok (.invokevirtual 224, 3) := by decide +kernel
theorem dX8_other_30 : decode cX8_other 30 = .ok (.aload_n 0, 1) := by decide +kernel
theorem dX8_other_31 : decode cX8_other 31 = .ok (.iconst 1, 1) := by decide +kernel
theorem dX8_other_32 : decode cX8_other 32 = .ok (.aload_n 0, 1) := by decide +kernel
theorem dX8_other_33 : decode cX8_other 33 = .ok (.getfield 151, 3) := by decide +kernel
theorem dX8_other_36 : decode cX8_other 36 = .ok (.isub, 1) := by decide +kernel
theorem dX8_other_37 : decode cX8_other 37 = .ok (.putfield 151, 3) := by decide +kernel
theorem dX8_other_40 : decode cX8_other 40 = .ok (.aload_n 0, 1) := by decide +kernel
theorem dX8_other_41 : decode cX8_other 41 = .ok (.getfield 76, 3) := by decide +kernel
theorem dX8_other_44 : decode cX8_other 44 = .ok (.iload_n 2, 1) := by decide +kernel
theorem dX8_other_45 : decode cX8_other 45 = .ok (.iaload, 1) := by decide +kernel
theorem dX8_other_46 : decode cX8_other 46 = .ok (.ireturn, 1) := by decide +kernel
theorem gX8_other_X8_all : GoodIn wtX8_other (wsV RX8 220 RX8 yX8_all wtX8_all) := tb_good (tb_v0 wd_413 wd_414 wd_415 wd_5 wd_416)
theorem gX8_other_X8_isBoth : GoodIn wtX8_other (wsV RX8 264 RX8 yX8_isBoth wtX8_isBoth) := tb_good (tb_v0 wd_611 wd_612 wd_613 wd_5 wd_614)
theorem gX8_other_X8_settlesTo : GoodIn wtX8_other (wsV RX8 224 RX8 yX8_settlesTo wtX8_settlesTo) := tb_good (tb_v0 wd_482 wd_483 wd_484 wd_5 wd_485)
set_option maxHeartbeats 4000000 in
set_option maxRecDepth 100000 in
theorem m_X8_other (l : Launch) (D : va_G) (cI cJ : ClassId) (sz : Nat) (g g2 g3 g4 g5 g6 g7 g8 g9 g10 g12 g13 g15 g16 g17 g19 g20 g21 g22 g23 g24 g25 g26 g27 g28 g33 g34 g35 g36 g37 g38 g39 g41 g42 g44 g45 mn ml mv tt : Nat) (gi0 gi14 gi18 gi29 gi30 gi40 gi43 p0 p1 : Int32) (G2 G3 G4 G5 G6 G7 G8 G10 G12 G13 G19 G20 G21 G22 G23 G24 G25 G26 G27 G28 G33 G34 G35 G36 : Nat → Int32) (G37 : Nat → Int64) (li0 wo0 de0 ag0 : Nat → Nat) (hmn : mn ≤ 8) (hmL : ml ≤ 10) (hit : ∀ k, k < 10 → ∃ j : Nat, j < 8 ∧ G12 k = nI j) (hsu : ∀ k, k < 64 → ∃ j : Nat, j ≤ 1000001 ∧ G10 k = nI j) (hliv : nv G2 li0) (hlib : ∀ k, k < 8 → li0 k ≤ 1000000) (hwov : nv G5 wo0) (hwob : ∀ k, k < 8 → wo0 k ≤ 9000000) (hdev : nv G4 de0) (hdeb : ∀ k, k < 8 → de0 k ≤ 99999) (hagv : nv G3 ag0) (hagb : ∀ k, k < 8 → ag0 k ≤ 9000000) (hamt : ∀ k, k < 10 → ∃ j : Nat, j < 1000001 ∧ G13 k = nI j) (hLE : LE G19) (hLO : LO G20) (hLW : LW G25) (hSH : SH G27 tt) (htt : tt ≤ 1000000) (hmv : mv ≤ 8) : Met l yX8_other wtX8_other { frames := 9, cells := 0, slots := 0, locals := 211 } (cPc D cI cJ [.ref g, .int p0, .int p1] sz [(oX8 g gi0 (nI mn) g2 g3 g4 g5 g6 g7 g8 g9 g10 (nI ml) g12 g13 gi14 g15 g16 g17 gi18 g19 g20 g21 g22 g23 g24 g25 g26 g27 g28 gi29 gi30 (nI mv) (nI tt) g33 g34 g35 g36 g37 g38 g39 gi40 g41 g42 gi43 g44 g45), (aIc cI g2 8 G2), (aIc cI g3 8 G3), (aIc cI g4 8 G4), (aIc cI g5 8 G5), (aIc cI g6 8 G6), (aIc cI g7 8 G7), (aIc cI g8 8 G8), (aIc cI g10 64 G10), (aIc cI g12 10 G12), (aIc cI g13 10 G13), (aIc cI g19 8 G19), (aIc cI g20 8 G20), (aIc cI g21 8 G21), (aIc cI g22 8 G22), (aIc cI g23 8 G23), (aIc cI g24 8 G24), (aIc cI g25 8 G25), (aIc cI g26 8 G26), (aIc cI g27 8 G27), (aIc cI g28 8 G28), (aIc cI g33 8 G33), (aIc cI g34 8 G34), (aIc cI g35 8 G35), (aIc cI g36 8 G36), (aJc cJ g37 8 G37)]) (cQi D (fun r u => ∃ (G19p G20p G21p G22p G23p G24p G25p G26p G27p G28p G33p G34p G35p G36p : Nat → Int32) (G37p : Nat → Int64) (gi29p gi30p gi18p : Int32) (mvp ttp : Nat) (gi0p : Int32), (LE G19p) ∧ (LO G20p) ∧ (LW G25p) ∧ (SH G27p ttp) ∧ (ttp ≤ 1000000) ∧ (mvp ≤ 8) ∧ u = [(oX8 g gi0p (nI mn) g2 g3 g4 g5 g6 g7 g8 g9 g10 (nI ml) g12 g13 gi14 g15 g16 g17 gi18p g19 g20 g21 g22 g23 g24 g25 g26 g27 g28 gi29p gi30p (nI mvp) (nI ttp) g33 g34 g35 g36 g37 g38 g39 gi40 g41 g42 gi43 g44 g45), (aIc cI g2 8 G2), (aIc cI g3 8 G3), (aIc cI g4 8 G4), (aIc cI g5 8 G5), (aIc cI g6 8 G6), (aIc cI g7 8 G7), (aIc cI g8 8 G8), (aIc cI g10 64 G10), (aIc cI g12 10 G12), (aIc cI g13 10 G13), (aIc cI g19 8 G19p), (aIc cI g20 8 G20p), (aIc cI g21 8 G21p), (aIc cI g22 8 G22p), (aIc cI g23 8 G23p), (aIc cI g24 8 G24p), (aIc cI g25 8 G25p), (aIc cI g26 8 G26p), (aIc cI g27 8 G27p), (aIc cI g28 8 G28p), (aIc cI g33 8 G33p), (aIc cI g34 8 G34p), (aIc cI g35 8 G35p), (aIc cI g36 8 G36p), (aJc cJ g37 8 G37p)]) (va_A [(oX8 g gi0 (nI mn) g2 g3 g4 g5 g6 g7 g8 g9 g10 (nI ml) g12 g13 gi14 g15 g16 g17 gi18 g19 g20 g21 g22 g23 g24 g25 g26 g27 g28 gi29 gi30 (nI mv) (nI tt) g33 g34 g35 g36 g37 g38 g39 gi40 g41 g42 gi43 g44 g45), (aIc cI g2 8 G2), (aIc cI g3 8 G3), (aIc cI g4 8 G4), (aIc cI g5 8 G5), (aIc cI g6 8 G6), (aIc cI g7 8 G7), (aIc cI g8 8 G8), (aIc cI g10 64 G10), (aIc cI g12 10 G12), (aIc cI g13 10 G13), (aIc cI g19 8 G19), (aIc cI g20 8 G20), (aIc cI g21 8 G21), (aIc cI g22 8 G22), (aIc cI g23 8 G23), (aIc cI g24 8 G24), (aIc cI g25 8 G25), (aIc cI g26 8 G26), (aIc cI g27 8 G27), (aIc cI g28 8 G28), (aIc cI g33 8 G33), (aIc cI g34 8 G34), (aIc cI g35 8 G35), (aIc cI g36 8 G36), (aJc cJ g37 8 G37)] sz)) 0 0 (va_A [(oX8 g gi0 (nI mn) g2 g3 g4 g5 g6 g7 g8 g9 g10 (nI ml) g12 g13 gi14 g15 g16 g17 gi18 g19 g20 g21 g22 g23 g24 g25 g26 g27 g28 gi29 gi30 (nI mv) (nI tt) g33 g34 g35 g36 g37 g38 g39 gi40 g41 g42 gi43 g44 g45), (aIc cI g2 8 G2), (aIc cI g3 8 G3), (aIc cI g4 8 G4), (aIc cI g5 8 G5), (aIc cI g6 8 G6), (aIc cI g7 8 G7), (aIc cI g8 8 G8), (aIc cI g10 64 G10), (aIc cI g12 10 G12), (aIc cI g13 10 G13), (aIc cI g19 8 G19), (aIc cI g20 8 G20), (aIc cI g21 8 G21), (aIc cI g22 8 G22), (aIc cI g23 8 G23), (aIc cI g24 8 G24), (aIc cI g25 8 G25), (aIc cI g26 8 G26), (aIc cI g27 8 G27), (aIc cI g28 8 G28), (aIc cI g33 8 G33), (aIc cI g34 8 G34), (aIc cI g35 8 G35), (aIc cI g36 8 G36), (aJc cJ g37 8 G37)] sz) := by
  refine k_ofW (Qc := cQi D (fun r u => ∃ (G19p G20p G21p G22p G23p G24p G25p G26p G27p G28p G33p G34p G35p G36p : Nat → Int32) (G37p : Nat → Int64) (gi29p gi30p gi18p : Int32) (mvp ttp : Nat) (gi0p : Int32), (LE G19p) ∧ (LO G20p) ∧ (LW G25p) ∧ (SH G27p ttp) ∧ (ttp ≤ 1000000) ∧ (mvp ≤ 8) ∧ u = [(oX8 g gi0p (nI mn) g2 g3 g4 g5 g6 g7 g8 g9 g10 (nI ml) g12 g13 gi14 g15 g16 g17 gi18p g19 g20 g21 g22 g23 g24 g25 g26 g27 g28 gi29p gi30p (nI mvp) (nI ttp) g33 g34 g35 g36 g37 g38 g39 gi40 g41 g42 gi43 g44 g45), (aIc cI g2 8 G2), (aIc cI g3 8 G3), (aIc cI g4 8 G4), (aIc cI g5 8 G5), (aIc cI g6 8 G6), (aIc cI g7 8 G7), (aIc cI g8 8 G8), (aIc cI g10 64 G10), (aIc cI g12 10 G12), (aIc cI g13 10 G13), (aIc cI g19 8 G19p), (aIc cI g20 8 G20p), (aIc cI g21 8 G21p), (aIc cI g22 8 G22p), (aIc cI g23 8 G23p), (aIc cI g24 8 G24p), (aIc cI g25 8 G25p), (aIc cI g26 8 G26p), (aIc cI g27 8 G27p), (aIc cI g28 8 G28p), (aIc cI g33 8 G33p), (aIc cI g34 8 G34p), (aIc cI g35 8 G35p), (aIc cI g36 8 G36p), (aJc cJ g37 8 G37p)])) (by decide) rfl (Nat.le_of_ble_eq_true rfl) ?_
  intro p e s m below meth c A ls hx hb hr hml hts hown hlk hnm hsz hE hP hD hS hA hl
  have hown : s.vm.findClass RX8 = some m.cls := hown
  have hiX8 : ∀ w ∈ u_ws RX8 TX8 46, w ∈ wtX8_other := fun w h => List.mem_cons_of_mem _ (iuX8 w h)
  have hl : lv_has ls 3 [(0, .ref g), (1, .int p0), (2, .int p1)] := hl
  refine lv_aload_n hx hb dX8_other_0 rfl (lv_at hl 0 rfl) ?_
  refine lv_iload_n hx hb dX8_other_1 rfl (lv_at hl 1 rfl) ?_
  refine lv_iload_n hx hb dX8_other_2 rfl (lv_at hl 2 rfl) ?_
  refine k_i (va_runV (As := [.int p0, .int p1]) (rest := []) ⟨hx, hb, hml, hown, hts⟩ (m_X8_isBoth l D cI cJ (s.heap).size g g2 g3 g4 g5 g6 g7 g8 g9 g10 g12 g13 g15 g16 g17 g19 g20 g21 g22 g23 g24 g25 g26 g27 g28 g33 g34 g35 g36 g37 g38 g39 g41 g42 g44 g45 mn ml mv tt gi0 gi14 gi18 gi29 gi30 gi40 gi43 p0 p1 G2 G3 G4 G5 G6 G7 G8 G10 G12 G13 G19 G20 G21 G22 G23 G24 G25 G26 G27 G28 G33 G34 G35 G36 G37 li0 wo0 de0 ag0 hmn hmL hit hsu hliv hlib hwov hwob hdev hdeb hagv hagb hamt hLE hLO hLW hSH htt hmv) (cwV 2 hts gX8_other_X8_isBoth rfl rfl rfl (by decide +kernel) ⟨Nat.le_of_ble_eq_true rfl, Nat.le_of_ble_eq_true rfl⟩) (k_preV hE hP hD [0, 1, 2, 3, 4, 5, 6, 7, 8, 9, 10, 11, 12, 13, 14, 15, 16, 17, 18, 19, 20, 21, 22, 23, 24, 25] (by decide +kernel) rfl 0 rfl rfl) rfl rfl hl.1 rfl (lv_room (Nat.le_of_ble_eq_true rfl)) dX8_other_3 ⟨Nat.le_of_ble_eq_true rfl, Nat.le_of_ble_eq_true rfl⟩) hP hD hS hA [0, 1, 2, 3, 4, 5, 6, 7, 8, 9, 10, 11, 12, 13, 14, 15, 16, 17, 18, 19, 20, 21, 22, 23, 24, 25] [] rfl (wr := []) rfl (by decide +kernel) (by decide +kernel) (fun r1 u H locs hw2 hP hD hS => ?_)
  obtain ⟨z3, z4, z5, z6, z7, z8, z9, z10, z11, z12, z13, z14, z15, z16, z17, z18, z19, z20, z21, z22, z23, hz24, hz25, hz26, hz27, hz28, hz29, hz30, rfl⟩ := hw2
  refine k_re (w := [(oX8 g z23 (nI mn) g2 g3 g4 g5 g6 g7 g8 g9 g10 (nI ml) g12 g13 gi14 g15 g16 g17 z20 g19 g20 g21 g22 g23 g24 g25 g26 g27 g28 z18 z19 (nI z21) (nI z22) g33 g34 g35 g36 g37 g38 g39 gi40 g41 g42 gi43 g44 g45), (aIc cI g2 8 G2), (aIc cI g3 8 G3), (aIc cI g4 8 G4), (aIc cI g5 8 G5), (aIc cI g6 8 G6), (aIc cI g7 8 G7), (aIc cI g8 8 G8), (aIc cI g10 64 G10), (aIc cI g12 10 G12), (aIc cI g13 10 G13), (aIc cI g19 8 z3), (aIc cI g20 8 z4), (aIc cI g21 8 z5), (aIc cI g22 8 z6), (aIc cI g23 8 z7), (aIc cI g24 8 z8), (aIc cI g25 8 z9), (aIc cI g26 8 z10), (aIc cI g27 8 z11), (aIc cI g28 8 z12), (aIc cI g33 8 z13), (aIc cI g34 8 z14), (aIc cI g35 8 z15), (aIc cI g36 8 z16), (aJc cJ g37 8 z17)]) hP hD (fun hP hD => ?_)
  refine lv_if_ne (tgt := 11) hx hb dX8_other_6 (by decide) (fun c31 => ?_) (fun c31 => ?_)
  · skip
    obtain ⟨_, hbl, hbp⟩ := hz30.resolve_left c31
    obtain ⟨lj, hlj, elj⟩ := wi_n (by omega) hbl
    rw [elj] at hl
    obtain ⟨pj, hpj, epj⟩ := wi_n (by omega) hbp
    rw [epj] at hl
    refine lv_aload_n hx hb dX8_other_11 rfl (lv_at hl 0 rfl) ?_
    refine lv_iconst (v := 1) hx hb dX8_other_12 (by decide) ?_
    refine lv_aload_n hx hb dX8_other_13 rfl (lv_at hl 0 rfl) ?_
    refine va_get (D := D) (ci := 8) (v := .int gi14) (C := RX8) (T := TX8) (N := 46) hx hb hts hiX8 hown hE.1 hP 0 rfl rfl 14 (by decide) (hts _ (List.mem_cons_of_mem _ wd_269)) (fun _ h9 => h9) rfl dX8_other_14 ?_
    refine lv_isub hx hb dX8_other_17 ?_
    refine lv_topi (fun v32 ev32 => ?_)
    refine va_put (D := D) (ci := 8) (v := .int v32) (ty := .int) (C := RX8) (T := TX8) (N := 46) hx hb hts hiX8 tyX8 tyX8_ok nmX8 hown hE.1 hP hD hS 0 rfl rfl 14 (by decide) (hts _ (List.mem_cons_of_mem _ wd_269)) (fun _ h9 => h9) rfl (by decide +kernel) rfl rfl (Nat.le_of_ble_eq_true rfl) dX8_other_18 (fun H locs hP hD hS => ?_)
    refine k_re (w := [(oX8 g z23 (nI mn) g2 g3 g4 g5 g6 g7 g8 g9 g10 (nI ml) g12 g13 v32 g15 g16 g17 z20 g19 g20 g21 g22 g23 g24 g25 g26 g27 g28 z18 z19 (nI z21) (nI z22) g33 g34 g35 g36 g37 g38 g39 gi40 g41 g42 gi43 g44 g45), (aIc cI g2 8 G2), (aIc cI g3 8 G3), (aIc cI g4 8 G4), (aIc cI g5 8 G5), (aIc cI g6 8 G6), (aIc cI g7 8 G7), (aIc cI g8 8 G8), (aIc cI g10 64 G10), (aIc cI g12 10 G12), (aIc cI g13 10 G13), (aIc cI g19 8 z3), (aIc cI g20 8 z4), (aIc cI g21 8 z5), (aIc cI g22 8 z6), (aIc cI g23 8 z7), (aIc cI g24 8 z8), (aIc cI g25 8 z9), (aIc cI g26 8 z10), (aIc cI g27 8 z11), (aIc cI g28 8 z12), (aIc cI g33 8 z13), (aIc cI g34 8 z14), (aIc cI g35 8 z15), (aIc cI g36 8 z16), (aJc cJ g37 8 z17)]) hP hD (fun hP hD => ?_)
    refine lv_aload_n hx hb dX8_other_21 rfl (lv_at hl 0 rfl) ?_
    refine lv_iload_n hx hb dX8_other_22 rfl (lv_at hl 1 rfl) ?_
    refine lv_aload_n hx hb dX8_other_23 rfl (lv_at hl 0 rfl) ?_
    refine k_iS (va_runV (As := []) (rest := [.int (nI lj), .ref g]) ⟨hx, hb, hml, hown, hts⟩ (m_X8_all l D cI cJ H.size g g2 g3 g4 g5 g6 g7 g8 g9 g10 g12 g13 g15 g16 g17 g19 g20 g21 g22 g23 g24 g25 g26 g27 g28 g33 g34 g35 g36 g37 g38 g39 g41 g42 g44 g45 mn ml z21 z23 v32 z20 z18 z19 (nI z22) gi40 gi43 hmn) (cwV 0 hts gX8_other_X8_all rfl rfl rfl (by decide +kernel) ⟨Nat.le_of_ble_eq_true rfl, Nat.le_of_ble_eq_true rfl⟩) (k_preV hE hP hD [0] (by decide +kernel) rfl 0 rfl rfl) rfl rfl hl.1 rfl (lv_room (Nat.le_of_ble_eq_true rfl)) dX8_other_24 ⟨Nat.le_of_ble_eq_true rfl, Nat.le_of_ble_eq_true rfl⟩) hP hD hS hA [0] rfl (fun _ _ ⟨_, h9⟩ => h9) (fun r33 H locs hw34 hP hD hS => ?_)
    obtain ⟨rfl, -⟩ := hw34
    refine k_v (va_runV (As := [.int (nI lj), .int (nI (2 ^ mn - 1))]) (rest := []) ⟨hx, hb, hml, hown, hts⟩ (m_X8_settlesTo l D cI cJ H.size g g2 g3 g4 g5 g6 g7 g8 g9 g10 g12 g13 g15 g16 g17 g19 g20 g21 g22 g23 g24 g25 g26 g27 g28 g33 g34 g35 g36 g37 g38 g39 g41 g42 g44 g45 mn ml z21 z22 (lj + 1) z23 v32 z20 z18 z19 gi40 gi43 (nI lj) (nI (2 ^ mn - 1)) G2 G3 G4 G5 G6 G7 G8 G10 G12 G13 z3 z4 z5 z6 z7 z8 z9 z10 z11 z12 z13 z14 z15 z16 z17 li0 wo0 de0 ag0 (nI_pred lj).symm (by omega) hit hsu hliv hlib hwov hwob hdev hdeb hagv hagb hamt hz24 hz25 hz26 hz27 hz28 hz29) (cwV 2 hts gX8_other_X8_settlesTo rfl rfl rfl (by decide +kernel) ⟨Nat.le_of_ble_eq_true rfl, Nat.le_of_ble_eq_true rfl⟩) (k_preV hE hP hD [0, 1, 2, 3, 4, 5, 6, 7, 8, 9, 10, 11, 12, 13, 14, 15, 16, 17, 18, 19, 20, 21, 22, 23, 24, 25] (by decide +kernel) rfl 0 rfl rfl) rfl rfl hl.1 rfl (lv_room (Nat.le_of_ble_eq_true rfl)) dX8_other_27 ⟨Nat.le_of_ble_eq_true rfl, Nat.le_of_ble_eq_true rfl⟩) hP hD hS hA [0, 1, 2, 3, 4, 5, 6, 7, 8, 9, 10, 11, 12, 13, 14, 15, 16, 17, 18, 19, 20, 21, 22, 23, 24, 25] [] rfl (wr := []) rfl (by decide +kernel) (by decide +kernel) (fun u H locs hw35 hP hD hS => ?_)
    obtain ⟨z36, z37, z38, z39, z40, z41, z42, z43, z44, z45, z46, z47, z48, z49, z50, z51, z52, z53, z54, z55, hz56, hz57, hz58, hz59, hz60, hz61, hz62, rfl⟩ := hw35
    refine k_re (w := [(oX8 g z23 (nI mn) g2 g3 g4 g5 g6 g7 g8 g9 g10 (nI ml) g12 g13 v32 g15 g16 g17 z53 g19 g20 g21 g22 g23 g24 g25 g26 g27 g28 z51 z52 (nI z54) (nI z55) g33 g34 g35 g36 g37 g38 g39 gi40 g41 g42 gi43 g44 g45), (aIc cI g2 8 G2), (aIc cI g3 8 G3), (aIc cI g4 8 G4), (aIc cI g5 8 G5), (aIc cI g6 8 G6), (aIc cI g7 8 G7), (aIc cI g8 8 G8), (aIc cI g10 64 G10), (aIc cI g12 10 G12), (aIc cI g13 10 G13), (aIc cI g19 8 z36), (aIc cI g20 8 z37), (aIc cI g21 8 z38), (aIc cI g22 8 z39), (aIc cI g23 8 z40), (aIc cI g24 8 z41), (aIc cI g25 8 z42), (aIc cI g26 8 z43), (aIc cI g27 8 z44), (aIc cI g28 8 z45), (aIc cI g33 8 z46), (aIc cI g34 8 z47), (aIc cI g35 8 z48), (aIc cI g36 8 z49), (aJc cJ g37 8 z50)]) hP hD (fun hP hD => ?_)
    refine lv_aload_n hx hb dX8_other_30 rfl (lv_at hl 0 rfl) ?_
    refine lv_iconst (v := 1) hx hb dX8_other_31 (by decide) ?_
    refine lv_aload_n hx hb dX8_other_32 rfl (lv_at hl 0 rfl) ?_
    refine va_get (D := D) (ci := 8) (v := .int v32) (C := RX8) (T := TX8) (N := 46) hx hb hts hiX8 hown hE.1 hP 0 rfl rfl 14 (by decide) (hts _ (List.mem_cons_of_mem _ wd_269)) (fun _ h9 => h9) rfl dX8_other_33 ?_
    refine lv_isub hx hb dX8_other_36 ?_
    refine lv_topi (fun v63 ev63 => ?_)
    have eg : v63 = gi14 := by rw [ev63, ev32]; exact r11 _
    rw [eg]
    refine va_put (D := D) (ci := 8) (v := .int gi14) (ty := .int) (C := RX8) (T := TX8) (N := 46) hx hb hts hiX8 tyX8 tyX8_ok nmX8 hown hE.1 hP hD hS 0 rfl rfl 14 (by decide) (hts _ (List.mem_cons_of_mem _ wd_269)) (fun _ h9 => h9) rfl (by decide +kernel) rfl rfl (Nat.le_of_ble_eq_true rfl) dX8_other_37 (fun H locs hP hD hS => ?_)
    refine k_re (w := [(oX8 g z23 (nI mn) g2 g3 g4 g5 g6 g7 g8 g9 g10 (nI ml) g12 g13 gi14 g15 g16 g17 z53 g19 g20 g21 g22 g23 g24 g25 g26 g27 g28 z51 z52 (nI z54) (nI z55) g33 g34 g35 g36 g37 g38 g39 gi40 g41 g42 gi43 g44 g45), (aIc cI g2 8 G2), (aIc cI g3 8 G3), (aIc cI g4 8 G4), (aIc cI g5 8 G5), (aIc cI g6 8 G6), (aIc cI g7 8 G7), (aIc cI g8 8 G8), (aIc cI g10 64 G10), (aIc cI g12 10 G12), (aIc cI g13 10 G13), (aIc cI g19 8 z36), (aIc cI g20 8 z37), (aIc cI g21 8 z38), (aIc cI g22 8 z39), (aIc cI g23 8 z40), (aIc cI g24 8 z41), (aIc cI g25 8 z42), (aIc cI g26 8 z43), (aIc cI g27 8 z44), (aIc cI g28 8 z45), (aIc cI g33 8 z46), (aIc cI g34 8 z47), (aIc cI g35 8 z48), (aIc cI g36 8 z49), (aJc cJ g37 8 z50)]) hP hD (fun hP hD => ?_)
    refine lv_aload_n hx hb dX8_other_40 rfl (lv_at hl 0 rfl) ?_
    refine va_get (D := D) (ci := 8) (v := .ref g27) (C := RX8) (T := TX8) (N := 46) hx hb hts hiX8 hown hE.1 hP 0 rfl rfl 27 (by decide) (hts _ (List.mem_cons_of_mem _ wd_138)) (fun _ h9 => h9) rfl dX8_other_41 ?_
    refine lv_iload_n hx hb dX8_other_44 rfl (lv_at hl 2 rfl) ?_
    refine va_iald hx hb hE.1 hP 19 0 rfl rfl (vp_in_nI (n := pj) (by omega) (by decide)) dX8_other_45 ?_
    refine lv_topi (fun v64 ev64 => ?_)
    refine k_iret (u := [(oX8 g z23 (nI mn) g2 g3 g4 g5 g6 g7 g8 g9 g10 (nI ml) g12 g13 gi14 g15 g16 g17 z53 g19 g20 g21 g22 g23 g24 g25 g26 g27 g28 z51 z52 (nI z54) (nI z55) g33 g34 g35 g36 g37 g38 g39 gi40 g41 g42 gi43 g44 g45), (aIc cI g2 8 G2), (aIc cI g3 8 G3), (aIc cI g4 8 G4), (aIc cI g5 8 G5), (aIc cI g6 8 G6), (aIc cI g7 8 G7), (aIc cI g8 8 G8), (aIc cI g10 64 G10), (aIc cI g12 10 G12), (aIc cI g13 10 G13), (aIc cI g19 8 z36), (aIc cI g20 8 z37), (aIc cI g21 8 z38), (aIc cI g22 8 z39), (aIc cI g23 8 z40), (aIc cI g24 8 z41), (aIc cI g25 8 z42), (aIc cI g26 8 z43), (aIc cI g27 8 z44), (aIc cI g28 8 z45), (aIc cI g33 8 z46), (aIc cI g34 8 z47), (aIc cI g35 8 z48), (aIc cI g36 8 z49), (aJc cJ g37 8 z50)]) hx hb hr hlk hP hD hS dX8_other_46 ?_
    exact ⟨z36, z37, z38, z39, z40, z41, z42, z43, z44, z45, z46, z47, z48, z49, z50, z51, z52, z53, z54, z55, z23, hz56, hz57, hz58, hz59, hz60, hz61, rfl⟩
  · skip
    refine lv_iconst (v := (-1)) hx hb dX8_other_9 (by decide) ?_
    refine k_iret (u := [(oX8 g z23 (nI mn) g2 g3 g4 g5 g6 g7 g8 g9 g10 (nI ml) g12 g13 gi14 g15 g16 g17 z20 g19 g20 g21 g22 g23 g24 g25 g26 g27 g28 z18 z19 (nI z21) (nI z22) g33 g34 g35 g36 g37 g38 g39 gi40 g41 g42 gi43 g44 g45), (aIc cI g2 8 G2), (aIc cI g3 8 G3), (aIc cI g4 8 G4), (aIc cI g5 8 G5), (aIc cI g6 8 G6), (aIc cI g7 8 G7), (aIc cI g8 8 G8), (aIc cI g10 64 G10), (aIc cI g12 10 G12), (aIc cI g13 10 G13), (aIc cI g19 8 z3), (aIc cI g20 8 z4), (aIc cI g21 8 z5), (aIc cI g22 8 z6), (aIc cI g23 8 z7), (aIc cI g24 8 z8), (aIc cI g25 8 z9), (aIc cI g26 8 z10), (aIc cI g27 8 z11), (aIc cI g28 8 z12), (aIc cI g33 8 z13), (aIc cI g34 8 z14), (aIc cI g35 8 z15), (aIc cI g36 8 z16), (aJc cJ g37 8 z17)]) hx hb hr hlk hP hD hS dX8_other_10 ?_
    exact ⟨z3, z4, z5, z6, z7, z8, z9, z10, z11, z12, z13, z14, z15, z16, z17, z18, z19, z20, z21, z22, z23, hz24, hz25, hz26, hz27, hz28, hz29, rfl⟩

