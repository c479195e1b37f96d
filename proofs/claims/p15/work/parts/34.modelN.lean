theorem dX8_of_0 : decode cX8_of 0 = .ok (.aload_n 0, 1) := by decide +kernel
theorem dX8_of_1 : decode cX8_of 1 = .ok (.aload_n 0, 1) := by decide +kernel
theorem dX8_of_2 : decode cX8_of 2 = .ok (.iload_n 1, 1) := by decide +kernel
theorem dX8_of_3 : decode cX8_of 3 = .ok (.invokevirtual 140, 3) := by decide +kernel
theorem dX8_of_6 : decode cX8_of 6 = .ok (.ifCond .eq 33, 3) := by decide +kernel
theorem dX8_of_9 : decode cX8_of 9 = .ok (.iload_n 2, 1) := by decide +kernel
theorem dX8_of_10 : decode cX8_of 10 = .ok (.i2l, 1) := by decide +kernel
theorem dX8_of_11 : decode cX8_of 11 = .ok (.lconst 0, 1) := by decide +kernel
theorem dX8_of_12 : decode cX8_of 12 = .ok (.ldc2_w 237, 3) := by decide +kernel
theorem dX8_of_15 : decode cX8_of 15 = .ok (.invokestatic 123, 3) := by decide +kernel
theorem dX8_of_18 : decode cX8_of 18 = .ok (.ifCond .ne 17, 3) := by decide +kernel
theorem dX8_of_21 : decode cX8_of 21 = .ok (.iload_n 2, 1) := by decide +kernel
theorem dX8_of_22 : decode cX8_of 22 = .ok (.i2l, 1) := by decide +kernel
theorem dX8_of_23 : decode cX8_of 23 = .ok (.ldc2_w 239, 3) := by decide +kernel
theorem dX8_of_26 : decode cX8_of 26 = .ok (.ldc2_w 241, 3) := by decide +kernel
theorem dX8_of_29 : decode cX8_of 29 = .ok (.invokestatic 123, 3) := by decide +kernel
theorem dX8_of_32 : decode cX8_of 32 = .ok (.ifCond .eq 7, 3) := by decide +kernel
theorem dX8_of_35 : decode cX8_of 35 = .ok (.iconst 0, 1) := by decide +kernel
theorem dX8_of_36 : decode cX8_of 36 = .ok (.goto 4, 3) := by decide +kernel
theorem dX8_of_39 : decode cX8_of 39 = .ok (.iconst 1, 1) := by decide +kernel
theorem dX8_of_40 : decode cX8_of 40 = .ok (.putfield 116, 3) := by decide +kernel
theorem dX8_of_43 : decode cX8_of 43 = .ok (.aload_n 0, 1) := by decide +kernel
theorem dX8_of_44 : decode cX8_of 44 = .ok (.getfield 116, 3) := by decide +kernel
theorem dX8_of_47 : decode cX8_of 47 = .ok (.ifCond .le 5, 3) := by decide +kernel
theorem dX8_of_50 : decode cX8_of 50 = .ok (.iconst 0, 1) := by decide +kernel
theorem dX8_of_51 : decode cX8_of 51 = .ok (.ireturn, 1) := by decide +kernel
theorem dX8_of_52 : decode cX8_of 52 = .ok (.aload_n 0, 1) := by decide +kernel
theorem dX8_of_53 : decode cX8_of 53 = .ok (.aload_n 0, 1) := by decide +kernel
theorem dX8_of_54 : decode cX8_of 54 = .ok (.getfield 127, 3) := by decide +kernel
theorem dX8_of_57 : decode cX8_of 57 = .ok (.iconst 1, 1) := by decide +kernel
theorem dX8_of_58 : decode cX8_of 58 = .ok (.isub, 1) := by decide +kernel
theorem dX8_of_59 : decode cX8_of 59 = .ok (.aload_n 0, 1) := by decide +kernel
theorem dX8_of_60 : decode cX8_of 60 = .ok (.invokevirtual 220, 3) := by decide +kernel
theorem dX8_of_63 : decode cX8_of 63 = .ok (.invokevirtual 224, 3) := by decide +kernel
theorem dX8_of_66 : decode cX8_of 66 = .ok (.iload_n 2, 1) := by decide +kernel
theorem dX8_of_67 : decode cX8_of 67 = .ok (.tableswitch 140 0 10 #[57, 64, 71, 78, 85, 92, 99, 106, 120, 127, 134], 57) := by decide +kernel
theorem dX8_of_124 : decode cX8_of 124 = .ok (.aload_n 0, 1) := by decide +kernel
theorem dX8_of_125 : decode cX8_of 125 = .ok (.getfield 7, 3) := by decide +kernel
theorem dX8_of_128 : decode cX8_of 128 = .ok (.iload_n 1, 1) := by decide +kernel
theorem dX8_of_129 : decode cX8_of 129 = .ok (.iaload, 1) := by decide +kernel
theorem dX8_of_130 : decode cX8_of 130 = .ok (.ireturn, 1) := by decide +kernel
theorem dX8_of_131 : decode cX8_of 131 = .ok (.aload_n 0, 1) := by decide +kernel
theorem dX8_of_132 : decode cX8_of 132 = .ok (.getfield 13, 3) := by decide +kernel
theorem dX8_of_135 : decode cX8_of 135 = .ok (.iload_n 1, 1) := by decide +kernel
theorem dX8_of_136 : decode cX8_of 136 = .ok (.iaload, 1) := by decide +kernel
theorem dX8_of_137 : decode cX8_of 137 = .ok (.ireturn, 1) := by decide +kernel
theorem dX8_of_138 : decode cX8_of 138 = .ok (.aload_n 0, 1) := by decide +kernel
theorem dX8_of_139 : decode cX8_of 139 = .ok (.getfield 16, 3) := by decide +kernel
theorem dX8_of_142 : decode cX8_of 142 = .ok (.iload_n 1, 1) := by decide +kernel
theorem dX8_of_143 : decode cX8_of 143 = .ok (.iaload, 1) := by decide +kernel
theorem dX8_of_144 : decode cX8_of 144 = .ok (.ireturn, 1) := by decide +kernel
theorem dX8_of_145 : decode cX8_of 145 = .ok (.aload_n 0, 1) := by decide +kernel
theorem dX8_of_146 : decode cX8_of 146 = .ok (.getfield 19, 3) := by decide +kernel
theorem dX8_of_149 : decode cX8_of 149 = .ok (.iload_n 1, 1) := by decide +kernel
theorem dX8_of_150 : decode cX8_of 150 = .ok (.iaload, 1) := by decide +kernel
theorem dX8_of_151 : decode cX8_of 151 = .ok (.ireturn, 1) := by decide +kernel
theorem dX8_of_152 : decode cX8_of 152 = .ok (.aload_n 0, 1) := by decide +kernel
theorem dX8_of_153 : decode cX8_of 153 = .ok (.getfield 22, 3) := by decide +kernel
theorem dX8_of_156 : decode cX8_of 156 = .ok (.iload_n 1, 1) := by decide +kernel
theorem dX8_of_157 : decode cX8_of 157 = .ok (.iaload, 1) := by decide +kernel
theorem dX8_of_158 : decode cX8_of 158 = .ok (.ireturn, 1) := by decide +kernel
theorem dX8_of_159 : decode cX8_of 159 = .ok (.aload_n 0, 1) := by decide +kernel
theorem dX8_of_160 : decode cX8_of 160 = .ok (.getfield 25, 3) := by decide +kernel
theorem dX8_of_163 : decode cX8_of 163 = .ok (.iload_n 1, 1) := by decide +kernel
theorem dX8_of_164 : decode cX8_of 164 = .ok (.iaload, 1) := by decide +kernel
theorem dX8_of_165 : decode cX8_of 165 = .ok (.ireturn, 1) := by decide +kernel
theorem dX8_of_166 : decode cX8_of 166 = .ok (.aload_n 0, 1) := by decide +kernel
theorem dX8_of_167 : decode cX8_of 167 = .ok (.getfield 28, 3) := by decide +kernel
theorem dX8_of_170 : decode cX8_of 170 = .ok (.iload_n 1, 1) := by decide +kernel
theorem dX8_of_171 : decode cX8_of 171 = .ok (.iaload, 1) := by decide +kernel
theorem dX8_of_172 : decode cX8_of 172 = .ok (.ireturn, 1) := by decide +kernel
theorem dX8_of_173 : decode cX8_of 173 = .ok (.aload_n 0, 1) := by decide +kernel
theorem dX8_of_174 : decode cX8_of 174 = .ok (.getfield 13, 3) := by decide +kernel
theorem dX8_of_177 : decode cX8_of 177 = .ok (.iload_n 1, 1) := by decide +kernel
theorem dX8_of_178 : decode cX8_of 178 = .ok (.iaload, 1) := by decide +kernel
theorem dX8_of_179 : decode cX8_of 179 = .ok (.aload_n 0, 1) := by decide +kernel
theorem dX8_of_180 : decode cX8_of 180 = .ok (.getfield 79, 3) := by decide +kernel
theorem dX8_of_183 : decode cX8_of 183 = .ok (.iload_n 1, 1) := by decide +kernel
theorem dX8_of_184 : decode cX8_of 184 = .ok (.iaload, 1) := by decide +kernel
theorem dX8_of_185 : decode cX8_of 185 = .ok (.isub, 1) := by decide +kernel
theorem dX8_of_186 : decode cX8_of 186 = .ok (.ireturn, 1) := by decide +kernel
theorem dX8_of_187 : decode cX8_of 187 = .ok (.aload_n 0, 1) := by decide +kernel
theorem dX8_of_188 : decode cX8_of 188 = .ok (.getfield 79, 3) := by decide +kernel
theorem dX8_of_191 : decode cX8_of 191 = .ok (.iload_n 1, 1) := by decide +kernel
theorem dX8_of_192 : decode cX8_of 192 = .ok (.iaload, 1) := by decide +kernel
theorem dX8_of_193 : decode cX8_of 193 = .ok (.ireturn, 1) := by decide +kernel
theorem dX8_of_194 : decode cX8_of 194 = .ok (.aload_n 0, 1) := by decide +kernel
theorem dX8_of_195 : decode cX8_of 195 = .ok (.getfield 31, 3) := by decide +kernel
theorem dX8_of_198 : decode cX8_of 198 = .ok (.iload_n 1, 1) := by decide +kernel
theorem dX8_of_199 : decode cX8_of 199 = .ok (.iaload, 1) := by decide +kernel
theorem dX8_of_200 : decode cX8_of 200 = .ok (.ireturn, 1) := by decide +kernel
theorem dX8_of_201 : decode cX8_of 201 = .ok (.aload_n 0, 1) := by decide +kernel
theorem dX8_of_202 : decode cX8_of 202 = .ok (.iload_n 1, 1) := by decide +kernel
theorem dX8_of_203 : decode cX8_of 203 = .ok (.invokevirtual 243, 3) := by decide +kernel
theorem dX8_of_206 : decode cX8_of 206 = .ok (.ireturn, 1) := by decide +kernel
theorem dX8_of_207 : decode cX8_of 207 = .ok (.aload_n 0, 1) := by decide +kernel
theorem dX8_of_208 : decode cX8_of 208 = .ok (.getfield 34, 3) := by decide +kernel
theorem dX8_of_211 : decode cX8_of 211 = .ok (.bipush 8, 2) := by decide +kernel
theorem dX8_of_213 : decode cX8_of 213 = .ok (.iload_n 1, 1) := by decide +kernel
theorem dX8_of_214 : decode cX8_of 214 = .ok (.imul, 1) := by decide +kernel
theorem dX8_of_215 : decode cX8_of 215 = .ok (.iload_n 2, 1) := by decide +kernel
theorem dX8_of_216 : decode cX8_of 216 = .ok (.iadd, 1) := by decide +kernel
theorem dX8_of_217 : decode cX8_of 217 = .ok (.bipush 20, 2) := by decide +kernel
theorem dX8_of_219 : decode cX8_of 219 = .ok (.isub, 1) := by decide +kernel
theorem dX8_of_220 : decode cX8_of 220 = .ok (.iaload, 1) := by decide +kernel
theorem dX8_of_221 : decode cX8_of 221 = .ok (.iconst 1, 1) := by decide +kernel
theorem dX8_of_222 : decode cX8_of 222 = .ok (.isub, 1) := by decide +kernel
theorem dX8_of_223 : decode cX8_of 223 = .ok (.ireturn, 1) := by decide +kernel
theorem gX8_of_X8_all : GoodIn wtX8_of (wsV RX8 220 RX8 yX8_all wtX8_all) := tb_good (tb_v0 wd_413 wd_414 wd_415 wd_5 wd_416)
theorem gX8_of_X8_in : GoodIn wtX8_of (va_wsS RX8 123 yX8_in wtX8_in) := tb_good (tb_s0 wd_177 wd_178 wd_5 wd_179)
theorem gX8_of_X8_isPolicy : GoodIn wtX8_of (wsV RX8 140 RX8 yX8_isPolicy wtX8_isPolicy) := tb_good (tb_v0 wd_198 wd_199 wd_200 wd_5 wd_201)
theorem gX8_of_X8_lastLoss : GoodIn wtX8_of (wsV RX8 243 RX8 yX8_lastLoss wtX8_lastLoss) := tb_good (tb_v0 wd_506 wd_507 wd_508 wd_5 wd_509)
theorem gX8_of_X8_settlesTo : GoodIn wtX8_of (wsV RX8 224 RX8 yX8_settlesTo wtX8_settlesTo) := tb_good (tb_v0 wd_482 wd_483 wd_484 wd_5 wd_485)
set_option maxHeartbeats 4000000 in
set_option maxRecDepth 100000 in
theorem m_X8_of (l : Launch) (D : va_G) (cI cJ : ClassId) (sz : Nat) (g g2 g3 g4 g5 g6 g7 g8 g9 g10 g12 g13 g15 g16 g17 g19 g20 g21 g22 g23 g24 g25 g26 g27 g28 g33 g34 g35 g36 g37 g38 g39 g41 g42 g44 g45 mn ml mv tt : Nat) (gi0 gi14 gi18 gi29 gi30 gi40 gi43 p0 p1 : Int32) (G2 G3 G4 G5 G6 G7 G8 G10 G12 G13 G19 G20 G21 G22 G23 G24 G25 G26 G27 G28 G33 G34 G35 G36 : Nat → Int32) (G37 : Nat → Int64) (G9 : Nat → Int32) (li0 wo0 de0 ag0 : Nat → Nat) (hmn : mn ≤ 8) (hmL : ml ≤ 10) (hit : ∀ k, k < 10 → ∃ j : Nat, j < 8 ∧ G12 k = nI j) (hsu : ∀ k, k < 64 → ∃ j : Nat, j ≤ 1000001 ∧ G10 k = nI j) (hliv : nv G2 li0) (hlib : ∀ k, k < 8 → li0 k ≤ 1000000) (hwov : nv G5 wo0) (hwob : ∀ k, k < 8 → wo0 k ≤ 9000000) (hdev : nv G4 de0) (hdeb : ∀ k, k < 8 → de0 k ≤ 99999) (hagv : nv G3 ag0) (hagb : ∀ k, k < 8 → ag0 k ≤ 9000000) (hamt : ∀ k, k < 10 → ∃ j : Nat, j < 1000001 ∧ G13 k = nI j) (hLE : LE G19) (hLO : LO G20) (hLW : LW G25) (hSH : SH G27 tt) (htt : tt ≤ 1000000) (hmv : mv ≤ 8) : Met l yX8_of wtX8_of { frames := 9, cells := 0, slots := 0, locals := 211 } (cPc D cI cJ [.ref g, .int p0, .int p1] sz [(oX8 g gi0 (nI mn) g2 g3 g4 g5 g6 g7 g8 g9 g10 (nI ml) g12 g13 gi14 g15 g16 g17 gi18 g19 g20 g21 g22 g23 g24 g25 g26 g27 g28 gi29 gi30 (nI mv) (nI tt) g33 g34 g35 g36 g37 g38 g39 gi40 g41 g42 gi43 g44 g45), (aIc cI g2 8 G2), (aIc cI g3 8 G3), (aIc cI g4 8 G4), (aIc cI g5 8 G5), (aIc cI g6 8 G6), (aIc cI g7 8 G7), (aIc cI g8 8 G8), (aIc cI g10 64 G10), (aIc cI g12 10 G12), (aIc cI g13 10 G13), (aIc cI g19 8 G19), (aIc cI g20 8 G20), (aIc cI g21 8 G21), (aIc cI g22 8 G22), (aIc cI g23 8 G23), (aIc cI g24 8 G24), (aIc cI g25 8 G25), (aIc cI g26 8 G26), (aIc cI g27 8 G27), (aIc cI g28 8 G28), (aIc cI g33 8 G33), (aIc cI g34 8 G34), (aIc cI g35 8 G35), (aIc cI g36 8 G36), (aJc cJ g37 8 G37), (aIc cI g9 8 G9)]) (cQi D (fun r u => ∃ (G19p G20p G21p G22p G23p G24p G25p G26p G27p G28p G33p G34p G35p G36p : Nat → Int32) (G37p : Nat → Int64) (gi29p gi30p gi18p : Int32) (mvp ttp : Nat) (gi0p : Int32), (LE G19p) ∧ (LO G20p) ∧ (LW G25p) ∧ (SH G27p ttp) ∧ (ttp ≤ 1000000) ∧ (mvp ≤ 8) ∧ u = [(oX8 g gi0p (nI mn) g2 g3 g4 g5 g6 g7 g8 g9 g10 (nI ml) g12 g13 gi14 g15 g16 g17 gi18p g19 g20 g21 g22 g23 g24 g25 g26 g27 g28 gi29p gi30p (nI mvp) (nI ttp) g33 g34 g35 g36 g37 g38 g39 gi40 g41 g42 gi43 g44 g45), (aIc cI g2 8 G2), (aIc cI g3 8 G3), (aIc cI g4 8 G4), (aIc cI g5 8 G5), (aIc cI g6 8 G6), (aIc cI g7 8 G7), (aIc cI g8 8 G8), (aIc cI g10 64 G10), (aIc cI g12 10 G12), (aIc cI g13 10 G13), (aIc cI g19 8 G19p), (aIc cI g20 8 G20p), (aIc cI g21 8 G21p), (aIc cI g22 8 G22p), (aIc cI g23 8 G23p), (aIc cI g24 8 G24p), (aIc cI g25 8 G25p), (aIc cI g26 8 G26p), (aIc cI g27 8 G27p), (aIc cI g28 8 G28p), (aIc cI g33 8 G33p), (aIc cI g34 8 G34p), (aIc cI g35 8 G35p), (aIc cI g36 8 G36p), (aJc cJ g37 8 G37p), (aIc cI g9 8 G9)]) (va_A [(oX8 g gi0 (nI mn) g2 g3 g4 g5 g6 g7 g8 g9 g10 (nI ml) g12 g13 gi14 g15 g16 g17 gi18 g19 g20 g21 g22 g23 g24 g25 g26 g27 g28 gi29 gi30 (nI mv) (nI tt) g33 g34 g35 g36 g37 g38 g39 gi40 g41 g42 gi43 g44 g45), (aIc cI g2 8 G2), (aIc cI g3 8 G3), (aIc cI g4 8 G4), (aIc cI g5 8 G5), (aIc cI g6 8 G6), (aIc cI g7 8 G7), (aIc cI g8 8 G8), (aIc cI g10 64 G10), (aIc cI g12 10 G12), (aIc cI g13 10 G13), (aIc cI g19 8 G19), (aIc cI g20 8 G20), (aIc cI g21 8 G21), (aIc cI g22 8 G22), (aIc cI g23 8 G23), (aIc cI g24 8 G24), (aIc cI g25 8 G25), (aIc cI g26 8 G26), (aIc cI g27 8 G27), (aIc cI g28 8 G28), (aIc cI g33 8 G33), (aIc cI g34 8 G34), (aIc cI g35 8 G35), (aIc cI g36 8 G36), (aJc cJ g37 8 G37), (aIc cI g9 8 G9)] sz)) 0 0 (va_A [(oX8 g gi0 (nI mn) g2 g3 g4 g5 g6 g7 g8 g9 g10 (nI ml) g12 g13 gi14 g15 g16 g17 gi18 g19 g20 g21 g22 g23 g24 g25 g26 g27 g28 gi29 gi30 (nI mv) (nI tt) g33 g34 g35 g36 g37 g38 g39 gi40 g41 g42 gi43 g44 g45), (aIc cI g2 8 G2), (aIc cI g3 8 G3), (aIc cI g4 8 G4), (aIc cI g5 8 G5), (aIc cI g6 8 G6), (aIc cI g7 8 G7), (aIc cI g8 8 G8), (aIc cI g10 64 G10), (aIc cI g12 10 G12), (aIc cI g13 10 G13), (aIc cI g19 8 G19), (aIc cI g20 8 G20), (aIc cI g21 8 G21), (aIc cI g22 8 G22), (aIc cI g23 8 G23), (aIc cI g24 8 G24), (aIc cI g25 8 G25), (aIc cI g26 8 G26), (aIc cI g27 8 G27), (aIc cI g28 8 G28), (aIc cI g33 8 G33), (aIc cI g34 8 G34), (aIc cI g35 8 G35), (aIc cI g36 8 G36), (aJc cJ g37 8 G37), (aIc cI g9 8 G9)] sz) := by
  refine k_ofW (Qc := cQi D (fun r u => ∃ (G19p G20p G21p G22p G23p G24p G25p G26p G27p G28p G33p G34p G35p G36p : Nat → Int32) (G37p : Nat → Int64) (gi29p gi30p gi18p : Int32) (mvp ttp : Nat) (gi0p : Int32), (LE G19p) ∧ (LO G20p) ∧ (LW G25p) ∧ (SH G27p ttp) ∧ (ttp ≤ 1000000) ∧ (mvp ≤ 8) ∧ u = [(oX8 g gi0p (nI mn) g2 g3 g4 g5 g6 g7 g8 g9 g10 (nI ml) g12 g13 gi14 g15 g16 g17 gi18p g19 g20 g21 g22 g23 g24 g25 g26 g27 g28 gi29p gi30p (nI mvp) (nI ttp) g33 g34 g35 g36 g37 g38 g39 gi40 g41 g42 gi43 g44 g45), (aIc cI g2 8 G2), (aIc cI g3 8 G3), (aIc cI g4 8 G4), (aIc cI g5 8 G5), (aIc cI g6 8 G6), (aIc cI g7 8 G7), (aIc cI g8 8 G8), (aIc cI g10 64 G10), (aIc cI g12 10 G12), (aIc cI g13 10 G13), (aIc cI g19 8 G19p), (aIc cI g20 8 G20p), (aIc cI g21 8 G21p), (aIc cI g22 8 G22p), (aIc cI g23 8 G23p), (aIc cI g24 8 G24p), (aIc cI g25 8 G25p), (aIc cI g26 8 G26p), (aIc cI g27 8 G27p), (aIc cI g28 8 G28p), (aIc cI g33 8 G33p), (aIc cI g34 8 G34p), (aIc cI g35 8 G35p), (aIc cI g36 8 G36p), (aJc cJ g37 8 G37p), (aIc cI g9 8 G9)])) (by decide) rfl (Nat.le_of_ble_eq_true rfl) ?_
  intro p e s m below meth c A ls hx hb hr hml hts hown hlk hnm hsz hE hP hD hS hA hl
  have hown : s.vm.findClass RX8 = some m.cls := hown
  have hiX8 : ∀ w ∈ u_ws RX8 TX8 46, w ∈ wtX8_of := fun w h => List.mem_cons_of_mem _ (iuX8 w h)
  have hl : lv_has ls 3 [(0, .ref g), (1, .int p0), (2, .int p1)] := hl
  refine lv_aload_n hx hb dX8_of_0 rfl (lv_at hl 0 rfl) ?_
  refine lv_aload_n hx hb dX8_of_1 rfl (lv_at hl 0 rfl) ?_
  refine lv_iload_n hx hb dX8_of_2 rfl (lv_at hl 1 rfl) ?_
  refine k_iS (va_runV (As := [.int p0]) (rest := [.ref g]) ⟨hx, hb, hml, hown, hts⟩ (m_X8_isPolicy l D cI cJ (s.heap).size g g2 g3 g4 g5 g6 g7 g8 g9 g10 g12 g13 g15 g16 g17 g19 g20 g21 g22 g23 g24 g25 g26 g27 g28 g33 g34 g35 g36 g37 g38 g39 g41 g42 g44 g45 mn ml mv gi0 gi14 gi18 gi29 gi30 (nI tt) gi40 gi43 p0) (cwV 1 hts gX8_of_X8_isPolicy rfl rfl rfl (by decide +kernel) ⟨Nat.le_of_ble_eq_true rfl, Nat.le_of_ble_eq_true rfl⟩) (k_preV hE hP hD [0] (by decide +kernel) rfl 0 rfl rfl) rfl rfl hl.1 rfl (lv_room (Nat.le_of_ble_eq_true rfl)) dX8_of_3 ⟨Nat.le_of_ble_eq_true rfl, Nat.le_of_ble_eq_true rfl⟩) hP hD hS hA [0] rfl (fun _ _ ⟨_, h9⟩ => h9) (fun r1 H locs hw2 hP hD hS => ?_)
  obtain ⟨hb3, -⟩ := hw2
  refine lv_if_eq (tgt := 39) hx hb dX8_of_6 (by decide) (fun c4 => ?_) (fun c4 => ?_)
  · skip
    have hc4 : ¬ (0 ≤ p0 ∧ p0 ≤ nI mn - 1) := bz_0 hb3 c4
    refine lv_iconst (v := 1) hx hb dX8_of_39 (by decide) ?_
    refine va_put (D := D) (ci := 8) (v := .int 1) (ty := .int) (C := RX8) (T := TX8) (N := 46) hx hb hts hiX8 tyX8 tyX8_ok nmX8 hown hE.1 hP hD hS 0 rfl rfl 0 (by decide) (hts _ (List.mem_cons_of_mem _ wd_171)) (fun _ h9 => h9) rfl (by decide +kernel) rfl rfl (Nat.le_of_ble_eq_true rfl) dX8_of_40 (fun H locs hP hD hS => ?_)
    refine k_re (w := [(oX8 g 1 (nI mn) g2 g3 g4 g5 g6 g7 g8 g9 g10 (nI ml) g12 g13 gi14 g15 g16 g17 gi18 g19 g20 g21 g22 g23 g24 g25 g26 g27 g28 gi29 gi30 (nI mv) (nI tt) g33 g34 g35 g36 g37 g38 g39 gi40 g41 g42 gi43 g44 g45), (aIc cI g2 8 G2), (aIc cI g3 8 G3), (aIc cI g4 8 G4), (aIc cI g5 8 G5), (aIc cI g6 8 G6), (aIc cI g7 8 G7), (aIc cI g8 8 G8), (aIc cI g10 64 G10), (aIc cI g12 10 G12), (aIc cI g13 10 G13), (aIc cI g19 8 G19), (aIc cI g20 8 G20), (aIc cI g21 8 G21), (aIc cI g22 8 G22), (aIc cI g23 8 G23), (aIc cI g24 8 G24), (aIc cI g25 8 G25), (aIc cI g26 8 G26), (aIc cI g27 8 G27), (aIc cI g28 8 G28), (aIc cI g33 8 G33), (aIc cI g34 8 G34), (aIc cI g35 8 G35), (aIc cI g36 8 G36), (aJc cJ g37 8 G37), (aIc cI g9 8 G9)]) hP hD (fun hP hD => ?_)
    refine lv_aload_n hx hb dX8_of_43 rfl (lv_at hl 0 rfl) ?_
    refine va_get (D := D) (ci := 8) (v := .int 1) (C := RX8) (T := TX8) (N := 46) hx hb hts hiX8 hown hE.1 hP 0 rfl rfl 0 (by decide) (hts _ (List.mem_cons_of_mem _ wd_171)) (fun _ h9 => h9) rfl dX8_of_44 ?_
    refine lv_if_le (tgt := 52) hx hb dX8_of_47 (by decide) (fun c5 => absurd c5 (by decide)) (fun _ => ?_)
    refine lv_iconst (v := 0) hx hb dX8_of_50 (by decide) ?_
    refine k_iret (u := [(oX8 g 1 (nI mn) g2 g3 g4 g5 g6 g7 g8 g9 g10 (nI ml) g12 g13 gi14 g15 g16 g17 gi18 g19 g20 g21 g22 g23 g24 g25 g26 g27 g28 gi29 gi30 (nI mv) (nI tt) g33 g34 g35 g36 g37 g38 g39 gi40 g41 g42 gi43 g44 g45), (aIc cI g2 8 G2), (aIc cI g3 8 G3), (aIc cI g4 8 G4), (aIc cI g5 8 G5), (aIc cI g6 8 G6), (aIc cI g7 8 G7), (aIc cI g8 8 G8), (aIc cI g10 64 G10), (aIc cI g12 10 G12), (aIc cI g13 10 G13), (aIc cI g19 8 G19), (aIc cI g20 8 G20), (aIc cI g21 8 G21), (aIc cI g22 8 G22), (aIc cI g23 8 G23), (aIc cI g24 8 G24), (aIc cI g25 8 G25), (aIc cI g26 8 G26), (aIc cI g27 8 G27), (aIc cI g28 8 G28), (aIc cI g33 8 G33), (aIc cI g34 8 G34), (aIc cI g35 8 G35), (aIc cI g36 8 G36), (aJc cJ g37 8 G37), (aIc cI g9 8 G9)]) hx hb hr hlk hP hD hS dX8_of_51 ?_
    exact ⟨G19, G20, G21, G22, G23, G24, G25, G26, G27, G28, G33, G34, G35, G36, G37, gi29, gi30, gi18, mv, tt, 1, hLE, hLO, hLW, hSH, htt, hmv, rfl⟩
  · skip
    have hc4 : 0 ≤ p0 ∧ p0 ≤ nI mn - 1 := bz_1 hb3 c4
    refine lv_iload_n hx hb dX8_of_9 rfl (lv_at hl 2 rfl) ?_
    refine lv_i2l hx hb dX8_of_10 rfl ?_
    refine lv_lconst (v := 0) hx hb dX8_of_11 (by decide) ?_
    refine lv_ldc2 (v := 10) hx hb hown (hts _ (List.mem_cons_of_mem _ wd_503)) dX8_of_12 ?_
    refine k_iS (va_runS (As := [.long (Int32.toInt64 p1), .long 0, .long 10]) (rest := [.ref g]) ⟨hx, hb, hml, hown, hts⟩ (m_X8_in l D cI cJ H.size (Int32.toInt64 p1) 0 10) (va_cwS 3 hts gX8_of_X8_in rfl rfl rfl (by decide +kernel) ⟨Nat.le_of_ble_eq_true rfl, Nat.le_of_ble_eq_true rfl⟩) (k_pre hE hP hD [] (by decide +kernel) rfl) rfl rfl hl.1 rfl (lv_room (Nat.le_of_ble_eq_true rfl)) dX8_of_15 ⟨Nat.le_of_ble_eq_true rfl, Nat.le_of_ble_eq_true rfl⟩) hP hD hS hA [] rfl (fun _ _ h9 => h9.2) (fun r6 H locs hw7 hP hD hS => ?_)
    obtain ⟨hw7, -⟩ := hw7
    have hw8 : r6 = bz (0 ≤ p1 ∧ p1 ≤ 10) := by rw [hw7]; exact bz_c (w3 (a := p1) (lo := 0) (hi := 10) (by decide) (by decide))
    refine lv_if_ne (tgt := 35) hx hb dX8_of_18 (by decide) (fun c9 => ?_) (fun c9 => ?_)
    · skip
      have hc9 : 0 ≤ p1 ∧ p1 ≤ 10 := bz_1 hw8 c9
      refine lv_iconst (v := 0) hx hb dX8_of_35 (by decide) ?_
      refine lv_goto (tgt := 40) hx hb dX8_of_36 (by decide) ?_
      refine va_put (D := D) (ci := 8) (v := .int 0) (ty := .int) (C := RX8) (T := TX8) (N := 46) hx hb hts hiX8 tyX8 tyX8_ok nmX8 hown hE.1 hP hD hS 0 rfl rfl 0 (by decide) (hts _ (List.mem_cons_of_mem _ wd_171)) (fun _ h9 => h9) rfl (by decide +kernel) rfl rfl (Nat.le_of_ble_eq_true rfl) dX8_of_40 (fun H locs hP hD hS => ?_)
      refine k_re (w := [(oX8 g 0 (nI mn) g2 g3 g4 g5 g6 g7 g8 g9 g10 (nI ml) g12 g13 gi14 g15 g16 g17 gi18 g19 g20 g21 g22 g23 g24 g25 g26 g27 g28 gi29 gi30 (nI mv) (nI tt) g33 g34 g35 g36 g37 g38 g39 gi40 g41 g42 gi43 g44 g45), (aIc cI g2 8 G2), (aIc cI g3 8 G3), (aIc cI g4 8 G4), (aIc cI g5 8 G5), (aIc cI g6 8 G6), (aIc cI g7 8 G7), (aIc cI g8 8 G8), (aIc cI g10 64 G10), (aIc cI g12 10 G12), (aIc cI g13 10 G13), (aIc cI g19 8 G19), (aIc cI g20 8 G20), (aIc cI g21 8 G21), (aIc cI g22 8 G22), (aIc cI g23 8 G23), (aIc cI g24 8 G24), (aIc cI g25 8 G25), (aIc cI g26 8 G26), (aIc cI g27 8 G27), (aIc cI g28 8 G28), (aIc cI g33 8 G33), (aIc cI g34 8 G34), (aIc cI g35 8 G35), (aIc cI g36 8 G36), (aJc cJ g37 8 G37), (aIc cI g9 8 G9)]) hP hD (fun hP hD => ?_)
      refine lv_aload_n hx hb dX8_of_43 rfl (lv_at hl 0 rfl) ?_
      refine va_get (D := D) (ci := 8) (v := .int 0) (C := RX8) (T := TX8) (N := 46) hx hb hts hiX8 hown hE.1 hP 0 rfl rfl 0 (by decide) (hts _ (List.mem_cons_of_mem _ wd_171)) (fun _ h9 => h9) rfl dX8_of_44 ?_
      refine lv_if_le (tgt := 52) hx hb dX8_of_47 (by decide) (fun _ => ?_) (fun c10 => absurd (by decide) c10)
      obtain ⟨pj, hpj, epj⟩ := wi_n (by omega) hc4
      rw [epj] at hl
      refine lv_aload_n hx hb dX8_of_52 rfl (lv_at hl 0 rfl) ?_
      refine lv_aload_n hx hb dX8_of_53 rfl (lv_at hl 0 rfl) ?_
      refine va_get (D := D) (ci := 8) (v := .int (nI ml)) (C := RX8) (T := TX8) (N := 46) hx hb hts hiX8 hown hE.1 hP 0 rfl rfl 11 (by decide) (hts _ (List.mem_cons_of_mem _ wd_251)) (fun _ h9 => h9) rfl dX8_of_54 ?_
      refine lv_iconst (v := 1) hx hb dX8_of_57 (by decide) ?_
      refine lv_isub hx hb dX8_of_58 ?_
      refine lv_topi (fun v11 ev11 => ?_)
      refine lv_aload_n hx hb dX8_of_59 rfl (lv_at hl 0 rfl) ?_
      refine k_iS (va_runV (As := []) (rest := [.int v11, .ref g]) ⟨hx, hb, hml, hown, hts⟩ (m_X8_all l D cI cJ H.size g g2 g3 g4 g5 g6 g7 g8 g9 g10 g12 g13 g15 g16 g17 g19 g20 g21 g22 g23 g24 g25 g26 g27 g28 g33 g34 g35 g36 g37 g38 g39 g41 g42 g44 g45 mn ml mv 0 gi14 gi18 gi29 gi30 (nI tt) gi40 gi43 hmn) (cwV 0 hts gX8_of_X8_all rfl rfl rfl (by decide +kernel) ⟨Nat.le_of_ble_eq_true rfl, Nat.le_of_ble_eq_true rfl⟩) (k_preV hE hP hD [0] (by decide +kernel) rfl 0 rfl rfl) rfl rfl hl.1 rfl (lv_room (Nat.le_of_ble_eq_true rfl)) dX8_of_60 ⟨Nat.le_of_ble_eq_true rfl, Nat.le_of_ble_eq_true rfl⟩) hP hD hS hA [0] rfl (fun _ _ ⟨_, h9⟩ => h9) (fun r12 H locs hw13 hP hD hS => ?_)
      obtain ⟨rfl, -⟩ := hw13
      refine k_v (va_runV (As := [.int v11, .int (nI (2 ^ mn - 1))]) (rest := []) ⟨hx, hb, hml, hown, hts⟩ (m_X8_settlesTo l D cI cJ H.size g g2 g3 g4 g5 g6 g7 g8 g9 g10 g12 g13 g15 g16 g17 g19 g20 g21 g22 g23 g24 g25 g26 g27 g28 g33 g34 g35 g36 g37 g38 g39 g41 g42 g44 g45 mn ml mv tt ml 0 gi14 gi18 gi29 gi30 gi40 gi43 v11 (nI (2 ^ mn - 1)) G2 G3 G4 G5 G6 G7 G8 G10 G12 G13 G19 G20 G21 G22 G23 G24 G25 G26 G27 G28 G33 G34 G35 G36 G37 li0 wo0 de0 ag0 ev11 hmL hit hsu hliv hlib hwov hwob hdev hdeb hagv hagb hamt hLE hLO hLW hSH htt hmv) (cwV 2 hts gX8_of_X8_settlesTo rfl rfl rfl (by decide +kernel) ⟨Nat.le_of_ble_eq_true rfl, Nat.le_of_ble_eq_true rfl⟩) (k_preV hE hP hD [0, 1, 2, 3, 4, 5, 6, 7, 8, 9, 10, 11, 12, 13, 14, 15, 16, 17, 18, 19, 20, 21, 22, 23, 24, 25] (by decide +kernel) rfl 0 rfl rfl) rfl rfl hl.1 rfl (lv_room (Nat.le_of_ble_eq_true rfl)) dX8_of_63 ⟨Nat.le_of_ble_eq_true rfl, Nat.le_of_ble_eq_true rfl⟩) hP hD hS hA [0, 1, 2, 3, 4, 5, 6, 7, 8, 9, 10, 11, 12, 13, 14, 15, 16, 17, 18, 19, 20, 21, 22, 23, 24, 25] [26] rfl (wr := [(aIc cI g9 8 G9)]) rfl (by decide +kernel) (by decide +kernel) (fun u H locs hw14 hP hD hS => ?_)
      obtain ⟨z15, z16, z17, z18, z19, z20, z21, z22, z23, z24, z25, z26, z27, z28, z29, z30, z31, z32, z33, z34, hz35, hz36, hz37, hz38, hz39, hz40, hz41, rfl⟩ := hw14
      refine k_re (w := [(aIc cI g9 8 G9), (oX8 g 0 (nI mn) g2 g3 g4 g5 g6 g7 g8 g9 g10 (nI ml) g12 g13 gi14 g15 g16 g17 z32 g19 g20 g21 g22 g23 g24 g25 g26 g27 g28 z30 z31 (nI z33) (nI z34) g33 g34 g35 g36 g37 g38 g39 gi40 g41 g42 gi43 g44 g45), (aIc cI g2 8 G2), (aIc cI g3 8 G3), (aIc cI g4 8 G4), (aIc cI g5 8 G5), (aIc cI g6 8 G6), (aIc cI g7 8 G7), (aIc cI g8 8 G8), (aIc cI g10 64 G10), (aIc cI g12 10 G12), (aIc cI g13 10 G13), (aIc cI g19 8 z15), (aIc cI g20 8 z16), (aIc cI g21 8 z17), (aIc cI g22 8 z18), (aIc cI g23 8 z19), (aIc cI g24 8 z20), (aIc cI g25 8 z21), (aIc cI g26 8 z22), (aIc cI g27 8 z23), (aIc cI g28 8 z24), (aIc cI g33 8 z25), (aIc cI g34 8 z26), (aIc cI g35 8 z27), (aIc cI g36 8 z28), (aJc cJ g37 8 z29)]) hP hD (fun hP hD => ?_)
      refine lv_iload_n hx hb dX8_of_66 rfl (lv_at hl 2 rfl) ?_
      by_cases c42 : p1 = 0
      · skip
        refine lv_tableIn (tgt := 124) hx hb dX8_of_67 (by rw [c42]; decide) (by rw [c42]; decide) (off := 57) (by rw [c42]; rfl) (by decide) ?_
        refine lv_aload_n hx hb dX8_of_124 rfl (lv_at hl 0 rfl) ?_
        refine va_get (D := D) (ci := 8) (v := .ref g2) (C := RX8) (T := TX8) (N := 46) hx hb hts hiX8 hown hE.1 hP 1 rfl rfl 2 (by decide) (hts _ (List.mem_cons_of_mem _ wd_116)) (fun _ h9 => h9) rfl dX8_of_125 ?_
        refine lv_iload_n hx hb dX8_of_128 rfl (lv_at hl 1 rfl) ?_
        refine va_iald hx hb hE.1 hP 2 0 rfl rfl (vp_in_nI (n := pj) (by omega) (by decide)) dX8_of_129 ?_
        refine lv_topi (fun v43 ev43 => ?_)
        refine k_iret (u := [(oX8 g 0 (nI mn) g2 g3 g4 g5 g6 g7 g8 g9 g10 (nI ml) g12 g13 gi14 g15 g16 g17 z32 g19 g20 g21 g22 g23 g24 g25 g26 g27 g28 z30 z31 (nI z33) (nI z34) g33 g34 g35 g36 g37 g38 g39 gi40 g41 g42 gi43 g44 g45), (aIc cI g2 8 G2), (aIc cI g3 8 G3), (aIc cI g4 8 G4), (aIc cI g5 8 G5), (aIc cI g6 8 G6), (aIc cI g7 8 G7), (aIc cI g8 8 G8), (aIc cI g10 64 G10), (aIc cI g12 10 G12), (aIc cI g13 10 G13), (aIc cI g19 8 z15), (aIc cI g20 8 z16), (aIc cI g21 8 z17), (aIc cI g22 8 z18), (aIc cI g23 8 z19), (aIc cI g24 8 z20), (aIc cI g25 8 z21), (aIc cI g26 8 z22), (aIc cI g27 8 z23), (aIc cI g28 8 z24), (aIc cI g33 8 z25), (aIc cI g34 8 z26), (aIc cI g35 8 z27), (aIc cI g36 8 z28), (aJc cJ g37 8 z29), (aIc cI g9 8 G9)]) hx hb hr hlk (k_sub hP [1, 2, 3, 4, 5, 6, 7, 8, 9, 10, 11, 12, 13, 14, 15, 16, 17, 18, 19, 20, 21, 22, 23, 24, 25, 26, 0] rfl) (hD.sub [1, 2, 3, 4, 5, 6, 7, 8, 9, 10, 11, 12, 13, 14, 15, 16, 17, 18, 19, 20, 21, 22, 23, 24, 25, 26, 0] (by decide +kernel) rfl) hS dX8_of_130 ?_
        exact ⟨z15, z16, z17, z18, z19, z20, z21, z22, z23, z24, z25, z26, z27, z28, z29, z30, z31, z32, z33, z34, 0, hz35, hz36, hz37, hz38, hz39, hz40, rfl⟩
      by_cases c44 : p1 = 1
      · skip
        refine lv_tableIn (tgt := 131) hx hb dX8_of_67 (by rw [c44]; decide) (by rw [c44]; decide) (off := 64) (by rw [c44]; rfl) (by decide) ?_
        refine lv_aload_n hx hb dX8_of_131 rfl (lv_at hl 0 rfl) ?_
        refine va_get (D := D) (ci := 8) (v := .ref g3) (C := RX8) (T := TX8) (N := 46) hx hb hts hiX8 hown hE.1 hP 1 rfl rfl 3 (by decide) (hts _ (List.mem_cons_of_mem _ wd_117)) (fun _ h9 => h9) rfl dX8_of_132 ?_
        refine lv_iload_n hx hb dX8_of_135 rfl (lv_at hl 1 rfl) ?_
        refine va_iald hx hb hE.1 hP 3 0 rfl rfl (vp_in_nI (n := pj) (by omega) (by decide)) dX8_of_136 ?_
        refine lv_topi (fun v45 ev45 => ?_)
        refine k_iret (u := [(oX8 g 0 (nI mn) g2 g3 g4 g5 g6 g7 g8 g9 g10 (nI ml) g12 g13 gi14 g15 g16 g17 z32 g19 g20 g21 g22 g23 g24 g25 g26 g27 g28 z30 z31 (nI z33) (nI z34) g33 g34 g35 g36 g37 g38 g39 gi40 g41 g42 gi43 g44 g45), (aIc cI g2 8 G2), (aIc cI g3 8 G3), (aIc cI g4 8 G4), (aIc cI g5 8 G5), (aIc cI g6 8 G6), (aIc cI g7 8 G7), (aIc cI g8 8 G8), (aIc cI g10 64 G10), (aIc cI g12 10 G12), (aIc cI g13 10 G13), (aIc cI g19 8 z15), (aIc cI g20 8 z16), (aIc cI g21 8 z17), (aIc cI g22 8 z18), (aIc cI g23 8 z19), (aIc cI g24 8 z20), (aIc cI g25 8 z21), (aIc cI g26 8 z22), (aIc cI g27 8 z23), (aIc cI g28 8 z24), (aIc cI g33 8 z25), (aIc cI g34 8 z26), (aIc cI g35 8 z27), (aIc cI g36 8 z28), (aJc cJ g37 8 z29), (aIc cI g9 8 G9)]) hx hb hr hlk (k_sub hP [1, 2, 3, 4, 5, 6, 7, 8, 9, 10, 11, 12, 13, 14, 15, 16, 17, 18, 19, 20, 21, 22, 23, 24, 25, 26, 0] rfl) (hD.sub [1, 2, 3, 4, 5, 6, 7, 8, 9, 10, 11, 12, 13, 14, 15, 16, 17, 18, 19, 20, 21, 22, 23, 24, 25, 26, 0] (by decide +kernel) rfl) hS dX8_of_137 ?_
        exact ⟨z15, z16, z17, z18, z19, z20, z21, z22, z23, z24, z25, z26, z27, z28, z29, z30, z31, z32, z33, z34, 0, hz35, hz36, hz37, hz38, hz39, hz40, rfl⟩
      by_cases c46 : p1 = 2
      · skip
        refine lv_tableIn (tgt := 138) hx hb dX8_of_67 (by rw [c46]; decide) (by rw [c46]; decide) (off := 71) (by rw [c46]; rfl) (by decide) ?_
        refine lv_aload_n hx hb dX8_of_138 rfl (lv_at hl 0 rfl) ?_
        refine va_get (D := D) (ci := 8) (v := .ref g4) (C := RX8) (T := TX8) (N := 46) hx hb hts hiX8 hown hE.1 hP 1 rfl rfl 4 (by decide) (hts _ (List.mem_cons_of_mem _ wd_118)) (fun _ h9 => h9) rfl dX8_of_139 ?_
        refine lv_iload_n hx hb dX8_of_142 rfl (lv_at hl 1 rfl) ?_
        refine va_iald hx hb hE.1 hP 4 0 rfl rfl (vp_in_nI (n := pj) (by omega) (by decide)) dX8_of_143 ?_
        refine lv_topi (fun v47 ev47 => ?_)
        refine k_iret (u := [(oX8 g 0 (nI mn) g2 g3 g4 g5 g6 g7 g8 g9 g10 (nI ml) g12 g13 gi14 g15 g16 g17 z32 g19 g20 g21 g22 g23 g24 g25 g26 g27 g28 z30 z31 (nI z33) (nI z34) g33 g34 g35 g36 g37 g38 g39 gi40 g41 g42 gi43 g44 g45), (aIc cI g2 8 G2), (aIc cI g3 8 G3), (aIc cI g4 8 G4), (aIc cI g5 8 G5), (aIc cI g6 8 G6), (aIc cI g7 8 G7), (aIc cI g8 8 G8), (aIc cI g10 64 G10), (aIc cI g12 10 G12), (aIc cI g13 10 G13), (aIc cI g19 8 z15), (aIc cI g20 8 z16), (aIc cI g21 8 z17), (aIc cI g22 8 z18), (aIc cI g23 8 z19), (aIc cI g24 8 z20), (aIc cI g25 8 z21), (aIc cI g26 8 z22), (aIc cI g27 8 z23), (aIc cI g28 8 z24), (aIc cI g33 8 z25), (aIc cI g34 8 z26), (aIc cI g35 8 z27), (aIc cI g36 8 z28), (aJc cJ g37 8 z29), (aIc cI g9 8 G9)]) hx hb hr hlk (k_sub hP [1, 2, 3, 4, 5, 6, 7, 8, 9, 10, 11, 12, 13, 14, 15, 16, 17, 18, 19, 20, 21, 22, 23, 24, 25, 26, 0] rfl) (hD.sub [1, 2, 3, 4, 5, 6, 7, 8, 9, 10, 11, 12, 13, 14, 15, 16, 17, 18, 19, 20, 21, 22, 23, 24, 25, 26, 0] (by decide +kernel) rfl) hS dX8_of_144 ?_
        exact ⟨z15, z16, z17, z18, z19, z20, z21, z22, z23, z24, z25, z26, z27, z28, z29, z30, z31, z32, z33, z34, 0, hz35, hz36, hz37, hz38, hz39, hz40, rfl⟩
      by_cases c48 : p1 = 3
      · skip
        refine lv_tableIn (tgt := 145) hx hb dX8_of_67 (by rw [c48]; decide) (by rw [c48]; decide) (off := 78) (by rw [c48]; rfl) (by decide) ?_
        refine lv_aload_n hx hb dX8_of_145 rfl (lv_at hl 0 rfl) ?_
        refine va_get (D := D) (ci := 8) (v := .ref g5) (C := RX8) (T := TX8) (N := 46) hx hb hts hiX8 hown hE.1 hP 1 rfl rfl 5 (by decide) (hts _ (List.mem_cons_of_mem _ wd_119)) (fun _ h9 => h9) rfl dX8_of_146 ?_
        refine lv_iload_n hx hb dX8_of_149 rfl (lv_at hl 1 rfl) ?_
        refine va_iald hx hb hE.1 hP 5 0 rfl rfl (vp_in_nI (n := pj) (by omega) (by decide)) dX8_of_150 ?_
        refine lv_topi (fun v49 ev49 => ?_)
        refine k_iret (u := [(oX8 g 0 (nI mn) g2 g3 g4 g5 g6 g7 g8 g9 g10 (nI ml) g12 g13 gi14 g15 g16 g17 z32 g19 g20 g21 g22 g23 g24 g25 g26 g27 g28 z30 z31 (nI z33) (nI z34) g33 g34 g35 g36 g37 g38 g39 gi40 g41 g42 gi43 g44 g45), (aIc cI g2 8 G2), (aIc cI g3 8 G3), (aIc cI g4 8 G4), (aIc cI g5 8 G5), (aIc cI g6 8 G6), (aIc cI g7 8 G7), (aIc cI g8 8 G8), (aIc cI g10 64 G10), (aIc cI g12 10 G12), (aIc cI g13 10 G13), (aIc cI g19 8 z15), (aIc cI g20 8 z16), (aIc cI g21 8 z17), (aIc cI g22 8 z18), (aIc cI g23 8 z19), (aIc cI g24 8 z20), (aIc cI g25 8 z21), (aIc cI g26 8 z22), (aIc cI g27 8 z23), (aIc cI g28 8 z24), (aIc cI g33 8 z25), (aIc cI g34 8 z26), (aIc cI g35 8 z27), (aIc cI g36 8 z28), (aJc cJ g37 8 z29), (aIc cI g9 8 G9)]) hx hb hr hlk (k_sub hP [1, 2, 3, 4, 5, 6, 7, 8, 9, 10, 11, 12, 13, 14, 15, 16, 17, 18, 19, 20, 21, 22, 23, 24, 25, 26, 0] rfl) (hD.sub [1, 2, 3, 4, 5, 6, 7, 8, 9, 10, 11, 12, 13, 14, 15, 16, 17, 18, 19, 20, 21, 22, 23, 24, 25, 26, 0] (by decide +kernel) rfl) hS dX8_of_151 ?_
        exact ⟨z15, z16, z17, z18, z19, z20, z21, z22, z23, z24, z25, z26, z27, z28, z29, z30, z31, z32, z33, z34, 0, hz35, hz36, hz37, hz38, hz39, hz40, rfl⟩
      by_cases c50 : p1 = 4
      · skip
        refine lv_tableIn (tgt := 152) hx hb dX8_of_67 (by rw [c50]; decide) (by rw [c50]; decide) (off := 85) (by rw [c50]; rfl) (by decide) ?_
        refine lv_aload_n hx hb dX8_of_152 rfl (lv_at hl 0 rfl) ?_
        refine va_get (D := D) (ci := 8) (v := .ref g6) (C := RX8) (T := TX8) (N := 46) hx hb hts hiX8 hown hE.1 hP 1 rfl rfl 6 (by decide) (hts _ (List.mem_cons_of_mem _ wd_120)) (fun _ h9 => h9) rfl dX8_of_153 ?_
        refine lv_iload_n hx hb dX8_of_156 rfl (lv_at hl 1 rfl) ?_
        refine va_iald hx hb hE.1 hP 6 0 rfl rfl (vp_in_nI (n := pj) (by omega) (by decide)) dX8_of_157 ?_
        refine lv_topi (fun v51 ev51 => ?_)
        refine k_iret (u := [(oX8 g 0 (nI mn) g2 g3 g4 g5 g6 g7 g8 g9 g10 (nI ml) g12 g13 gi14 g15 g16 g17 z32 g19 g20 g21 g22 g23 g24 g25 g26 g27 g28 z30 z31 (nI z33) (nI z34) g33 g34 g35 g36 g37 g38 g39 gi40 g41 g42 gi43 g44 g45), (aIc cI g2 8 G2), (aIc cI g3 8 G3), (aIc cI g4 8 G4), (aIc cI g5 8 G5), (aIc cI g6 8 G6), (aIc cI g7 8 G7), (aIc cI g8 8 G8), (aIc cI g10 64 G10), (aIc cI g12 10 G12), (aIc cI g13 10 G13), (aIc cI g19 8 z15), (aIc cI g20 8 z16), (aIc cI g21 8 z17), (aIc cI g22 8 z18), (aIc cI g23 8 z19), (aIc cI g24 8 z20), (aIc cI g25 8 z21), (aIc cI g26 8 z22), (aIc cI g27 8 z23), (aIc cI g28 8 z24), (aIc cI g33 8 z25), (aIc cI g34 8 z26), (aIc cI g35 8 z27), (aIc cI g36 8 z28), (aJc cJ g37 8 z29), (aIc cI g9 8 G9)]) hx hb hr hlk (k_sub hP [1, 2, 3, 4, 5, 6, 7, 8, 9, 10, 11, 12, 13, 14, 15, 16, 17, 18, 19, 20, 21, 22, 23, 24, 25, 26, 0] rfl) (hD.sub [1, 2, 3, 4, 5, 6, 7, 8, 9, 10, 11, 12, 13, 14, 15, 16, 17, 18, 19, 20, 21, 22, 23, 24, 25, 26, 0] (by decide +kernel) rfl) hS dX8_of_158 ?_
        exact ⟨z15, z16, z17, z18, z19, z20, z21, z22, z23, z24, z25, z26, z27, z28, z29, z30, z31, z32, z33, z34, 0, hz35, hz36, hz37, hz38, hz39, hz40, rfl⟩
      by_cases c52 : p1 = 5
      · skip
        refine lv_tableIn (tgt := 159) hx hb dX8_of_67 (by rw [c52]; decide) (by rw [c52]; decide) (off := 92) (by rw [c52]; rfl) (by decide) ?_
        refine lv_aload_n hx hb dX8_of_159 rfl (lv_at hl 0 rfl) ?_
        refine va_get (D := D) (ci := 8) (v := .ref g7) (C := RX8) (T := TX8) (N := 46) hx hb hts hiX8 hown hE.1 hP 1 rfl rfl 7 (by decide) (hts _ (List.mem_cons_of_mem _ wd_121)) (fun _ h9 => h9) rfl dX8_of_160 ?_
        refine lv_iload_n hx hb dX8_of_163 rfl (lv_at hl 1 rfl) ?_
        refine va_iald hx hb hE.1 hP 7 0 rfl rfl (vp_in_nI (n := pj) (by omega) (by decide)) dX8_of_164 ?_
        refine lv_topi (fun v53 ev53 => ?_)
        refine k_iret (u := [(oX8 g 0 (nI mn) g2 g3 g4 g5 g6 g7 g8 g9 g10 (nI ml) g12 g13 gi14 g15 g16 g17 z32 g19 g20 g21 g22 g23 g24 g25 g26 g27 g28 z30 z31 (nI z33) (nI z34) g33 g34 g35 g36 g37 g38 g39 gi40 g41 g42 gi43 g44 g45), (aIc cI g2 8 G2), (aIc cI g3 8 G3), (aIc cI g4 8 G4), (aIc cI g5 8 G5), (aIc cI g6 8 G6), (aIc cI g7 8 G7), (aIc cI g8 8 G8), (aIc cI g10 64 G10), (aIc cI g12 10 G12), (aIc cI g13 10 G13), (aIc cI g19 8 z15), (aIc cI g20 8 z16), (aIc cI g21 8 z17), (aIc cI g22 8 z18), (aIc cI g23 8 z19), (aIc cI g24 8 z20), (aIc cI g25 8 z21), (aIc cI g26 8 z22), (aIc cI g27 8 z23), (aIc cI g28 8 z24), (aIc cI g33 8 z25), (aIc cI g34 8 z26), (aIc cI g35 8 z27), (aIc cI g36 8 z28), (aJc cJ g37 8 z29), (aIc cI g9 8 G9)]) hx hb hr hlk (k_sub hP [1, 2, 3, 4, 5, 6, 7, 8, 9, 10, 11, 12, 13, 14, 15, 16, 17, 18, 19, 20, 21, 22, 23, 24, 25, 26, 0] rfl) (hD.sub [1, 2, 3, 4, 5, 6, 7, 8, 9, 10, 11, 12, 13, 14, 15, 16, 17, 18, 19, 20, 21, 22, 23, 24, 25, 26, 0] (by decide +kernel) rfl) hS dX8_of_165 ?_
        exact ⟨z15, z16, z17, z18, z19, z20, z21, z22, z23, z24, z25, z26, z27, z28, z29, z30, z31, z32, z33, z34, 0, hz35, hz36, hz37, hz38, hz39, hz40, rfl⟩
      by_cases c54 : p1 = 6
      · skip
        refine lv_tableIn (tgt := 166) hx hb dX8_of_67 (by rw [c54]; decide) (by rw [c54]; decide) (off := 99) (by rw [c54]; rfl) (by decide) ?_
        refine lv_aload_n hx hb dX8_of_166 rfl (lv_at hl 0 rfl) ?_
        refine va_get (D := D) (ci := 8) (v := .ref g8) (C := RX8) (T := TX8) (N := 46) hx hb hts hiX8 hown hE.1 hP 1 rfl rfl 8 (by decide) (hts _ (List.mem_cons_of_mem _ wd_122)) (fun _ h9 => h9) rfl dX8_of_167 ?_
        refine lv_iload_n hx hb dX8_of_170 rfl (lv_at hl 1 rfl) ?_
        refine va_iald hx hb hE.1 hP 8 0 rfl rfl (vp_in_nI (n := pj) (by omega) (by decide)) dX8_of_171 ?_
        refine lv_topi (fun v55 ev55 => ?_)
        refine k_iret (u := [(oX8 g 0 (nI mn) g2 g3 g4 g5 g6 g7 g8 g9 g10 (nI ml) g12 g13 gi14 g15 g16 g17 z32 g19 g20 g21 g22 g23 g24 g25 g26 g27 g28 z30 z31 (nI z33) (nI z34) g33 g34 g35 g36 g37 g38 g39 gi40 g41 g42 gi43 g44 g45), (aIc cI g2 8 G2), (aIc cI g3 8 G3), (aIc cI g4 8 G4), (aIc cI g5 8 G5), (aIc cI g6 8 G6), (aIc cI g7 8 G7), (aIc cI g8 8 G8), (aIc cI g10 64 G10), (aIc cI g12 10 G12), (aIc cI g13 10 G13), (aIc cI g19 8 z15), (aIc cI g20 8 z16), (aIc cI g21 8 z17), (aIc cI g22 8 z18), (aIc cI g23 8 z19), (aIc cI g24 8 z20), (aIc cI g25 8 z21), (aIc cI g26 8 z22), (aIc cI g27 8 z23), (aIc cI g28 8 z24), (aIc cI g33 8 z25), (aIc cI g34 8 z26), (aIc cI g35 8 z27), (aIc cI g36 8 z28), (aJc cJ g37 8 z29), (aIc cI g9 8 G9)]) hx hb hr hlk (k_sub hP [1, 2, 3, 4, 5, 6, 7, 8, 9, 10, 11, 12, 13, 14, 15, 16, 17, 18, 19, 20, 21, 22, 23, 24, 25, 26, 0] rfl) (hD.sub [1, 2, 3, 4, 5, 6, 7, 8, 9, 10, 11, 12, 13, 14, 15, 16, 17, 18, 19, 20, 21, 22, 23, 24, 25, 26, 0] (by decide +kernel) rfl) hS dX8_of_172 ?_
        exact ⟨z15, z16, z17, z18, z19, z20, z21, z22, z23, z24, z25, z26, z27, z28, z29, z30, z31, z32, z33, z34, 0, hz35, hz36, hz37, hz38, hz39, hz40, rfl⟩
      by_cases c56 : p1 = 7
      · skip
        refine lv_tableIn (tgt := 173) hx hb dX8_of_67 (by rw [c56]; decide) (by rw [c56]; decide) (off := 106) (by rw [c56]; rfl) (by decide) ?_
        refine lv_aload_n hx hb dX8_of_173 rfl (lv_at hl 0 rfl) ?_
        refine va_get (D := D) (ci := 8) (v := .ref g3) (C := RX8) (T := TX8) (N := 46) hx hb hts hiX8 hown hE.1 hP 1 rfl rfl 3 (by decide) (hts _ (List.mem_cons_of_mem _ wd_117)) (fun _ h9 => h9) rfl dX8_of_174 ?_
        refine lv_iload_n hx hb dX8_of_177 rfl (lv_at hl 1 rfl) ?_
        refine va_iald hx hb hE.1 hP 3 0 rfl rfl (vp_in_nI (n := pj) (by omega) (by decide)) dX8_of_178 ?_
        refine lv_topi (fun v57 ev57 => ?_)
        refine lv_aload_n hx hb dX8_of_179 rfl (lv_at hl 0 rfl) ?_
        refine va_get (D := D) (ci := 8) (v := .ref g28) (C := RX8) (T := TX8) (N := 46) hx hb hts hiX8 hown hE.1 hP 1 rfl rfl 28 (by decide) (hts _ (List.mem_cons_of_mem _ wd_139)) (fun _ h9 => h9) rfl dX8_of_180 ?_
        refine lv_iload_n hx hb dX8_of_183 rfl (lv_at hl 1 rfl) ?_
        refine va_iald hx hb hE.1 hP 21 0 rfl rfl (vp_in_nI (n := pj) (by omega) (by decide)) dX8_of_184 ?_
        refine lv_topi (fun v58 ev58 => ?_)
        refine lv_isub hx hb dX8_of_185 ?_
        refine lv_topi (fun v59 ev59 => ?_)
        refine k_iret (u := [(oX8 g 0 (nI mn) g2 g3 g4 g5 g6 g7 g8 g9 g10 (nI ml) g12 g13 gi14 g15 g16 g17 z32 g19 g20 g21 g22 g23 g24 g25 g26 g27 g28 z30 z31 (nI z33) (nI z34) g33 g34 g35 g36 g37 g38 g39 gi40 g41 g42 gi43 g44 g45), (aIc cI g2 8 G2), (aIc cI g3 8 G3), (aIc cI g4 8 G4), (aIc cI g5 8 G5), (aIc cI g6 8 G6), (aIc cI g7 8 G7), (aIc cI g8 8 G8), (aIc cI g10 64 G10), (aIc cI g12 10 G12), (aIc cI g13 10 G13), (aIc cI g19 8 z15), (aIc cI g20 8 z16), (aIc cI g21 8 z17), (aIc cI g22 8 z18), (aIc cI g23 8 z19), (aIc cI g24 8 z20), (aIc cI g25 8 z21), (aIc cI g26 8 z22), (aIc cI g27 8 z23), (aIc cI g28 8 z24), (aIc cI g33 8 z25), (aIc cI g34 8 z26), (aIc cI g35 8 z27), (aIc cI g36 8 z28), (aJc cJ g37 8 z29), (aIc cI g9 8 G9)]) hx hb hr hlk (k_sub hP [1, 2, 3, 4, 5, 6, 7, 8, 9, 10, 11, 12, 13, 14, 15, 16, 17, 18, 19, 20, 21, 22, 23, 24, 25, 26, 0] rfl) (hD.sub [1, 2, 3, 4, 5, 6, 7, 8, 9, 10, 11, 12, 13, 14, 15, 16, 17, 18, 19, 20, 21, 22, 23, 24, 25, 26, 0] (by decide +kernel) rfl) hS dX8_of_186 ?_
        exact ⟨z15, z16, z17, z18, z19, z20, z21, z22, z23, z24, z25, z26, z27, z28, z29, z30, z31, z32, z33, z34, 0, hz35, hz36, hz37, hz38, hz39, hz40, rfl⟩
      by_cases c60 : p1 = 8
      · skip
        refine lv_tableIn (tgt := 187) hx hb dX8_of_67 (by rw [c60]; decide) (by rw [c60]; decide) (off := 120) (by rw [c60]; rfl) (by decide) ?_
        refine lv_aload_n hx hb dX8_of_187 rfl (lv_at hl 0 rfl) ?_
        refine va_get (D := D) (ci := 8) (v := .ref g28) (C := RX8) (T := TX8) (N := 46) hx hb hts hiX8 hown hE.1 hP 1 rfl rfl 28 (by decide) (hts _ (List.mem_cons_of_mem _ wd_139)) (fun _ h9 => h9) rfl dX8_of_188 ?_
        refine lv_iload_n hx hb dX8_of_191 rfl (lv_at hl 1 rfl) ?_
        refine va_iald hx hb hE.1 hP 21 0 rfl rfl (vp_in_nI (n := pj) (by omega) (by decide)) dX8_of_192 ?_
        refine lv_topi (fun v61 ev61 => ?_)
        refine k_iret (u := [(oX8 g 0 (nI mn) g2 g3 g4 g5 g6 g7 g8 g9 g10 (nI ml) g12 g13 gi14 g15 g16 g17 z32 g19 g20 g21 g22 g23 g24 g25 g26 g27 g28 z30 z31 (nI z33) (nI z34) g33 g34 g35 g36 g37 g38 g39 gi40 g41 g42 gi43 g44 g45), (aIc cI g2 8 G2), (aIc cI g3 8 G3), (aIc cI g4 8 G4), (aIc cI g5 8 G5), (aIc cI g6 8 G6), (aIc cI g7 8 G7), (aIc cI g8 8 G8), (aIc cI g10 64 G10), (aIc cI g12 10 G12), (aIc cI g13 10 G13), (aIc cI g19 8 z15), (aIc cI g20 8 z16), (aIc cI g21 8 z17), (aIc cI g22 8 z18), (aIc cI g23 8 z19), (aIc cI g24 8 z20), (aIc cI g25 8 z21), (aIc cI g26 8 z22), (aIc cI g27 8 z23), (aIc cI g28 8 z24), (aIc cI g33 8 z25), (aIc cI g34 8 z26), (aIc cI g35 8 z27), (aIc cI g36 8 z28), (aJc cJ g37 8 z29), (aIc cI g9 8 G9)]) hx hb hr hlk (k_sub hP [1, 2, 3, 4, 5, 6, 7, 8, 9, 10, 11, 12, 13, 14, 15, 16, 17, 18, 19, 20, 21, 22, 23, 24, 25, 26, 0] rfl) (hD.sub [1, 2, 3, 4, 5, 6, 7, 8, 9, 10, 11, 12, 13, 14, 15, 16, 17, 18, 19, 20, 21, 22, 23, 24, 25, 26, 0] (by decide +kernel) rfl) hS dX8_of_193 ?_
        exact ⟨z15, z16, z17, z18, z19, z20, z21, z22, z23, z24, z25, z26, z27, z28, z29, z30, z31, z32, z33, z34, 0, hz35, hz36, hz37, hz38, hz39, hz40, rfl⟩
      by_cases c62 : p1 = 9
      · skip
        refine lv_tableIn (tgt := 194) hx hb dX8_of_67 (by rw [c62]; decide) (by rw [c62]; decide) (off := 127) (by rw [c62]; rfl) (by decide) ?_
        refine lv_aload_n hx hb dX8_of_194 rfl (lv_at hl 0 rfl) ?_
        refine va_get (D := D) (ci := 8) (v := .ref g9) (C := RX8) (T := TX8) (N := 46) hx hb hts hiX8 hown hE.1 hP 1 rfl rfl 9 (by decide) (hts _ (List.mem_cons_of_mem _ wd_123)) (fun _ h9 => h9) rfl dX8_of_195 ?_
        refine lv_iload_n hx hb dX8_of_198 rfl (lv_at hl 1 rfl) ?_
        refine va_iald hx hb hE.1 hP 0 0 rfl rfl (vp_in_nI (n := pj) (by omega) (by decide)) dX8_of_199 ?_
        refine lv_topi (fun v63 ev63 => ?_)
        refine k_iret (u := [(oX8 g 0 (nI mn) g2 g3 g4 g5 g6 g7 g8 g9 g10 (nI ml) g12 g13 gi14 g15 g16 g17 z32 g19 g20 g21 g22 g23 g24 g25 g26 g27 g28 z30 z31 (nI z33) (nI z34) g33 g34 g35 g36 g37 g38 g39 gi40 g41 g42 gi43 g44 g45), (aIc cI g2 8 G2), (aIc cI g3 8 G3), (aIc cI g4 8 G4), (aIc cI g5 8 G5), (aIc cI g6 8 G6), (aIc cI g7 8 G7), (aIc cI g8 8 G8), (aIc cI g10 64 G10), (aIc cI g12 10 G12), (aIc cI g13 10 G13), (aIc cI g19 8 z15), (aIc cI g20 8 z16), (aIc cI g21 8 z17), (aIc cI g22 8 z18), (aIc cI g23 8 z19), (aIc cI g24 8 z20), (aIc cI g25 8 z21), (aIc cI g26 8 z22), (aIc cI g27 8 z23), (aIc cI g28 8 z24), (aIc cI g33 8 z25), (aIc cI g34 8 z26), (aIc cI g35 8 z27), (aIc cI g36 8 z28), (aJc cJ g37 8 z29), (aIc cI g9 8 G9)]) hx hb hr hlk (k_sub hP [1, 2, 3, 4, 5, 6, 7, 8, 9, 10, 11, 12, 13, 14, 15, 16, 17, 18, 19, 20, 21, 22, 23, 24, 25, 26, 0] rfl) (hD.sub [1, 2, 3, 4, 5, 6, 7, 8, 9, 10, 11, 12, 13, 14, 15, 16, 17, 18, 19, 20, 21, 22, 23, 24, 25, 26, 0] (by decide +kernel) rfl) hS dX8_of_200 ?_
        exact ⟨z15, z16, z17, z18, z19, z20, z21, z22, z23, z24, z25, z26, z27, z28, z29, z30, z31, z32, z33, z34, 0, hz35, hz36, hz37, hz38, hz39, hz40, rfl⟩
      by_cases c64 : p1 = 10
      · skip
        refine lv_tableIn (tgt := 201) hx hb dX8_of_67 (by rw [c64]; decide) (by rw [c64]; decide) (off := 134) (by rw [c64]; rfl) (by decide) ?_
        refine lv_aload_n hx hb dX8_of_201 rfl (lv_at hl 0 rfl) ?_
        refine lv_iload_n hx hb dX8_of_202 rfl (lv_at hl 1 rfl) ?_
        refine k_i (va_runV (As := [.int (nI pj)]) (rest := []) ⟨hx, hb, hml, hown, hts⟩ (m_X8_lastLoss l D cI cJ H.size g g2 g3 g4 g5 g6 g7 g8 g9 g10 g12 g13 g15 g16 g17 g19 g20 g21 g22 g23 g24 g25 g26 g27 g28 g33 g34 g35 g36 g37 g38 g39 g41 g42 g44 g45 pj mn ml z33 z34 0 gi14 z32 z30 z31 gi40 gi43 G2 G3 G4 G5 G6 G7 G8 G10 G12 G13 z15 z16 z17 z18 z19 z20 z21 z22 z23 z24 z25 z26 z27 z28 z29 li0 wo0 de0 ag0 hmn hmL hit hsu hliv hlib hwov hwob hdev hdeb hagv hagb hamt hz35 hz36 hz37 hz38 hz39 hz40 (by omega)) (cwV 1 hts gX8_of_X8_lastLoss rfl rfl rfl (by decide +kernel) ⟨Nat.le_of_ble_eq_true rfl, Nat.le_of_ble_eq_true rfl⟩) (k_preV hE hP hD [1, 2, 3, 4, 5, 6, 7, 8, 9, 10, 11, 12, 13, 14, 15, 16, 17, 18, 19, 20, 21, 22, 23, 24, 25, 26] (by decide +kernel) rfl 1 rfl rfl) rfl rfl hl.1 rfl (lv_room (Nat.le_of_ble_eq_true rfl)) dX8_of_203 ⟨Nat.le_of_ble_eq_true rfl, Nat.le_of_ble_eq_true rfl⟩) hP hD hS hA [1, 2, 3, 4, 5, 6, 7, 8, 9, 10, 11, 12, 13, 14, 15, 16, 17, 18, 19, 20, 21, 22, 23, 24, 25, 26] [0] rfl (wr := [(aIc cI g9 8 G9)]) rfl (by decide +kernel) (by decide +kernel) (fun r65 u H locs hw66 hP hD hS => ?_)
        obtain ⟨z67, z68, z69, z70, z71, z72, z73, z74, z75, z76, z77, z78, z79, z80, z81, z82, z83, z84, z85, z86, hz87, hz88, hz89, hz90, hz91, hz92, rfl⟩ := hw66
        refine k_re (w := [(aIc cI g9 8 G9), (oX8 g 0 (nI mn) g2 g3 g4 g5 g6 g7 g8 g9 g10 (nI ml) g12 g13 gi14 g15 g16 g17 z84 g19 g20 g21 g22 g23 g24 g25 g26 g27 g28 z82 z83 (nI z85) (nI z86) g33 g34 g35 g36 g37 g38 g39 gi40 g41 g42 gi43 g44 g45), (aIc cI g2 8 G2), (aIc cI g3 8 G3), (aIc cI g4 8 G4), (aIc cI g5 8 G5), (aIc cI g6 8 G6), (aIc cI g7 8 G7), (aIc cI g8 8 G8), (aIc cI g10 64 G10), (aIc cI g12 10 G12), (aIc cI g13 10 G13), (aIc cI g19 8 z67), (aIc cI g20 8 z68), (aIc cI g21 8 z69), (aIc cI g22 8 z70), (aIc cI g23 8 z71), (aIc cI g24 8 z72), (aIc cI g25 8 z73), (aIc cI g26 8 z74), (aIc cI g27 8 z75), (aIc cI g28 8 z76), (aIc cI g33 8 z77), (aIc cI g34 8 z78), (aIc cI g35 8 z79), (aIc cI g36 8 z80), (aJc cJ g37 8 z81)]) hP hD (fun hP hD => ?_)
        refine k_iret (u := [(oX8 g 0 (nI mn) g2 g3 g4 g5 g6 g7 g8 g9 g10 (nI ml) g12 g13 gi14 g15 g16 g17 z84 g19 g20 g21 g22 g23 g24 g25 g26 g27 g28 z82 z83 (nI z85) (nI z86) g33 g34 g35 g36 g37 g38 g39 gi40 g41 g42 gi43 g44 g45), (aIc cI g2 8 G2), (aIc cI g3 8 G3), (aIc cI g4 8 G4), (aIc cI g5 8 G5), (aIc cI g6 8 G6), (aIc cI g7 8 G7), (aIc cI g8 8 G8), (aIc cI g10 64 G10), (aIc cI g12 10 G12), (aIc cI g13 10 G13), (aIc cI g19 8 z67), (aIc cI g20 8 z68), (aIc cI g21 8 z69), (aIc cI g22 8 z70), (aIc cI g23 8 z71), (aIc cI g24 8 z72), (aIc cI g25 8 z73), (aIc cI g26 8 z74), (aIc cI g27 8 z75), (aIc cI g28 8 z76), (aIc cI g33 8 z77), (aIc cI g34 8 z78), (aIc cI g35 8 z79), (aIc cI g36 8 z80), (aJc cJ g37 8 z81), (aIc cI g9 8 G9)]) hx hb hr hlk (k_sub hP [1, 2, 3, 4, 5, 6, 7, 8, 9, 10, 11, 12, 13, 14, 15, 16, 17, 18, 19, 20, 21, 22, 23, 24, 25, 26, 0] rfl) (hD.sub [1, 2, 3, 4, 5, 6, 7, 8, 9, 10, 11, 12, 13, 14, 15, 16, 17, 18, 19, 20, 21, 22, 23, 24, 25, 26, 0] (by decide +kernel) rfl) hS dX8_of_206 ?_
        exact ⟨z67, z68, z69, z70, z71, z72, z73, z74, z75, z76, z77, z78, z79, z80, z81, z82, z83, z84, z85, z86, 0, hz87, hz88, hz89, hz90, hz91, hz92, rfl⟩
      refine lv_tableOut (tgt := 207) hx hb dX8_of_67 (sw_out11 c42 c44 c46 c48 c50 c52 c54 c56 c60 c62 c64) (by decide) ?_
      exact (sw_no hc9 (n := 10) rfl (sw_out11 c42 c44 c46 c48 c50 c52 c54 c56 c60 c62 c64)).elim
    · skip
      have hc9 : ¬ (0 ≤ p1 ∧ p1 ≤ 10) := bz_0 hw8 c9
      refine lv_iload_n hx hb dX8_of_21 rfl (lv_at hl 2 rfl) ?_
      refine lv_i2l hx hb dX8_of_22 rfl ?_
      refine lv_ldc2 (v := 20) hx hb hown (hts _ (List.mem_cons_of_mem _ wd_504)) dX8_of_23 ?_
      refine lv_ldc2 (v := 27) hx hb hown (hts _ (List.mem_cons_of_mem _ wd_505)) dX8_of_26 ?_
      refine k_iS (va_runS (As := [.long (Int32.toInt64 p1), .long 20, .long 27]) (rest := [.ref g]) ⟨hx, hb, hml, hown, hts⟩ (m_X8_in l D cI cJ H.size (Int32.toInt64 p1) 20 27) (va_cwS 3 hts gX8_of_X8_in rfl rfl rfl (by decide +kernel) ⟨Nat.le_of_ble_eq_true rfl, Nat.le_of_ble_eq_true rfl⟩) (k_pre hE hP hD [] (by decide +kernel) rfl) rfl rfl hl.1 rfl (lv_room (Nat.le_of_ble_eq_true rfl)) dX8_of_29 ⟨Nat.le_of_ble_eq_true rfl, Nat.le_of_ble_eq_true rfl⟩) hP hD hS hA [] rfl (fun _ _ h9 => h9.2) (fun r93 H locs hw94 hP hD hS => ?_)
      obtain ⟨hw94, -⟩ := hw94
      have hw95 : r93 = bz (20 ≤ p1 ∧ p1 ≤ 27) := by rw [hw94]; exact bz_c (w3 (a := p1) (lo := 20) (hi := 27) (by decide) (by decide))
      refine lv_if_eq (tgt := 39) hx hb dX8_of_32 (by decide) (fun c96 => ?_) (fun c96 => ?_)
      · skip
        have hc96 : ¬ (20 ≤ p1 ∧ p1 ≤ 27) := bz_0 hw95 c96
        refine lv_iconst (v := 1) hx hb dX8_of_39 (by decide) ?_
        refine va_put (D := D) (ci := 8) (v := .int 1) (ty := .int) (C := RX8) (T := TX8) (N := 46) hx hb hts hiX8 tyX8 tyX8_ok nmX8 hown hE.1 hP hD hS 0 rfl rfl 0 (by decide) (hts _ (List.mem_cons_of_mem _ wd_171)) (fun _ h9 => h9) rfl (by decide +kernel) rfl rfl (Nat.le_of_ble_eq_true rfl) dX8_of_40 (fun H locs hP hD hS => ?_)
        refine k_re (w := [(oX8 g 1 (nI mn) g2 g3 g4 g5 g6 g7 g8 g9 g10 (nI ml) g12 g13 gi14 g15 g16 g17 gi18 g19 g20 g21 g22 g23 g24 g25 g26 g27 g28 gi29 gi30 (nI mv) (nI tt) g33 g34 g35 g36 g37 g38 g39 gi40 g41 g42 gi43 g44 g45), (aIc cI g2 8 G2), (aIc cI g3 8 G3), (aIc cI g4 8 G4), (aIc cI g5 8 G5), (aIc cI g6 8 G6), (aIc cI g7 8 G7), (aIc cI g8 8 G8), (aIc cI g10 64 G10), (aIc cI g12 10 G12), (aIc cI g13 10 G13), (aIc cI g19 8 G19), (aIc cI g20 8 G20), (aIc cI g21 8 G21), (aIc cI g22 8 G22), (aIc cI g23 8 G23), (aIc cI g24 8 G24), (aIc cI g25 8 G25), (aIc cI g26 8 G26), (aIc cI g27 8 G27), (aIc cI g28 8 G28), (aIc cI g33 8 G33), (aIc cI g34 8 G34), (aIc cI g35 8 G35), (aIc cI g36 8 G36), (aJc cJ g37 8 G37), (aIc cI g9 8 G9)]) hP hD (fun hP hD => ?_)
        refine lv_aload_n hx hb dX8_of_43 rfl (lv_at hl 0 rfl) ?_
        refine va_get (D := D) (ci := 8) (v := .int 1) (C := RX8) (T := TX8) (N := 46) hx hb hts hiX8 hown hE.1 hP 0 rfl rfl 0 (by decide) (hts _ (List.mem_cons_of_mem _ wd_171)) (fun _ h9 => h9) rfl dX8_of_44 ?_
        refine lv_if_le (tgt := 52) hx hb dX8_of_47 (by decide) (fun c97 => absurd c97 (by decide)) (fun _ => ?_)
        refine lv_iconst (v := 0) hx hb dX8_of_50 (by decide) ?_
        refine k_iret (u := [(oX8 g 1 (nI mn) g2 g3 g4 g5 g6 g7 g8 g9 g10 (nI ml) g12 g13 gi14 g15 g16 g17 gi18 g19 g20 g21 g22 g23 g24 g25 g26 g27 g28 gi29 gi30 (nI mv) (nI tt) g33 g34 g35 g36 g37 g38 g39 gi40 g41 g42 gi43 g44 g45), (aIc cI g2 8 G2), (aIc cI g3 8 G3), (aIc cI g4 8 G4), (aIc cI g5 8 G5), (aIc cI g6 8 G6), (aIc cI g7 8 G7), (aIc cI g8 8 G8), (aIc cI g10 64 G10), (aIc cI g12 10 G12), (aIc cI g13 10 G13), (aIc cI g19 8 G19), (aIc cI g20 8 G20), (aIc cI g21 8 G21), (aIc cI g22 8 G22), (aIc cI g23 8 G23), (aIc cI g24 8 G24), (aIc cI g25 8 G25), (aIc cI g26 8 G26), (aIc cI g27 8 G27), (aIc cI g28 8 G28), (aIc cI g33 8 G33), (aIc cI g34 8 G34), (aIc cI g35 8 G35), (aIc cI g36 8 G36), (aJc cJ g37 8 G37), (aIc cI g9 8 G9)]) hx hb hr hlk hP hD hS dX8_of_51 ?_
        exact ⟨G19, G20, G21, G22, G23, G24, G25, G26, G27, G28, G33, G34, G35, G36, G37, gi29, gi30, gi18, mv, tt, 1, hLE, hLO, hLW, hSH, htt, hmv, rfl⟩
      · skip
        have hc96 : 20 ≤ p1 ∧ p1 ≤ 27 := bz_1 hw95 c96
        refine lv_iconst (v := 0) hx hb dX8_of_35 (by decide) ?_
        refine lv_goto (tgt := 40) hx hb dX8_of_36 (by decide) ?_
        refine va_put (D := D) (ci := 8) (v := .int 0) (ty := .int) (C := RX8) (T := TX8) (N := 46) hx hb hts hiX8 tyX8 tyX8_ok nmX8 hown hE.1 hP hD hS 0 rfl rfl 0 (by decide) (hts _ (List.mem_cons_of_mem _ wd_171)) (fun _ h9 => h9) rfl (by decide +kernel) rfl rfl (Nat.le_of_ble_eq_true rfl) dX8_of_40 (fun H locs hP hD hS => ?_)
        refine k_re (w := [(oX8 g 0 (nI mn) g2 g3 g4 g5 g6 g7 g8 g9 g10 (nI ml) g12 g13 gi14 g15 g16 g17 gi18 g19 g20 g21 g22 g23 g24 g25 g26 g27 g28 gi29 gi30 (nI mv) (nI tt) g33 g34 g35 g36 g37 g38 g39 gi40 g41 g42 gi43 g44 g45), (aIc cI g2 8 G2), (aIc cI g3 8 G3), (aIc cI g4 8 G4), (aIc cI g5 8 G5), (aIc cI g6 8 G6), (aIc cI g7 8 G7), (aIc cI g8 8 G8), (aIc cI g10 64 G10), (aIc cI g12 10 G12), (aIc cI g13 10 G13), (aIc cI g19 8 G19), (aIc cI g20 8 G20), (aIc cI g21 8 G21), (aIc cI g22 8 G22), (aIc cI g23 8 G23), (aIc cI g24 8 G24), (aIc cI g25 8 G25), (aIc cI g26 8 G26), (aIc cI g27 8 G27), (aIc cI g28 8 G28), (aIc cI g33 8 G33), (aIc cI g34 8 G34), (aIc cI g35 8 G35), (aIc cI g36 8 G36), (aJc cJ g37 8 G37), (aIc cI g9 8 G9)]) hP hD (fun hP hD => ?_)
        refine lv_aload_n hx hb dX8_of_43 rfl (lv_at hl 0 rfl) ?_
        refine va_get (D := D) (ci := 8) (v := .int 0) (C := RX8) (T := TX8) (N := 46) hx hb hts hiX8 hown hE.1 hP 0 rfl rfl 0 (by decide) (hts _ (List.mem_cons_of_mem _ wd_171)) (fun _ h9 => h9) rfl dX8_of_44 ?_
        refine lv_if_le (tgt := 52) hx hb dX8_of_47 (by decide) (fun _ => ?_) (fun c98 => absurd (by decide) c98)
        obtain ⟨pj, hpj, epj⟩ := wi_n (by omega) hc4
        rw [epj] at hl
        refine lv_aload_n hx hb dX8_of_52 rfl (lv_at hl 0 rfl) ?_
        refine lv_aload_n hx hb dX8_of_53 rfl (lv_at hl 0 rfl) ?_
        refine va_get (D := D) (ci := 8) (v := .int (nI ml)) (C := RX8) (T := TX8) (N := 46) hx hb hts hiX8 hown hE.1 hP 0 rfl rfl 11 (by decide) (hts _ (List.mem_cons_of_mem _ wd_251)) (fun _ h9 => h9) rfl dX8_of_54 ?_
        refine lv_iconst (v := 1) hx hb dX8_of_57 (by decide) ?_
        refine lv_isub hx hb dX8_of_58 ?_
        refine lv_topi (fun v99 ev99 => ?_)
        refine lv_aload_n hx hb dX8_of_59 rfl (lv_at hl 0 rfl) ?_
        refine k_iS (va_runV (As := []) (rest := [.int v99, .ref g]) ⟨hx, hb, hml, hown, hts⟩ (m_X8_all l D cI cJ H.size g g2 g3 g4 g5 g6 g7 g8 g9 g10 g12 g13 g15 g16 g17 g19 g20 g21 g22 g23 g24 g25 g26 g27 g28 g33 g34 g35 g36 g37 g38 g39 g41 g42 g44 g45 mn ml mv 0 gi14 gi18 gi29 gi30 (nI tt) gi40 gi43 hmn) (cwV 0 hts gX8_of_X8_all rfl rfl rfl (by decide +kernel) ⟨Nat.le_of_ble_eq_true rfl, Nat.le_of_ble_eq_true rfl⟩) (k_preV hE hP hD [0] (by decide +kernel) rfl 0 rfl rfl) rfl rfl hl.1 rfl (lv_room (Nat.le_of_ble_eq_true rfl)) dX8_of_60 ⟨Nat.le_of_ble_eq_true rfl, Nat.le_of_ble_eq_true rfl⟩) hP hD hS hA [0] rfl (fun _ _ ⟨_, h9⟩ => h9) (fun r100 H locs hw101 hP hD hS => ?_)
        obtain ⟨rfl, -⟩ := hw101
        refine k_v (va_runV (As := [.int v99, .int (nI (2 ^ mn - 1))]) (rest := []) ⟨hx, hb, hml, hown, hts⟩ (m_X8_settlesTo l D cI cJ H.size g g2 g3 g4 g5 g6 g7 g8 g9 g10 g12 g13 g15 g16 g17 g19 g20 g21 g22 g23 g24 g25 g26 g27 g28 g33 g34 g35 g36 g37 g38 g39 g41 g42 g44 g45 mn ml mv tt ml 0 gi14 gi18 gi29 gi30 gi40 gi43 v99 (nI (2 ^ mn - 1)) G2 G3 G4 G5 G6 G7 G8 G10 G12 G13 G19 G20 G21 G22 G23 G24 G25 G26 G27 G28 G33 G34 G35 G36 G37 li0 wo0 de0 ag0 ev99 hmL hit hsu hliv hlib hwov hwob hdev hdeb hagv hagb hamt hLE hLO hLW hSH htt hmv) (cwV 2 hts gX8_of_X8_settlesTo rfl rfl rfl (by decide +kernel) ⟨Nat.le_of_ble_eq_true rfl, Nat.le_of_ble_eq_true rfl⟩) (k_preV hE hP hD [0, 1, 2, 3, 4, 5, 6, 7, 8, 9, 10, 11, 12, 13, 14, 15, 16, 17, 18, 19, 20, 21, 22, 23, 24, 25] (by decide +kernel) rfl 0 rfl rfl) rfl rfl hl.1 rfl (lv_room (Nat.le_of_ble_eq_true rfl)) dX8_of_63 ⟨Nat.le_of_ble_eq_true rfl, Nat.le_of_ble_eq_true rfl⟩) hP hD hS hA [0, 1, 2, 3, 4, 5, 6, 7, 8, 9, 10, 11, 12, 13, 14, 15, 16, 17, 18, 19, 20, 21, 22, 23, 24, 25] [26] rfl (wr := [(aIc cI g9 8 G9)]) rfl (by decide +kernel) (by decide +kernel) (fun u H locs hw102 hP hD hS => ?_)
        obtain ⟨z103, z104, z105, z106, z107, z108, z109, z110, z111, z112, z113, z114, z115, z116, z117, z118, z119, z120, z121, z122, hz123, hz124, hz125, hz126, hz127, hz128, hz129, rfl⟩ := hw102
        refine k_re (w := [(aIc cI g9 8 G9), (oX8 g 0 (nI mn) g2 g3 g4 g5 g6 g7 g8 g9 g10 (nI ml) g12 g13 gi14 g15 g16 g17 z120 g19 g20 g21 g22 g23 g24 g25 g26 g27 g28 z118 z119 (nI z121) (nI z122) g33 g34 g35 g36 g37 g38 g39 gi40 g41 g42 gi43 g44 g45), (aIc cI g2 8 G2), (aIc cI g3 8 G3), (aIc cI g4 8 G4), (aIc cI g5 8 G5), (aIc cI g6 8 G6), (aIc cI g7 8 G7), (aIc cI g8 8 G8), (aIc cI g10 64 G10), (aIc cI g12 10 G12), (aIc cI g13 10 G13), (aIc cI g19 8 z103), (aIc cI g20 8 z104), (aIc cI g21 8 z105), (aIc cI g22 8 z106), (aIc cI g23 8 z107), (aIc cI g24 8 z108), (aIc cI g25 8 z109), (aIc cI g26 8 z110), (aIc cI g27 8 z111), (aIc cI g28 8 z112), (aIc cI g33 8 z113), (aIc cI g34 8 z114), (aIc cI g35 8 z115), (aIc cI g36 8 z116), (aJc cJ g37 8 z117)]) hP hD (fun hP hD => ?_)
        refine lv_iload_n hx hb dX8_of_66 rfl (lv_at hl 2 rfl) ?_
        by_cases c130 : p1 = 0
        · skip
          refine lv_tableIn (tgt := 124) hx hb dX8_of_67 (by rw [c130]; decide) (by rw [c130]; decide) (off := 57) (by rw [c130]; rfl) (by decide) ?_
          refine lv_aload_n hx hb dX8_of_124 rfl (lv_at hl 0 rfl) ?_
          refine va_get (D := D) (ci := 8) (v := .ref g2) (C := RX8) (T := TX8) (N := 46) hx hb hts hiX8 hown hE.1 hP 1 rfl rfl 2 (by decide) (hts _ (List.mem_cons_of_mem _ wd_116)) (fun _ h9 => h9) rfl dX8_of_125 ?_
          refine lv_iload_n hx hb dX8_of_128 rfl (lv_at hl 1 rfl) ?_
          refine va_iald hx hb hE.1 hP 2 0 rfl rfl (vp_in_nI (n := pj) (by omega) (by decide)) dX8_of_129 ?_
          refine lv_topi (fun v131 ev131 => ?_)
          refine k_iret (u := [(oX8 g 0 (nI mn) g2 g3 g4 g5 g6 g7 g8 g9 g10 (nI ml) g12 g13 gi14 g15 g16 g17 z120 g19 g20 g21 g22 g23 g24 g25 g26 g27 g28 z118 z119 (nI z121) (nI z122) g33 g34 g35 g36 g37 g38 g39 gi40 g41 g42 gi43 g44 g45), (aIc cI g2 8 G2), (aIc cI g3 8 G3), (aIc cI g4 8 G4), (aIc cI g5 8 G5), (aIc cI g6 8 G6), (aIc cI g7 8 G7), (aIc cI g8 8 G8), (aIc cI g10 64 G10), (aIc cI g12 10 G12), (aIc cI g13 10 G13), (aIc cI g19 8 z103), (aIc cI g20 8 z104), (aIc cI g21 8 z105), (aIc cI g22 8 z106), (aIc cI g23 8 z107), (aIc cI g24 8 z108), (aIc cI g25 8 z109), (aIc cI g26 8 z110), (aIc cI g27 8 z111), (aIc cI g28 8 z112), (aIc cI g33 8 z113), (aIc cI g34 8 z114), (aIc cI g35 8 z115), (aIc cI g36 8 z116), (aJc cJ g37 8 z117), (aIc cI g9 8 G9)]) hx hb hr hlk (k_sub hP [1, 2, 3, 4, 5, 6, 7, 8, 9, 10, 11, 12, 13, 14, 15, 16, 17, 18, 19, 20, 21, 22, 23, 24, 25, 26, 0] rfl) (hD.sub [1, 2, 3, 4, 5, 6, 7, 8, 9, 10, 11, 12, 13, 14, 15, 16, 17, 18, 19, 20, 21, 22, 23, 24, 25, 26, 0] (by decide +kernel) rfl) hS dX8_of_130 ?_
          exact ⟨z103, z104, z105, z106, z107, z108, z109, z110, z111, z112, z113, z114, z115, z116, z117, z118, z119, z120, z121, z122, 0, hz123, hz124, hz125, hz126, hz127, hz128, rfl⟩
        by_cases c132 : p1 = 1
        · skip
          refine lv_tableIn (tgt := 131) hx hb dX8_of_67 (by rw [c132]; decide) (by rw [c132]; decide) (off := 64) (by rw [c132]; rfl) (by decide) ?_
          refine lv_aload_n hx hb dX8_of_131 rfl (lv_at hl 0 rfl) ?_
          refine va_get (D := D) (ci := 8) (v := .ref g3) (C := RX8) (T := TX8) (N := 46) hx hb hts hiX8 hown hE.1 hP 1 rfl rfl 3 (by decide) (hts _ (List.mem_cons_of_mem _ wd_117)) (fun _ h9 => h9) rfl dX8_of_132 ?_
          refine lv_iload_n hx hb dX8_of_135 rfl (lv_at hl 1 rfl) ?_
          refine va_iald hx hb hE.1 hP 3 0 rfl rfl (vp_in_nI (n := pj) (by omega) (by decide)) dX8_of_136 ?_
          refine lv_topi (fun v133 ev133 => ?_)
          refine k_iret (u := [(oX8 g 0 (nI mn) g2 g3 g4 g5 g6 g7 g8 g9 g10 (nI ml) g12 g13 gi14 g15 g16 g17 z120 g19 g20 g21 g22 g23 g24 g25 g26 g27 g28 z118 z119 (nI z121) (nI z122) g33 g34 g35 g36 g37 g38 g39 gi40 g41 g42 gi43 g44 g45), (aIc cI g2 8 G2), (aIc cI g3 8 G3), (aIc cI g4 8 G4), (aIc cI g5 8 G5), (aIc cI g6 8 G6), (aIc cI g7 8 G7), (aIc cI g8 8 G8), (aIc cI g10 64 G10), (aIc cI g12 10 G12), (aIc cI g13 10 G13), (aIc cI g19 8 z103), (aIc cI g20 8 z104), (aIc cI g21 8 z105), (aIc cI g22 8 z106), (aIc cI g23 8 z107), (aIc cI g24 8 z108), (aIc cI g25 8 z109), (aIc cI g26 8 z110), (aIc cI g27 8 z111), (aIc cI g28 8 z112), (aIc cI g33 8 z113), (aIc cI g34 8 z114), (aIc cI g35 8 z115), (aIc cI g36 8 z116), (aJc cJ g37 8 z117), (aIc cI g9 8 G9)]) hx hb hr hlk (k_sub hP [1, 2, 3, 4, 5, 6, 7, 8, 9, 10, 11, 12, 13, 14, 15, 16, 17, 18, 19, 20, 21, 22, 23, 24, 25, 26, 0] rfl) (hD.sub [1, 2, 3, 4, 5, 6, 7, 8, 9, 10, 11, 12, 13, 14, 15, 16, 17, 18, 19, 20, 21, 22, 23, 24, 25, 26, 0] (by decide +kernel) rfl) hS dX8_of_137 ?_
          exact ⟨z103, z104, z105, z106, z107, z108, z109, z110, z111, z112, z113, z114, z115, z116, z117, z118, z119, z120, z121, z122, 0, hz123, hz124, hz125, hz126, hz127, hz128, rfl⟩
        by_cases c134 : p1 = 2
        · skip
          refine lv_tableIn (tgt := 138) hx hb dX8_of_67 (by rw [c134]; decide) (by rw [c134]; decide) (off := 71) (by rw [c134]; rfl) (by decide) ?_
          refine lv_aload_n hx hb dX8_of_138 rfl (lv_at hl 0 rfl) ?_
          refine va_get (D := D) (ci := 8) (v := .ref g4) (C := RX8) (T := TX8) (N := 46) hx hb hts hiX8 hown hE.1 hP 1 rfl rfl 4 (by decide) (hts _ (List.mem_cons_of_mem _ wd_118)) (fun _ h9 => h9) rfl dX8_of_139 ?_
          refine lv_iload_n hx hb dX8_of_142 rfl (lv_at hl 1 rfl) ?_
          refine va_iald hx hb hE.1 hP 4 0 rfl rfl (vp_in_nI (n := pj) (by omega) (by decide)) dX8_of_143 ?_
          refine lv_topi (fun v135 ev135 => ?_)
          refine k_iret (u := [(oX8 g 0 (nI mn) g2 g3 g4 g5 g6 g7 g8 g9 g10 (nI ml) g12 g13 gi14 g15 g16 g17 z120 g19 g20 g21 g22 g23 g24 g25 g26 g27 g28 z118 z119 (nI z121) (nI z122) g33 g34 g35 g36 g37 g38 g39 gi40 g41 g42 gi43 g44 g45), (aIc cI g2 8 G2), (aIc cI g3 8 G3), (aIc cI g4 8 G4), (aIc cI g5 8 G5), (aIc cI g6 8 G6), (aIc cI g7 8 G7), (aIc cI g8 8 G8), (aIc cI g10 64 G10), (aIc cI g12 10 G12), (aIc cI g13 10 G13), (aIc cI g19 8 z103), (aIc cI g20 8 z104), (aIc cI g21 8 z105), (aIc cI g22 8 z106), (aIc cI g23 8 z107), (aIc cI g24 8 z108), (aIc cI g25 8 z109), (aIc cI g26 8 z110), (aIc cI g27 8 z111), (aIc cI g28 8 z112), (aIc cI g33 8 z113), (aIc cI g34 8 z114), (aIc cI g35 8 z115), (aIc cI g36 8 z116), (aJc cJ g37 8 z117), (aIc cI g9 8 G9)]) hx hb hr hlk (k_sub hP [1, 2, 3, 4, 5, 6, 7, 8, 9, 10, 11, 12, 13, 14, 15, 16, 17, 18, 19, 20, 21, 22, 23, 24, 25, 26, 0] rfl) (hD.sub [1, 2, 3, 4, 5, 6, 7, 8, 9, 10, 11, 12, 13, 14, 15, 16, 17, 18, 19, 20, 21, 22, 23, 24, 25, 26, 0] (by decide +kernel) rfl) hS dX8_of_144 ?_
          exact ⟨z103, z104, z105, z106, z107, z108, z109, z110, z111, z112, z113, z114, z115, z116, z117, z118, z119, z120, z121, z122, 0, hz123, hz124, hz125, hz126, hz127, hz128, rfl⟩
        by_cases c136 : p1 = 3
        · skip
          refine lv_tableIn (tgt := 145) hx hb dX8_of_67 (by rw [c136]; decide) (by rw [c136]; decide) (off := 78) (by rw [c136]; rfl) (by decide) ?_
          refine lv_aload_n hx hb dX8_of_145 rfl (lv_at hl 0 rfl) ?_
          refine va_get (D := D) (ci := 8) (v := .ref g5) (C := RX8) (T := TX8) (N := 46) hx hb hts hiX8 hown hE.1 hP 1 rfl rfl 5 (by decide) (hts _ (List.mem_cons_of_mem _ wd_119)) (fun _ h9 => h9) rfl dX8_of_146 ?_
          refine lv_iload_n hx hb dX8_of_149 rfl (lv_at hl 1 rfl) ?_
          refine va_iald hx hb hE.1 hP 5 0 rfl rfl (vp_in_nI (n := pj) (by omega) (by decide)) dX8_of_150 ?_
          refine lv_topi (fun v137 ev137 => ?_)
          refine k_iret (u := [(oX8 g 0 (nI mn) g2 g3 g4 g5 g6 g7 g8 g9 g10 (nI ml) g12 g13 gi14 g15 g16 g17 z120 g19 g20 g21 g22 g23 g24 g25 g26 g27 g28 z118 z119 (nI z121) (nI z122) g33 g34 g35 g36 g37 g38 g39 gi40 g41 g42 gi43 g44 g45), (aIc cI g2 8 G2), (aIc cI g3 8 G3), (aIc cI g4 8 G4), (aIc cI g5 8 G5), (aIc cI g6 8 G6), (aIc cI g7 8 G7), (aIc cI g8 8 G8), (aIc cI g10 64 G10), (aIc cI g12 10 G12), (aIc cI g13 10 G13), (aIc cI g19 8 z103), (aIc cI g20 8 z104), (aIc cI g21 8 z105), (aIc cI g22 8 z106), (aIc cI g23 8 z107), (aIc cI g24 8 z108), (aIc cI g25 8 z109), (aIc cI g26 8 z110), (aIc cI g27 8 z111), (aIc cI g28 8 z112), (aIc cI g33 8 z113), (aIc cI g34 8 z114), (aIc cI g35 8 z115), (aIc cI g36 8 z116), (aJc cJ g37 8 z117), (aIc cI g9 8 G9)]) hx hb hr hlk (k_sub hP [1, 2, 3, 4, 5, 6, 7, 8, 9, 10, 11, 12, 13, 14, 15, 16, 17, 18, 19, 20, 21, 22, 23, 24, 25, 26, 0] rfl) (hD.sub [1, 2, 3, 4, 5, 6, 7, 8, 9, 10, 11, 12, 13, 14, 15, 16, 17, 18, 19, 20, 21, 22, 23, 24, 25, 26, 0] (by decide +kernel) rfl) hS dX8_of_151 ?_
          exact ⟨z103, z104, z105, z106, z107, z108, z109, z110, z111, z112, z113, z114, z115, z116, z117, z118, z119, z120, z121, z122, 0, hz123, hz124, hz125, hz126, hz127, hz128, rfl⟩
        by_cases c138 : p1 = 4
        · skip
          refine lv_tableIn (tgt := 152) hx hb dX8_of_67 (by rw [c138]; decide) (by rw [c138]; decide) (off := 85) (by rw [c138]; rfl) (by decide) ?_
          refine lv_aload_n hx hb dX8_of_152 rfl (lv_at hl 0 rfl) ?_
          refine va_get (D := D) (ci := 8) (v := .ref g6) (C := RX8) (T := TX8) (N := 46) hx hb hts hiX8 hown hE.1 hP 1 rfl rfl 6 (by decide) (hts _ (List.mem_cons_of_mem _ wd_120)) (fun _ h9 => h9) rfl dX8_of_153 ?_
          refine lv_iload_n hx hb dX8_of_156 rfl (lv_at hl 1 rfl) ?_
          refine va_iald hx hb hE.1 hP 6 0 rfl rfl (vp_in_nI (n := pj) (by omega) (by decide)) dX8_of_157 ?_
          refine lv_topi (fun v139 ev139 => ?_)
          refine k_iret (u := [(oX8 g 0 (nI mn) g2 g3 g4 g5 g6 g7 g8 g9 g10 (nI ml) g12 g13 gi14 g15 g16 g17 z120 g19 g20 g21 g22 g23 g24 g25 g26 g27 g28 z118 z119 (nI z121) (nI z122) g33 g34 g35 g36 g37 g38 g39 gi40 g41 g42 gi43 g44 g45), (aIc cI g2 8 G2), (aIc cI g3 8 G3), (aIc cI g4 8 G4), (aIc cI g5 8 G5), (aIc cI g6 8 G6), (aIc cI g7 8 G7), (aIc cI g8 8 G8), (aIc cI g10 64 G10), (aIc cI g12 10 G12), (aIc cI g13 10 G13), (aIc cI g19 8 z103), (aIc cI g20 8 z104), (aIc cI g21 8 z105), (aIc cI g22 8 z106), (aIc cI g23 8 z107), (aIc cI g24 8 z108), (aIc cI g25 8 z109), (aIc cI g26 8 z110), (aIc cI g27 8 z111), (aIc cI g28 8 z112), (aIc cI g33 8 z113), (aIc cI g34 8 z114), (aIc cI g35 8 z115), (aIc cI g36 8 z116), (aJc cJ g37 8 z117), (aIc cI g9 8 G9)]) hx hb hr hlk (k_sub hP [1, 2, 3, 4, 5, 6, 7, 8, 9, 10, 11, 12, 13, 14, 15, 16, 17, 18, 19, 20, 21, 22, 23, 24, 25, 26, 0] rfl) (hD.sub [1, 2, 3, 4, 5, 6, 7, 8, 9, 10, 11, 12, 13, 14, 15, 16, 17, 18, 19, 20, 21, 22, 23, 24, 25, 26, 0] (by decide +kernel) rfl) hS dX8_of_158 ?_
          exact ⟨z103, z104, z105, z106, z107, z108, z109, z110, z111, z112, z113, z114, z115, z116, z117, z118, z119, z120, z121, z122, 0, hz123, hz124, hz125, hz126, hz127, hz128, rfl⟩
        by_cases c140 : p1 = 5
        · skip
          refine lv_tableIn (tgt := 159) hx hb dX8_of_67 (by rw [c140]; decide) (by rw [c140]; decide) (off := 92) (by rw [c140]; rfl) (by decide) ?_
          refine lv_aload_n hx hb dX8_of_159 rfl (lv_at hl 0 rfl) ?_
          refine va_get (D := D) (ci := 8) (v := .ref g7) (C := RX8) (T := TX8) (N := 46) hx hb hts hiX8 hown hE.1 hP 1 rfl rfl 7 (by decide) (hts _ (List.mem_cons_of_mem _ wd_121)) (fun _ h9 => h9) rfl dX8_of_160 ?_
          refine lv_iload_n hx hb dX8_of_163 rfl (lv_at hl 1 rfl) ?_
          refine va_iald hx hb hE.1 hP 7 0 rfl rfl (vp_in_nI (n := pj) (by omega) (by decide)) dX8_of_164 ?_
          refine lv_topi (fun v141 ev141 => ?_)
          refine k_iret (u := [(oX8 g 0 (nI mn) g2 g3 g4 g5 g6 g7 g8 g9 g10 (nI ml) g12 g13 gi14 g15 g16 g17 z120 g19 g20 g21 g22 g23 g24 g25 g26 g27 g28 z118 z119 (nI z121) (nI z122) g33 g34 g35 g36 g37 g38 g39 gi40 g41 g42 gi43 g44 g45), (aIc cI g2 8 G2), (aIc cI g3 8 G3), (aIc cI g4 8 G4), (aIc cI g5 8 G5), (aIc cI g6 8 G6), (aIc cI g7 8 G7), (aIc cI g8 8 G8), (aIc cI g10 64 G10), (aIc cI g12 10 G12), (aIc cI g13 10 G13), (aIc cI g19 8 z103), (aIc cI g20 8 z104), (aIc cI g21 8 z105), (aIc cI g22 8 z106), (aIc cI g23 8 z107), (aIc cI g24 8 z108), (aIc cI g25 8 z109), (aIc cI g26 8 z110), (aIc cI g27 8 z111), (aIc cI g28 8 z112), (aIc cI g33 8 z113), (aIc cI g34 8 z114), (aIc cI g35 8 z115), (aIc cI g36 8 z116), (aJc cJ g37 8 z117), (aIc cI g9 8 G9)]) hx hb hr hlk (k_sub hP [1, 2, 3, 4, 5, 6, 7, 8, 9, 10, 11, 12, 13, 14, 15, 16, 17, 18, 19, 20, 21, 22, 23, 24, 25, 26, 0] rfl) (hD.sub [1, 2, 3, 4, 5, 6, 7, 8, 9, 10, 11, 12, 13, 14, 15, 16, 17, 18, 19, 20, 21, 22, 23, 24, 25, 26, 0] (by decide +kernel) rfl) hS dX8_of_165 ?_
          exact ⟨z103, z104, z105, z106, z107, z108, z109, z110, z111, z112, z113, z114, z115, z116, z117, z118, z119, z120, z121, z122, 0, hz123, hz124, hz125, hz126, hz127, hz128, rfl⟩
        by_cases c142 : p1 = 6
        · skip
          refine lv_tableIn (tgt := 166) hx hb dX8_of_67 (by rw [c142]; decide) (by rw [c142]; decide) (off := 99) (by rw [c142]; rfl) (by decide) ?_
          refine lv_aload_n hx hb dX8_of_166 rfl (lv_at hl 0 rfl) ?_
          refine va_get (D := D) (ci := 8) (v := .ref g8) (C := RX8) (T := TX8) (N := 46) hx hb hts hiX8 hown hE.1 hP 1 rfl rfl 8 (by decide) (hts _ (List.mem_cons_of_mem _ wd_122)) (fun _ h9 => h9) rfl dX8_of_167 ?_
          refine lv_iload_n hx hb dX8_of_170 rfl (lv_at hl 1 rfl) ?_
          refine va_iald hx hb hE.1 hP 8 0 rfl rfl (vp_in_nI (n := pj) (by omega) (by decide)) dX8_of_171 ?_
          refine lv_topi (fun v143 ev143 => ?_)
          refine k_iret (u := [(oX8 g 0 (nI mn) g2 g3 g4 g5 g6 g7 g8 g9 g10 (nI ml) g12 g13 gi14 g15 g16 g17 z120 g19 g20 g21 g22 g23 g24 g25 g26 g27 g28 z118 z119 (nI z121) (nI z122) g33 g34 g35 g36 g37 g38 g39 gi40 g41 g42 gi43 g44 g45), (aIc cI g2 8 G2), (aIc cI g3 8 G3), (aIc cI g4 8 G4), (aIc cI g5 8 G5), (aIc cI g6 8 G6), (aIc cI g7 8 G7), (aIc cI g8 8 G8), (aIc cI g10 64 G10), (aIc cI g12 10 G12), (aIc cI g13 10 G13), (aIc cI g19 8 z103), (aIc cI g20 8 z104), (aIc cI g21 8 z105), (aIc cI g22 8 z106), (aIc cI g23 8 z107), (aIc cI g24 8 z108), (aIc cI g25 8 z109), (aIc cI g26 8 z110), (aIc cI g27 8 z111), (aIc cI g28 8 z112), (aIc cI g33 8 z113), (aIc cI g34 8 z114), (aIc cI g35 8 z115), (aIc cI g36 8 z116), (aJc cJ g37 8 z117), (aIc cI g9 8 G9)]) hx hb hr hlk (k_sub hP [1, 2, 3, 4, 5, 6, 7, 8, 9, 10, 11, 12, 13, 14, 15, 16, 17, 18, 19, 20, 21, 22, 23, 24, 25, 26, 0] rfl) (hD.sub [1, 2, 3, 4, 5, 6, 7, 8, 9, 10, 11, 12, 13, 14, 15, 16, 17, 18, 19, 20, 21, 22, 23, 24, 25, 26, 0] (by decide +kernel) rfl) hS dX8_of_172 ?_
          exact ⟨z103, z104, z105, z106, z107, z108, z109, z110, z111, z112, z113, z114, z115, z116, z117, z118, z119, z120, z121, z122, 0, hz123, hz124, hz125, hz126, hz127, hz128, rfl⟩
        by_cases c144 : p1 = 7
        · skip
          refine lv_tableIn (tgt := 173) hx hb dX8_of_67 (by rw [c144]; decide) (by rw [c144]; decide) (off := 106) (by rw [c144]; rfl) (by decide) ?_
          refine lv_aload_n hx hb dX8_of_173 rfl (lv_at hl 0 rfl) ?_
          refine va_get (D := D) (ci := 8) (v := .ref g3) (C := RX8) (T := TX8) (N := 46) hx hb hts hiX8 hown hE.1 hP 1 rfl rfl 3 (by decide) (hts _ (List.mem_cons_of_mem _ wd_117)) (fun _ h9 => h9) rfl dX8_of_174 ?_
          refine lv_iload_n hx hb dX8_of_177 rfl (lv_at hl 1 rfl) ?_
          refine va_iald hx hb hE.1 hP 3 0 rfl rfl (vp_in_nI (n := pj) (by omega) (by decide)) dX8_of_178 ?_
          refine lv_topi (fun v145 ev145 => ?_)
          refine lv_aload_n hx hb dX8_of_179 rfl (lv_at hl 0 rfl) ?_
          refine va_get (D := D) (ci := 8) (v := .ref g28) (C := RX8) (T := TX8) (N := 46) hx hb hts hiX8 hown hE.1 hP 1 rfl rfl 28 (by decide) (hts _ (List.mem_cons_of_mem _ wd_139)) (fun _ h9 => h9) rfl dX8_of_180 ?_
          refine lv_iload_n hx hb dX8_of_183 rfl (lv_at hl 1 rfl) ?_
          refine va_iald hx hb hE.1 hP 21 0 rfl rfl (vp_in_nI (n := pj) (by omega) (by decide)) dX8_of_184 ?_
          refine lv_topi (fun v146 ev146 => ?_)
          refine lv_isub hx hb dX8_of_185 ?_
          refine lv_topi (fun v147 ev147 => ?_)
          refine k_iret (u := [(oX8 g 0 (nI mn) g2 g3 g4 g5 g6 g7 g8 g9 g10 (nI ml) g12 g13 gi14 g15 g16 g17 z120 g19 g20 g21 g22 g23 g24 g25 g26 g27 g28 z118 z119 (nI z121) (nI z122) g33 g34 g35 g36 g37 g38 g39 gi40 g41 g42 gi43 g44 g45), (aIc cI g2 8 G2), (aIc cI g3 8 G3), (aIc cI g4 8 G4), (aIc cI g5 8 G5), (aIc cI g6 8 G6), (aIc cI g7 8 G7), (aIc cI g8 8 G8), (aIc cI g10 64 G10), (aIc cI g12 10 G12), (aIc cI g13 10 G13), (aIc cI g19 8 z103), (aIc cI g20 8 z104), (aIc cI g21 8 z105), (aIc cI g22 8 z106), (aIc cI g23 8 z107), (aIc cI g24 8 z108), (aIc cI g25 8 z109), (aIc cI g26 8 z110), (aIc cI g27 8 z111), (aIc cI g28 8 z112), (aIc cI g33 8 z113), (aIc cI g34 8 z114), (aIc cI g35 8 z115), (aIc cI g36 8 z116), (aJc cJ g37 8 z117), (aIc cI g9 8 G9)]) hx hb hr hlk (k_sub hP [1, 2, 3, 4, 5, 6, 7, 8, 9, 10, 11, 12, 13, 14, 15, 16, 17, 18, 19, 20, 21, 22, 23, 24, 25, 26, 0] rfl) (hD.sub [1, 2, 3, 4, 5, 6, 7, 8, 9, 10, 11, 12, 13, 14, 15, 16, 17, 18, 19, 20, 21, 22, 23, 24, 25, 26, 0] (by decide +kernel) rfl) hS dX8_of_186 ?_
          exact ⟨z103, z104, z105, z106, z107, z108, z109, z110, z111, z112, z113, z114, z115, z116, z117, z118, z119, z120, z121, z122, 0, hz123, hz124, hz125, hz126, hz127, hz128, rfl⟩
        by_cases c148 : p1 = 8
        · skip
          refine lv_tableIn (tgt := 187) hx hb dX8_of_67 (by rw [c148]; decide) (by rw [c148]; decide) (off := 120) (by rw [c148]; rfl) (by decide) ?_
          refine lv_aload_n hx hb dX8_of_187 rfl (lv_at hl 0 rfl) ?_
          refine va_get (D := D) (ci := 8) (v := .ref g28) (C := RX8) (T := TX8) (N := 46) hx hb hts hiX8 hown hE.1 hP 1 rfl rfl 28 (by decide) (hts _ (List.mem_cons_of_mem _ wd_139)) (fun _ h9 => h9) rfl dX8_of_188 ?_
          refine lv_iload_n hx hb dX8_of_191 rfl (lv_at hl 1 rfl) ?_
          refine va_iald hx hb hE.1 hP 21 0 rfl rfl (vp_in_nI (n := pj) (by omega) (by decide)) dX8_of_192 ?_
          refine lv_topi (fun v149 ev149 => ?_)
          refine k_iret (u := [(oX8 g 0 (nI mn) g2 g3 g4 g5 g6 g7 g8 g9 g10 (nI ml) g12 g13 gi14 g15 g16 g17 z120 g19 g20 g21 g22 g23 g24 g25 g26 g27 g28 z118 z119 (nI z121) (nI z122) g33 g34 g35 g36 g37 g38 g39 gi40 g41 g42 gi43 g44 g45), (aIc cI g2 8 G2), (aIc cI g3 8 G3), (aIc cI g4 8 G4), (aIc cI g5 8 G5), (aIc cI g6 8 G6), (aIc cI g7 8 G7), (aIc cI g8 8 G8), (aIc cI g10 64 G10), (aIc cI g12 10 G12), (aIc cI g13 10 G13), (aIc cI g19 8 z103), (aIc cI g20 8 z104), (aIc cI g21 8 z105), (aIc cI g22 8 z106), (aIc cI g23 8 z107), (aIc cI g24 8 z108), (aIc cI g25 8 z109), (aIc cI g26 8 z110), (aIc cI g27 8 z111), (aIc cI g28 8 z112), (aIc cI g33 8 z113), (aIc cI g34 8 z114), (aIc cI g35 8 z115), (aIc cI g36 8 z116), (aJc cJ g37 8 z117), (aIc cI g9 8 G9)]) hx hb hr hlk (k_sub hP [1, 2, 3, 4, 5, 6, 7, 8, 9, 10, 11, 12, 13, 14, 15, 16, 17, 18, 19, 20, 21, 22, 23, 24, 25, 26, 0] rfl) (hD.sub [1, 2, 3, 4, 5, 6, 7, 8, 9, 10, 11, 12, 13, 14, 15, 16, 17, 18, 19, 20, 21, 22, 23, 24, 25, 26, 0] (by decide +kernel) rfl) hS dX8_of_193 ?_
          exact ⟨z103, z104, z105, z106, z107, z108, z109, z110, z111, z112, z113, z114, z115, z116, z117, z118, z119, z120, z121, z122, 0, hz123, hz124, hz125, hz126, hz127, hz128, rfl⟩
        by_cases c150 : p1 = 9
        · skip
          refine lv_tableIn (tgt := 194) hx hb dX8_of_67 (by rw [c150]; decide) (by rw [c150]; decide) (off := 127) (by rw [c150]; rfl) (by decide) ?_
          refine lv_aload_n hx hb dX8_of_194 rfl (lv_at hl 0 rfl) ?_
          refine va_get (D := D) (ci := 8) (v := .ref g9) (C := RX8) (T := TX8) (N := 46) hx hb hts hiX8 hown hE.1 hP 1 rfl rfl 9 (by decide) (hts _ (List.mem_cons_of_mem _ wd_123)) (fun _ h9 => h9) rfl dX8_of_195 ?_
          refine lv_iload_n hx hb dX8_of_198 rfl (lv_at hl 1 rfl) ?_
          refine va_iald hx hb hE.1 hP 0 0 rfl rfl (vp_in_nI (n := pj) (by omega) (by decide)) dX8_of_199 ?_
          refine lv_topi (fun v151 ev151 => ?_)
          refine k_iret (u := [(oX8 g 0 (nI mn) g2 g3 g4 g5 g6 g7 g8 g9 g10 (nI ml) g12 g13 gi14 g15 g16 g17 z120 g19 g20 g21 g22 g23 g24 g25 g26 g27 g28 z118 z119 (nI z121) (nI z122) g33 g34 g35 g36 g37 g38 g39 gi40 g41 g42 gi43 g44 g45), (aIc cI g2 8 G2), (aIc cI g3 8 G3), (aIc cI g4 8 G4), (aIc cI g5 8 G5), (aIc cI g6 8 G6), (aIc cI g7 8 G7), (aIc cI g8 8 G8), (aIc cI g10 64 G10), (aIc cI g12 10 G12), (aIc cI g13 10 G13), (aIc cI g19 8 z103), (aIc cI g20 8 z104), (aIc cI g21 8 z105), (aIc cI g22 8 z106), (aIc cI g23 8 z107), (aIc cI g24 8 z108), (aIc cI g25 8 z109), (aIc cI g26 8 z110), (aIc cI g27 8 z111), (aIc cI g28 8 z112), (aIc cI g33 8 z113), (aIc cI g34 8 z114), (aIc cI g35 8 z115), (aIc cI g36 8 z116), (aJc cJ g37 8 z117), (aIc cI g9 8 G9)]) hx hb hr hlk (k_sub hP [1, 2, 3, 4, 5, 6, 7, 8, 9, 10, 11, 12, 13, 14, 15, 16, 17, 18, 19, 20, 21, 22, 23, 24, 25, 26, 0] rfl) (hD.sub [1, 2, 3, 4, 5, 6, 7, 8, 9, 10, 11, 12, 13, 14, 15, 16, 17, 18, 19, 20, 21, 22, 23, 24, 25, 26, 0] (by decide +kernel) rfl) hS dX8_of_200 ?_
          exact ⟨z103, z104, z105, z106, z107, z108, z109, z110, z111, z112, z113, z114, z115, z116, z117, z118, z119, z120, z121, z122, 0, hz123, hz124, hz125, hz126, hz127, hz128, rfl⟩
        by_cases c152 : p1 = 10
        · skip
          refine lv_tableIn (tgt := 201) hx hb dX8_of_67 (by rw [c152]; decide) (by rw [c152]; decide) (off := 134) (by rw [c152]; rfl) (by decide) ?_
          refine lv_aload_n hx hb dX8_of_201 rfl (lv_at hl 0 rfl) ?_
          refine lv_iload_n hx hb dX8_of_202 rfl (lv_at hl 1 rfl) ?_
          refine k_i (va_runV (As := [.int (nI pj)]) (rest := []) ⟨hx, hb, hml, hown, hts⟩ (m_X8_lastLoss l D cI cJ H.size g g2 g3 g4 g5 g6 g7 g8 g9 g10 g12 g13 g15 g16 g17 g19 g20 g21 g22 g23 g24 g25 g26 g27 g28 g33 g34 g35 g36 g37 g38 g39 g41 g42 g44 g45 pj mn ml z121 z122 0 gi14 z120 z118 z119 gi40 gi43 G2 G3 G4 G5 G6 G7 G8 G10 G12 G13 z103 z104 z105 z106 z107 z108 z109 z110 z111 z112 z113 z114 z115 z116 z117 li0 wo0 de0 ag0 hmn hmL hit hsu hliv hlib hwov hwob hdev hdeb hagv hagb hamt hz123 hz124 hz125 hz126 hz127 hz128 (by omega)) (cwV 1 hts gX8_of_X8_lastLoss rfl rfl rfl (by decide +kernel) ⟨Nat.le_of_ble_eq_true rfl, Nat.le_of_ble_eq_true rfl⟩) (k_preV hE hP hD [1, 2, 3, 4, 5, 6, 7, 8, 9, 10, 11, 12, 13, 14, 15, 16, 17, 18, 19, 20, 21, 22, 23, 24, 25, 26] (by decide +kernel) rfl 1 rfl rfl) rfl rfl hl.1 rfl (lv_room (Nat.le_of_ble_eq_true rfl)) dX8_of_203 ⟨Nat.le_of_ble_eq_true rfl, Nat.le_of_ble_eq_true rfl⟩) hP hD hS hA [1, 2, 3, 4, 5, 6, 7, 8, 9, 10, 11, 12, 13, 14, 15, 16, 17, 18, 19, 20, 21, 22, 23, 24, 25, 26] [0] rfl (wr := [(aIc cI g9 8 G9)]) rfl (by decide +kernel) (by decide +kernel) (fun r153 u H locs hw154 hP hD hS => ?_)
          obtain ⟨z155, z156, z157, z158, z159, z160, z161, z162, z163, z164, z165, z166, z167, z168, z169, z170, z171, z172, z173, z174, hz175, hz176, hz177, hz178, hz179, hz180, rfl⟩ := hw154
          refine k_re (w := [(aIc cI g9 8 G9), (oX8 g 0 (nI mn) g2 g3 g4 g5 g6 g7 g8 g9 g10 (nI ml) g12 g13 gi14 g15 g16 g17 z172 g19 g20 g21 g22 g23 g24 g25 g26 g27 g28 z170 z171 (nI z173) (nI z174) g33 g34 g35 g36 g37 g38 g39 gi40 g41 g42 gi43 g44 g45), (aIc cI g2 8 G2), (aIc cI g3 8 G3), (aIc cI g4 8 G4), (aIc cI g5 8 G5), (aIc cI g6 8 G6), (aIc cI g7 8 G7), (aIc cI g8 8 G8), (aIc cI g10 64 G10), (aIc cI g12 10 G12), (aIc cI g13 10 G13), (aIc cI g19 8 z155), (aIc cI g20 8 z156), (aIc cI g21 8 z157), (aIc cI g22 8 z158), (aIc cI g23 8 z159), (aIc cI g24 8 z160), (aIc cI g25 8 z161), (aIc cI g26 8 z162), (aIc cI g27 8 z163), (aIc cI g28 8 z164), (aIc cI g33 8 z165), (aIc cI g34 8 z166), (aIc cI g35 8 z167), (aIc cI g36 8 z168), (aJc cJ g37 8 z169)]) hP hD (fun hP hD => ?_)
          refine k_iret (u := [(oX8 g 0 (nI mn) g2 g3 g4 g5 g6 g7 g8 g9 g10 (nI ml) g12 g13 gi14 g15 g16 g17 z172 g19 g20 g21 g22 g23 g24 g25 g26 g27 g28 z170 z171 (nI z173) (nI z174) g33 g34 g35 g36 g37 g38 g39 gi40 g41 g42 gi43 g44 g45), (aIc cI g2 8 G2), (aIc cI g3 8 G3), (aIc cI g4 8 G4), (aIc cI g5 8 G5), (aIc cI g6 8 G6), (aIc cI g7 8 G7), (aIc cI g8 8 G8), (aIc cI g10 64 G10), (aIc cI g12 10 G12), (aIc cI g13 10 G13), (aIc cI g19 8 z155), (aIc cI g20 8 z156), (aIc cI g21 8 z157), (aIc cI g22 8 z158), (aIc cI g23 8 z159), (aIc cI g24 8 z160), (aIc cI g25 8 z161), (aIc cI g26 8 z162), (aIc cI g27 8 z163), (aIc cI g28 8 z164), (aIc cI g33 8 z165), (aIc cI g34 8 z166), (aIc cI g35 8 z167), (aIc cI g36 8 z168), (aJc cJ g37 8 z169), (aIc cI g9 8 G9)]) hx hb hr hlk (k_sub hP [1, 2, 3, 4, 5, 6, 7, 8, 9, 10, 11, 12, 13, 14, 15, 16, 17, 18, 19, 20, 21, 22, 23, 24, 25, 26, 0] rfl) (hD.sub [1, 2, 3, 4, 5, 6, 7, 8, 9, 10, 11, 12, 13, 14, 15, 16, 17, 18, 19, 20, 21, 22, 23, 24, 25, 26, 0] (by decide +kernel) rfl) hS dX8_of_206 ?_
          exact ⟨z155, z156, z157, z158, z159, z160, z161, z162, z163, z164, z165, z166, z167, z168, z169, z170, z171, z172, z173, z174, 0, hz175, hz176, hz177, hz178, hz179, hz180, rfl⟩
        refine lv_tableOut (tgt := 207) hx hb dX8_of_67 (sw_out11 c130 c132 c134 c136 c138 c140 c142 c144 c148 c150 c152) (by decide) ?_
        obtain ⟨wj, hwj, ewj⟩ := nI_of2 (x := p1) (M := 27) (n := 27) rfl (Int32.not_lt.mpr (Int32.le_trans (by decide) hc96.1)) hc96.2
        have hw20 : 20 ≤ wj := (nI_leI (a := 20) (b := wj) (by decide) (by omega)).mp (by rw [← ewj]; exact hc96.1)
        rw [ewj] at hl
        refine lv_aload_n hx hb dX8_of_207 rfl (lv_at hl 0 rfl) ?_
        refine va_get (D := D) (ci := 8) (v := .ref g10) (C := RX8) (T := TX8) (N := 46) hx hb hts hiX8 hown hE.1 hP 1 rfl rfl 10 (by decide) (hts _ (List.mem_cons_of_mem _ wd_124)) (fun _ h9 => h9) rfl dX8_of_208 ?_
        refine lv_bipush (v := 8) hx hb dX8_of_211 (by decide) ?_
        refine lv_iload_n hx hb dX8_of_213 rfl (lv_at hl 1 rfl) ?_
        refine lv_imul hx hb dX8_of_214 ?_
        refine lv_topi (fun v181 ev181 => ?_)
        obtain rfl : v181 = (nI (8 * pj)) := by rw [ev181]; exact pk_mul 8 pj
        refine lv_iload_n hx hb dX8_of_215 rfl (lv_at hl 2 rfl) ?_
        refine lv_iadd hx hb dX8_of_216 ?_
        refine lv_topi (fun v182 ev182 => ?_)
        obtain rfl : v182 = (nI (8 * pj + wj)) := by rw [ev182]; exact nI_add (8 * pj) wj
        refine lv_bipush (v := 20) hx hb dX8_of_217 (by decide) ?_
        refine lv_isub hx hb dX8_of_219 ?_
        refine lv_topi (fun v183 ev183 => ?_)
        obtain rfl : v183 = nI (8 * pj + wj - 20) := by rw [ev183]; exact pk_sub (a := 8 * pj + wj) (b := 20) (by omega)
        refine va_iald hx hb hE.1 hP 9 0 rfl rfl (vp_in_nI (n := 8 * pj + wj - 20) (by omega) (by decide)) dX8_of_220 ?_
        refine lv_topi (fun v184 ev184 => ?_)
        refine lv_iconst (v := 1) hx hb dX8_of_221 (by decide) ?_
        refine lv_isub hx hb dX8_of_222 ?_
        refine lv_topi (fun v185 ev185 => ?_)
        refine k_iret (u := [(oX8 g 0 (nI mn) g2 g3 g4 g5 g6 g7 g8 g9 g10 (nI ml) g12 g13 gi14 g15 g16 g17 z120 g19 g20 g21 g22 g23 g24 g25 g26 g27 g28 z118 z119 (nI z121) (nI z122) g33 g34 g35 g36 g37 g38 g39 gi40 g41 g42 gi43 g44 g45), (aIc cI g2 8 G2), (aIc cI g3 8 G3), (aIc cI g4 8 G4), (aIc cI g5 8 G5), (aIc cI g6 8 G6), (aIc cI g7 8 G7), (aIc cI g8 8 G8), (aIc cI g10 64 G10), (aIc cI g12 10 G12), (aIc cI g13 10 G13), (aIc cI g19 8 z103), (aIc cI g20 8 z104), (aIc cI g21 8 z105), (aIc cI g22 8 z106), (aIc cI g23 8 z107), (aIc cI g24 8 z108), (aIc cI g25 8 z109), (aIc cI g26 8 z110), (aIc cI g27 8 z111), (aIc cI g28 8 z112), (aIc cI g33 8 z113), (aIc cI g34 8 z114), (aIc cI g35 8 z115), (aIc cI g36 8 z116), (aJc cJ g37 8 z117), (aIc cI g9 8 G9)]) hx hb hr hlk (k_sub hP [1, 2, 3, 4, 5, 6, 7, 8, 9, 10, 11, 12, 13, 14, 15, 16, 17, 18, 19, 20, 21, 22, 23, 24, 25, 26, 0] rfl) (hD.sub [1, 2, 3, 4, 5, 6, 7, 8, 9, 10, 11, 12, 13, 14, 15, 16, 17, 18, 19, 20, 21, 22, 23, 24, 25, 26, 0] (by decide +kernel) rfl) hS dX8_of_223 ?_
        exact ⟨z103, z104, z105, z106, z107, z108, z109, z110, z111, z112, z113, z114, z115, z116, z117, z118, z119, z120, z121, z122, 0, hz123, hz124, hz125, hz126, hz127, hz128, rfl⟩
theorem dX8_isLead_0 : decode cX8_isLead 0 = .ok (.aload_n 0, 1) := by decide +kernel
theorem dX8_isLead_1 : decode cX8_isLead 1 = .ok (.getfield 64, 3) := by decide +kernel
theorem dX8_isLead_4 : decode cX8_isLead 4 = .ok (.iload_n 1, 1) := by decide +kernel
theorem dX8_isLead_5 : decode cX8_isLead 5 = .ok (.iaload, 1) := by decide +kernel
theorem dX8_isLead_6 : decode cX8_isLead 6 = .ok (.ifCond .eq 22, 3) := by decide +kernel
theorem dX8_isLead_9 : decode cX8_isLead 9 = .ok (.aload_n 0, 1) := by decide +kernel
theorem dX8_isLead_10 : decode cX8_isLead 10 = .ok (.getfield 64, 3) := by decide +kernel
theorem dX8_isLead_13 : decode cX8_isLead 13 = .ok (.iload_n 1, 1) := by decide +kernel
theorem dX8_isLead_14 : decode cX8_isLead 14 = .ok (.iaload, 1) := by decide +kernel
theorem dX8_isLead_15 : decode cX8_isLead 15 = .ok (.iconst 1, 1) := by decide +kernel
theorem dX8_isLead_16 : decode cX8_isLead 16 = .ok (.iload_n 1, 1) := by decide +kernel
theorem dX8_isLead_17 : decode cX8_isLead 17 = .ok (.ishl, 1) := by decide +kernel
theorem dX8_isLead_18 : decode cX8_isLead 18 = .ok (.iconst 1, 1) := by decide +kernel
theorem dX8_isLead_19 : decode cX8_isLead 19 = .ok (.isub, 1) := by decide +kernel
theorem dX8_isLead_20 : decode cX8_isLead 20 = .ok (.iand, 1) := by decide +kernel
theorem dX8_isLead_21 : decode cX8_isLead 21 = .ok (.ifCond .ne 7, 3) := by decide +kernel
theorem dX8_isLead_24 : decode cX8_isLead 24 = .ok (.iconst 1, 1) := by decide +kernel
theorem dX8_isLead_25 : decode cX8_isLead 25 = .ok (.goto 4, 3) := by decide +kernel
theorem dX8_isLead_28 : decode cX8_isLead 28 = .ok (.iconst 0, 1) := by decide +kernel
theorem dX8_isLead_29 : decode cX8_isLead 29 = .ok (.ireturn, 1) := by decide +kernel
set_option maxHeartbeats 4000000 in
set_option maxRecDepth 100000 in
theorem m_X8_isLead (l : Launch) (D : va_G) (cI cJ : ClassId) (sz : Nat) (g g2 g3 g4 g5 g6 g7 g8 g9 g10 g12 g13 g15 g16 g17 g19 g20 g21 g22 g23 g24 g25 g26 g27 g28 g33 g34 g35 g36 g37 g38 g39 g41 g42 g44 g45 p0 mn ml mv : Nat) (gi0 gi14 gi18 gi29 gi30 gi32 gi40 gi43 : Int32) (G23 : Nat → Int32) (hp : p0 < 8) : Met l yX8_isLead wtX8_isLead { frames := 0, cells := 0, slots := 0, locals := 0 } (cPc D cI cJ [.ref g, .int (nI p0)] sz [(oX8 g gi0 (nI mn) g2 g3 g4 g5 g6 g7 g8 g9 g10 (nI ml) g12 g13 gi14 g15 g16 g17 gi18 g19 g20 g21 g22 g23 g24 g25 g26 g27 g28 gi29 gi30 (nI mv) gi32 g33 g34 g35 g36 g37 g38 g39 gi40 g41 g42 gi43 g44 g45), (aIc cI g23 8 G23)]) (cQi D (fun r u => (r = 0 ∨ r = 1) ∧ u = [(oX8 g gi0 (nI mn) g2 g3 g4 g5 g6 g7 g8 g9 g10 (nI ml) g12 g13 gi14 g15 g16 g17 gi18 g19 g20 g21 g22 g23 g24 g25 g26 g27 g28 gi29 gi30 (nI mv) gi32 g33 g34 g35 g36 g37 g38 g39 gi40 g41 g42 gi43 g44 g45), (aIc cI g23 8 G23)]) (va_A [(oX8 g gi0 (nI mn) g2 g3 g4 g5 g6 g7 g8 g9 g10 (nI ml) g12 g13 gi14 g15 g16 g17 gi18 g19 g20 g21 g22 g23 g24 g25 g26 g27 g28 gi29 gi30 (nI mv) gi32 g33 g34 g35 g36 g37 g38 g39 gi40 g41 g42 gi43 g44 g45), (aIc cI g23 8 G23)] sz)) 0 0 (va_A [(oX8 g gi0 (nI mn) g2 g3 g4 g5 g6 g7 g8 g9 g10 (nI ml) g12 g13 gi14 g15 g16 g17 gi18 g19 g20 g21 g22 g23 g24 g25 g26 g27 g28 gi29 gi30 (nI mv) gi32 g33 g34 g35 g36 g37 g38 g39 gi40 g41 g42 gi43 g44 g45), (aIc cI g23 8 G23)] sz) := by
  refine k_ofW (Qc := cQi D (fun r u => (r = 0 ∨ r = 1) ∧ u = [(oX8 g gi0 (nI mn) g2 g3 g4 g5 g6 g7 g8 g9 g10 (nI ml) g12 g13 gi14 g15 g16 g17 gi18 g19 g20 g21 g22 g23 g24 g25 g26 g27 g28 gi29 gi30 (nI mv) gi32 g33 g34 g35 g36 g37 g38 g39 gi40 g41 g42 gi43 g44 g45), (aIc cI g23 8 G23)])) (by decide) rfl (Nat.le_of_ble_eq_true rfl) ?_
  intro p e s m below meth c A ls hx hb hr hml hts hown hlk hnm hsz hE hP hD hS hA hl
  have hown : s.vm.findClass RX8 = some m.cls := hown
  have hiX8 : ∀ w ∈ u_ws RX8 TX8 46, w ∈ wtX8_isLead := fun w h => List.mem_cons_of_mem _ (iuX8 w h)
  have hl : lv_has ls 2 [(0, .ref g), (1, .int (nI p0))] := hl
  refine lv_aload_n hx hb dX8_isLead_0 rfl (lv_at hl 0 rfl) ?_
  refine va_get (D := D) (ci := 8) (v := .ref g23) (C := RX8) (T := TX8) (N := 46) hx hb hts hiX8 hown hE.1 hP 0 rfl rfl 23 (by decide) (hts _ (List.mem_cons_of_mem _ wd_134)) (fun _ h9 => h9) rfl dX8_isLead_1 ?_
  refine lv_iload_n hx hb dX8_isLead_4 rfl (lv_at hl 1 rfl) ?_
  refine va_iald hx hb hE.1 hP 1 0 rfl rfl (vp_in_nI (n := p0) (by omega) (by decide)) dX8_isLead_5 ?_
  refine lv_topi (fun v1 ev1 => ?_)
  refine lv_if_eq (tgt := 28) hx hb dX8_isLead_6 (by decide) (fun c2 => ?_) (fun c2 => ?_)
  · skip
    refine lv_iconst (v := 0) hx hb dX8_isLead_28 (by decide) ?_
    refine k_zret (u := [(oX8 g gi0 (nI mn) g2 g3 g4 g5 g6 g7 g8 g9 g10 (nI ml) g12 g13 gi14 g15 g16 g17 gi18 g19 g20 g21 g22 g23 g24 g25 g26 g27 g28 gi29 gi30 (nI mv) gi32 g33 g34 g35 g36 g37 g38 g39 gi40 g41 g42 gi43 g44 g45), (aIc cI g23 8 G23)]) hx hb hr (by decide) hlk hP hD hS dX8_isLead_29 ?_
    exact ⟨(by decide), rfl⟩
  · skip
    refine lv_aload_n hx hb dX8_isLead_9 rfl (lv_at hl 0 rfl) ?_
    refine va_get (D := D) (ci := 8) (v := .ref g23) (C := RX8) (T := TX8) (N := 46) hx hb hts hiX8 hown hE.1 hP 0 rfl rfl 23 (by decide) (hts _ (List.mem_cons_of_mem _ wd_134)) (fun _ h9 => h9) rfl dX8_isLead_10 ?_
    refine lv_iload_n hx hb dX8_isLead_13 rfl (lv_at hl 1 rfl) ?_
    refine va_iald hx hb hE.1 hP 1 0 rfl rfl (vp_in_nI (n := p0) (by omega) (by decide)) dX8_isLead_14 ?_
    refine lv_topi (fun v3 ev3 => ?_)
    refine lv_iconst (v := 1) hx hb dX8_isLead_15 (by decide) ?_
    refine lv_iload_n hx hb dX8_isLead_16 rfl (lv_at hl 1 rfl) ?_
    refine lv_ishl hx hb dX8_isLead_17 ?_
    refine lv_topi (fun v4 ev4 => ?_)
    refine lv_iconst (v := 1) hx hb dX8_isLead_18 (by decide) ?_
    refine lv_isub hx hb dX8_isLead_19 ?_
    refine lv_topi (fun v5 ev5 => ?_)
    refine lv_iand hx hb dX8_isLead_20 ?_
    refine lv_topi (fun v6 ev6 => ?_)
    refine lv_if_ne (tgt := 28) hx hb dX8_isLead_21 (by decide) (fun c7 => ?_) (fun c7 => ?_)
    · skip
      refine lv_iconst (v := 0) hx hb dX8_isLead_28 (by decide) ?_
      refine k_zret (u := [(oX8 g gi0 (nI mn) g2 g3 g4 g5 g6 g7 g8 g9 g10 (nI ml) g12 g13 gi14 g15 g16 g17 gi18 g19 g20 g21 g22 g23 g24 g25 g26 g27 g28 gi29 gi30 (nI mv) gi32 g33 g34 g35 g36 g37 g38 g39 gi40 g41 g42 gi43 g44 g45), (aIc cI g23 8 G23)]) hx hb hr (by decide) hlk hP hD hS dX8_isLead_29 ?_
      exact ⟨(by decide), rfl⟩
    · skip
      refine lv_iconst (v := 1) hx hb dX8_isLead_24 (by decide) ?_
      refine lv_goto (tgt := 29) hx hb dX8_isLead_25 (by decide) ?_
      refine k_zret (u := [(oX8 g gi0 (nI mn) g2 g3 g4 g5 g6 g7 g8 g9 g10 (nI ml) g12 g13 gi14 g15 g16 g17 gi18 g19 g20 g21 g22 g23 g24 g25 g26 g27 g28 gi29 gi30 (nI mv) gi32 g33 g34 g35 g36 g37 g38 g39 gi40 g41 g42 gi43 g44 g45), (aIc cI g23 8 G23)]) hx hb hr (by decide) hlk hP hD hS dX8_isLead_29 ?_
      exact ⟨(by decide), rfl⟩
theorem dX8_rings_0 : decode cX8_rings 0 = .ok (.iconst 0, 1) := by decide +kernel
theorem dX8_rings_1 : decode cX8_rings 1 = .ok (.istore_n 1, 1) := by decide +kernel
theorem dX8_rings_2 : decode cX8_rings 2 = .ok (.iconst 0, 1) := by decide +kernel
theorem dX8_rings_3 : decode cX8_rings 3 = .ok (.istore_n 2, 1) := by decide +kernel
theorem dX8_rings_4 : decode cX8_rings 4 = .ok (.iload_n 2, 1) := by decide +kernel
theorem dX8_rings_5 : decode cX8_rings 5 = .ok (.bipush 8, 2) := by decide +kernel
theorem dX8_rings_7 : decode cX8_rings 7 = .ok (.if_icmp .ge 25, 3) := by decide +kernel
theorem dX8_rings_10 : decode cX8_rings 10 = .ok (.iload_n 1, 1) := by decide +kernel
theorem dX8_rings_11 : decode cX8_rings 11 = .ok (.aload_n 0, 1) := by decide +kernel
theorem dX8_rings_12 : decode cX8_rings 12 = .ok (.iload_n 2, 1) := by decide +kernel
theorem dX8_rings_13 : decode cX8_rings 13 = .ok (.invokevirtual 246, 3) := by decide +kernel
theorem dX8_rings_16 : decode cX8_rings 16 = .ok (.ifCond .eq 7, 3) := by decide +kernel
theorem dX8_rings_19 : decode cX8_rings 19 = .ok (.iconst 1, 1) := by decide +kernel
theorem dX8_rings_20 : decode cX8_rings 20 = .ok (.goto 4, 3) := by decide +kernel
theorem dX8_rings_23 : decode cX8_rings 23 = .ok (.iconst 0, 1) := by decide +kernel
theorem dX8_rings_24 : decode cX8_rings 24 = .ok (.iadd, 1) := by decide +kernel
theorem dX8_rings_25 : decode cX8_rings 25 = .ok (.istore_n 1, 1) := by decide +kernel
theorem dX8_rings_26 : decode cX8_rings 26 = .ok (.iinc 2 1, 3) := by decide +kernel
theorem dX8_rings_29 : decode cX8_rings 29 = .ok (.goto (-25), 3) := by decide +kernel
theorem dX8_rings_32 : decode cX8_rings 32 = .ok (.iload_n 1, 1) := by decide +kernel
theorem dX8_rings_33 : decode cX8_rings 33 = .ok (.ireturn, 1) := by decide +kernel
theorem gX8_rings_X8_isLead : GoodIn wtX8_rings (wsV RX8 246 RX8 yX8_isLead wtX8_isLead) := tb_good (tb_v0 wd_562 wd_563 wd_564 wd_5 wd_565)
set_option maxHeartbeats 4000000 in
set_option maxRecDepth 100000 in
theorem m_X8_rings (l : Launch) (D : va_G) (cI cJ : ClassId) (sz : Nat) (g g2 g3 g4 g5 g6 g7 g8 g9 g10 g12 g13 g15 g16 g17 g19 g20 g21 g22 g23 g24 g25 g26 g27 g28 g33 g34 g35 g36 g37 g38 g39 g41 g42 g44 g45 mn ml mv : Nat) (gi0 gi14 gi18 gi29 gi30 gi32 gi40 gi43 : Int32) (G23 : Nat → Int32) : Met l yX8_rings wtX8_rings { frames := 1, cells := 0, slots := 0, locals := 21 } (cPc D cI cJ [.ref g] sz [(oX8 g gi0 (nI mn) g2 g3 g4 g5 g6 g7 g8 g9 g10 (nI ml) g12 g13 gi14 g15 g16 g17 gi18 g19 g20 g21 g22 g23 g24 g25 g26 g27 g28 gi29 gi30 (nI mv) gi32 g33 g34 g35 g36 g37 g38 g39 gi40 g41 g42 gi43 g44 g45), (aIc cI g23 8 G23)]) (cQi D (fun r u => u = [(oX8 g gi0 (nI mn) g2 g3 g4 g5 g6 g7 g8 g9 g10 (nI ml) g12 g13 gi14 g15 g16 g17 gi18 g19 g20 g21 g22 g23 g24 g25 g26 g27 g28 gi29 gi30 (nI mv) gi32 g33 g34 g35 g36 g37 g38 g39 gi40 g41 g42 gi43 g44 g45), (aIc cI g23 8 G23)]) (va_A [(oX8 g gi0 (nI mn) g2 g3 g4 g5 g6 g7 g8 g9 g10 (nI ml) g12 g13 gi14 g15 g16 g17 gi18 g19 g20 g21 g22 g23 g24 g25 g26 g27 g28 gi29 gi30 (nI mv) gi32 g33 g34 g35 g36 g37 g38 g39 gi40 g41 g42 gi43 g44 g45), (aIc cI g23 8 G23)] sz)) 0 0 (va_A [(oX8 g gi0 (nI mn) g2 g3 g4 g5 g6 g7 g8 g9 g10 (nI ml) g12 g13 gi14 g15 g16 g17 gi18 g19 g20 g21 g22 g23 g24 g25 g26 g27 g28 gi29 gi30 (nI mv) gi32 g33 g34 g35 g36 g37 g38 g39 gi40 g41 g42 gi43 g44 g45), (aIc cI g23 8 G23)] sz) := by
  refine k_ofW (Qc := cQi D (fun r u => u = [(oX8 g gi0 (nI mn) g2 g3 g4 g5 g6 g7 g8 g9 g10 (nI ml) g12 g13 gi14 g15 g16 g17 gi18 g19 g20 g21 g22 g23 g24 g25 g26 g27 g28 gi29 gi30 (nI mv) gi32 g33 g34 g35 g36 g37 g38 g39 gi40 g41 g42 gi43 g44 g45), (aIc cI g23 8 G23)])) (by decide) rfl (Nat.le_of_ble_eq_true rfl) ?_
  intro p e s m below meth c A ls hx hb hr hml hts hown hlk hnm hsz hE hP hD hS hA hl
  have hown : s.vm.findClass RX8 = some m.cls := hown
  have hl : lv_has ls 3 [(0, .ref g)] := hl
  refine lv_iconst (v := 0) hx hb dX8_rings_0 (by decide) ?_
  refine lv_istore_n (lv' := [(1, .int 0), (0, .ref g)]) hx hb dX8_rings_1 rfl hl (by decide) rfl (fun ls hl => ?_)
  refine lv_iconst (v := 0) hx hb dX8_rings_2 (by decide) ?_
  refine lv_istore_n (lv' := [(2, .int 0), (1, .int 0), (0, .ref g)]) hx hb dX8_rings_3 rfl hl (by decide) rfl (fun ls hl => ?_)
  have J4 : ∀ (zz : Nat) (i4 : Nat) (h1_4 : Int32), (i4 ≤ 8) → (8 - i4) < zz → ∀ (H : Heap) (locs : List Loc) (ls : Array Slot), va_P D vwCl [(oX8 g gi0 (nI mn) g2 g3 g4 g5 g6 g7 g8 g9 g10 (nI ml) g12 g13 gi14 g15 g16 g17 gi18 g19 g20 g21 g22 g23 g24 g25 g26 g27 g28 gi29 gi30 (nI mv) gi32 g33 g34 g35 g36 g37 g38 g39 gi40 g41 g42 gi43 g44 g45), (aIc cI g23 8 G23)] H → va_D A [(oX8 g gi0 (nI mn) g2 g3 g4 g5 g6 g7 g8 g9 g10 (nI ml) g12 g13 gi14 g15 g16 g17 gi18 g19 g20 g21 g22 g23 g24 g25 g26 g27 g28 gi29 gi30 (nI mv) gi32 g33 g34 g35 g36 g37 g38 g39 gi40 g41 g42 gi43 g44 g45), (aIc cI g23 8 G23)] → va_S A s.heap H locs → lv_has ls 3 [(2, .int (nI i4)), (1, .int h1_4), (0, .ref g)] → W p l e { frames := 1, cells := 0, slots := 0, locals := 21 } s m [.ref g].toArray below meth c H locs 0 0 (MQ below (cQi D (fun r u => u = [(oX8 g gi0 (nI mn) g2 g3 g4 g5 g6 g7 g8 g9 g10 (nI ml) g12 g13 gi14 g15 g16 g17 gi18 g19 g20 g21 g22 g23 g24 g25 g26 g27 g28 gi29 gi30 (nI mv) gi32 g33 g34 g35 g36 g37 g38 g39 gi40 g41 g42 gi43 g44 g45), (aIc cI g23 8 G23)]) A) [.ref g].toArray s 0 0 A) (F0 m 4 ls []) := by
    intro zz
    induction zz with
    | zero => intro i4 h1_4 _; exact fun h => absurd h (Nat.not_lt_zero _)
    | succ zz ih4 =>
      intro i4 h1_4 hc2_4 hmu4 H locs ls hP hD hS hl
      refine lv_iload_n hx hb dX8_rings_4 rfl (lv_at hl 0 rfl) ?_
      refine lv_bipush (v := 8) hx hb dX8_rings_5 (by decide) ?_
      refine lv_icmp_ge (tgt := 32) hx hb dX8_rings_7 (by decide) (fun c1 => ?_) (fun c1 => ?_)
      · skip
        have nc1 : 8 ≤ i4 := (nI_leI (a := 8) (b := i4) (by omega) (by omega)).mp c1
        refine lv_iload_n hx hb dX8_rings_32 rfl (lv_at hl 1 rfl) ?_
        refine k_iret (u := [(oX8 g gi0 (nI mn) g2 g3 g4 g5 g6 g7 g8 g9 g10 (nI ml) g12 g13 gi14 g15 g16 g17 gi18 g19 g20 g21 g22 g23 g24 g25 g26 g27 g28 gi29 gi30 (nI mv) gi32 g33 g34 g35 g36 g37 g38 g39 gi40 g41 g42 gi43 g44 g45), (aIc cI g23 8 G23)]) hx hb hr hlk hP hD hS dX8_rings_33 ?_
        exact rfl
      · skip
        have nc1 : ¬ 8 ≤ i4 := fun q9 => c1 ((nI_leI (a := 8) (b := i4) (by omega) (by omega)).mpr q9)
        refine lv_iload_n hx hb dX8_rings_10 rfl (lv_at hl 1 rfl) ?_
        refine lv_aload_n hx hb dX8_rings_11 rfl (lv_at hl 2 rfl) ?_
        refine lv_iload_n hx hb dX8_rings_12 rfl (lv_at hl 0 rfl) ?_
        refine k_iS (va_runV (As := [.int (nI i4)]) (rest := [.int h1_4]) ⟨hx, hb, hml, hown, hts⟩ (m_X8_isLead l D cI cJ H.size g g2 g3 g4 g5 g6 g7 g8 g9 g10 g12 g13 g15 g16 g17 g19 g20 g21 g22 g23 g24 g25 g26 g27 g28 g33 g34 g35 g36 g37 g38 g39 g41 g42 g44 g45 i4 mn ml mv gi0 gi14 gi18 gi29 gi30 gi32 gi40 gi43 G23 (by omega)) (cwV 1 hts gX8_rings_X8_isLead rfl rfl rfl (by decide +kernel) ⟨Nat.le_of_ble_eq_true rfl, Nat.le_of_ble_eq_true rfl⟩) (k_preV hE hP hD [0, 1] (by decide +kernel) rfl 0 rfl rfl) rfl rfl hl.1 rfl (lv_room (Nat.le_of_ble_eq_true rfl)) dX8_rings_13 ⟨Nat.le_of_ble_eq_true rfl, Nat.le_of_ble_eq_true rfl⟩) hP hD hS hA [0, 1] rfl (fun _ _ ⟨_, h9⟩ => h9) (fun r2 H locs hw3 hP hD hS => ?_)
        obtain ⟨hz4, -⟩ := hw3
        refine lv_if_eq (tgt := 23) hx hb dX8_rings_16 (by decide) (fun c5 => ?_) (fun c5 => ?_)
        · skip
          refine lv_iconst (v := 0) hx hb dX8_rings_23 (by decide) ?_
          refine lv_iadd hx hb dX8_rings_24 ?_
          refine lv_topi (fun v6 ev6 => ?_)
          refine lv_istore_n (lv' := [(1, .int v6), (2, .int (nI i4)), (0, .ref g)]) hx hb dX8_rings_25 rfl hl (by decide) rfl (fun ls hl => ?_)
          refine lv_iinc (v := (nI (i4 + 1))) (lv' := [(2, .int (nI (i4 + 1))), (1, .int v6), (0, .ref g)]) hx hb dX8_rings_26 hl (k := 1) rfl (nI_1 _) (by decide) rfl (fun ls hl => ?_)
          refine lv_goto (tgt := 4) hx hb dX8_rings_29 (by decide) ?_
          exact ih4 (i4 + 1) v6 (by omega) (by omega) _ _ _ hP hD hS (lv_sub hl [0, 1, 2] rfl)
        · skip
          refine lv_iconst (v := 1) hx hb dX8_rings_19 (by decide) ?_
          refine lv_goto (tgt := 24) hx hb dX8_rings_20 (by decide) ?_
          refine lv_iadd hx hb dX8_rings_24 ?_
          refine lv_topi (fun v7 ev7 => ?_)
          refine lv_istore_n (lv' := [(1, .int v7), (2, .int (nI i4)), (0, .ref g)]) hx hb dX8_rings_25 rfl hl (by decide) rfl (fun ls hl => ?_)
          refine lv_iinc (v := (nI (i4 + 1))) (lv' := [(2, .int (nI (i4 + 1))), (1, .int v7), (0, .ref g)]) hx hb dX8_rings_26 hl (k := 1) rfl (nI_1 _) (by decide) rfl (fun ls hl => ?_)
          refine lv_goto (tgt := 4) hx hb dX8_rings_29 (by decide) ?_
          exact ih4 (i4 + 1) v7 (by omega) (by omega) _ _ _ hP hD hS (lv_sub hl [0, 1, 2] rfl)
  exact J4 _ 0 0 (by omega) (Nat.lt_succ_self _) _ _ _ hP hD hS (lv_sub hl [0, 1, 2] rfl)
theorem dX8_bits_0 : decode cX8_bits 0 = .ok (.iconst 0, 1) := by decide +kernel
theorem dX8_bits_1 : decode cX8_bits 1 = .ok (.istore_n 1, 1) := by decide +kernel
theorem dX8_bits_2 : decode cX8_bits 2 = .ok (.iconst 0, 1) := by decide +kernel
theorem dX8_bits_3 : decode cX8_bits 3 = .ok (.istore_n 2, 1) := by decide +kernel
theorem dX8_bits_4 : decode cX8_bits 4 = .ok (.iload_n 2, 1) := by decide +kernel
theorem dX8_bits_5 : decode cX8_bits 5 = .ok (.bipush 8, 2) := by decide +kernel
theorem dX8_bits_7 : decode cX8_bits 7 = .ok (.if_icmp .ge 17, 3) := by decide +kernel
theorem dX8_bits_10 : decode cX8_bits 10 = .ok (.iload_n 1, 1) := by decide +kernel
theorem dX8_bits_11 : decode cX8_bits 11 = .ok (.iload_n 0, 1) := by decide +kernel
theorem dX8_bits_12 : decode cX8_bits 12 = .ok (.iload_n 2, 1) := by decide +kernel
theorem dX8_bits_13 : decode cX8_bits 13 = .ok (.ishr, 1) := by decide +kernel
theorem dX8_bits_14 : decode cX8_bits 14 = .ok (.iconst 1, 1) := by decide +kernel
theorem dX8_bits_15 : decode cX8_bits 15 = .ok (.iand, 1) := by decide +kernel
theorem dX8_bits_16 : decode cX8_bits 16 = .ok (.iadd, 1) := by decide +kernel
theorem dX8_bits_17 : decode cX8_bits 17 = .ok (.istore_n 1, 1) := by decide +kernel
theorem dX8_bits_18 : decode cX8_bits 18 = .ok (.iinc 2 1, 3) := by decide +kernel
theorem dX8_bits_21 : decode cX8_bits 21 = .ok (.goto (-17), 3) := by decide +kernel
theorem dX8_bits_24 : decode cX8_bits 24 = .ok (.iload_n 1, 1) := by decide +kernel
theorem dX8_bits_25 : decode cX8_bits 25 = .ok (.ireturn, 1) := by decide +kernel
set_option maxHeartbeats 4000000 in
set_option maxRecDepth 100000 in
theorem m_X8_bits (l : Launch) (D : va_G) (cI cJ : ClassId) (sz : Nat) (se : Int32) : Met l yX8_bits wtX8_bits { frames := 0, cells := 0, slots := 0, locals := 0 } (cPc D cI cJ [.int se] sz []) (cQi D (fun r u => ∃ (b0 : Nat), (b0 ≤ 8) ∧ r = (nI b0) ∧ u = []) (va_A [] sz)) 0 0 (va_A [] sz) := by
  refine k_ofW (Qc := cQi D (fun r u => ∃ (b0 : Nat), (b0 ≤ 8) ∧ r = (nI b0) ∧ u = [])) (by decide) rfl (Nat.le_of_ble_eq_true rfl) ?_
  intro p e s m below meth c A ls hx hb hr hml hts hown hlk hnm hsz hE hP hD hS hA hl
  have hown : s.vm.findClass RX8 = some m.cls := hown
  have hl : lv_has ls 3 [(0, .int se)] := hl
  refine lv_iconst (v := 0) hx hb dX8_bits_0 (by decide) ?_
  refine lv_istore_n (lv' := [(1, .int 0), (0, .int se)]) hx hb dX8_bits_1 rfl hl (by decide) rfl (fun ls hl => ?_)
  refine lv_iconst (v := 0) hx hb dX8_bits_2 (by decide) ?_
  refine lv_istore_n (lv' := [(2, .int 0), (1, .int 0), (0, .int se)]) hx hb dX8_bits_3 rfl hl (by decide) rfl (fun ls hl => ?_)
  have J4 : ∀ (zz : Nat) (i4 h1_4 : Nat), (i4 ≤ 8) → (h1_4 ≤ i4) → (8 - i4) < zz → ∀ (H : Heap) (locs : List Loc) (ls : Array Slot), va_P D vwCl [] H → va_D A [] → va_S A s.heap H locs → lv_has ls 3 [(2, .int (nI i4)), (1, .int (nI h1_4)), (0, .int se)] → W p l e { frames := 0, cells := 0, slots := 0, locals := 0 } s m [.int se].toArray below meth c H locs 0 0 (MQ below (cQi D (fun r u => ∃ (b0 : Nat), (b0 ≤ 8) ∧ r = (nI b0) ∧ u = []) A) [.int se].toArray s 0 0 A) (F0 m 4 ls []) := by
    intro zz
    induction zz with
    | zero => intro i4 h1_4 _ _; exact fun h => absurd h (Nat.not_lt_zero _)
    | succ zz ih4 =>
      intro i4 h1_4 hc2_4 hb9_4 hmu4 H locs ls hP hD hS hl
      refine lv_iload_n hx hb dX8_bits_4 rfl (lv_at hl 0 rfl) ?_
      refine lv_bipush (v := 8) hx hb dX8_bits_5 (by decide) ?_
      refine lv_icmp_ge (tgt := 24) hx hb dX8_bits_7 (by decide) (fun c1 => ?_) (fun c1 => ?_)
      · skip
        have nc1 : 8 ≤ i4 := (nI_leI (a := 8) (b := i4) (by omega) (by omega)).mp c1
        refine lv_iload_n hx hb dX8_bits_24 rfl (lv_at hl 1 rfl) ?_
        refine k_iret (u := []) hx hb hr hlk hP hD hS dX8_bits_25 ?_
        exact ⟨h1_4, (by omega), rfl, rfl⟩
      · skip
        have nc1 : ¬ 8 ≤ i4 := fun q9 => c1 ((nI_leI (a := 8) (b := i4) (by omega) (by omega)).mpr q9)
        refine lv_iload_n hx hb dX8_bits_10 rfl (lv_at hl 1 rfl) ?_
        refine lv_iload_n hx hb dX8_bits_11 rfl (lv_at hl 2 rfl) ?_
        refine lv_iload_n hx hb dX8_bits_12 rfl (lv_at hl 0 rfl) ?_
        refine lv_ishr hx hb dX8_bits_13 ?_
        refine lv_topi (fun v2 ev2 => ?_)
        refine lv_iconst (v := 1) hx hb dX8_bits_14 (by decide) ?_
        refine lv_iand hx hb dX8_bits_15 ?_
        refine lv_topi (fun v3 ev3 => ?_)
        obtain ⟨n4, hn4, en4⟩ := pk_andE (m := 1) _ 1 rfl
        obtain rfl : v3 = nI n4 := ev3.trans en4
        refine lv_iadd hx hb dX8_bits_16 ?_
        refine lv_topi (fun v5 ev5 => ?_)
        obtain rfl : v5 = (nI (h1_4 + n4)) := by rw [ev5]; exact nI_add h1_4 n4
        refine lv_istore_n (lv' := [(1, .int (nI (h1_4 + n4))), (2, .int (nI i4)), (0, .int se)]) hx hb dX8_bits_17 rfl hl (by decide) rfl (fun ls hl => ?_)
        refine lv_iinc (v := (nI (i4 + 1))) (lv' := [(2, .int (nI (i4 + 1))), (1, .int (nI (h1_4 + n4))), (0, .int se)]) hx hb dX8_bits_18 hl (k := 1) rfl (nI_1 _) (by decide) rfl (fun ls hl => ?_)
        refine lv_goto (tgt := 4) hx hb dX8_bits_21 (by decide) ?_
        exact ih4 (i4 + 1) (h1_4 + n4) (by omega) (by omega) (by omega) _ _ _ hP hD hS (lv_sub hl [0, 1, 2] rfl)
  exact J4 _ 0 0 (by omega) (by omega) (Nat.lt_succ_self _) _ _ _ hP hD hS (lv_sub hl [0, 1, 2] rfl)
theorem dX8_yieldMany_0 : decode cX8_yieldMany 0 = .ok (.iconst 0, 1) := by decide +kernel
theorem dX8_yieldMany_1 : decode cX8_yieldMany 1 = .ok (.istore_n 2, 1) := by decide +kernel
theorem dX8_yieldMany_2 : decode cX8_yieldMany 2 = .ok (.iconst 0, 1) := by decide +kernel
theorem dX8_yieldMany_3 : decode cX8_yieldMany 3 = .ok (.istore_n 3, 1) := by decide +kernel
theorem dX8_yieldMany_4 : decode cX8_yieldMany 4 = .ok (.iload_n 3, 1) := by decide +kernel
theorem dX8_yieldMany_5 : decode cX8_yieldMany 5 = .ok (.bipush 8, 2) := by decide +kernel
theorem dX8_yieldMany_7 : decode cX8_yieldMany 7 = .ok (.if_icmp .ge 34, 3) := by decide +kernel
theorem dX8_yieldMany_10 : decode cX8_yieldMany 10 = .ok (.iload_n 2, 1) := by decide +kernel
theorem dX8_yieldMany_11 : decode cX8_yieldMany 11 = .ok (.iload_n 1, 1) := by decide +kernel
theorem dX8_yieldMany_12 : decode cX8_yieldMany 12 = .ok (.ifCond .eq 12, 3) := by decide +kernel
theorem dX8_yieldMany_15 : decode cX8_yieldMany 15 = .ok (.aload_n 0, 1) := by decide +kernel
theorem dX8_yieldMany_16 : decode cX8_yieldMany 16 = .ok (.getfield 67, 3) := by decide +kernel
theorem dX8_yieldMany_19 : decode cX8_yieldMany 19 = .ok (.iload_n 3, 1) := by decide +kernel
theorem dX8_yieldMany_20 : decode cX8_yieldMany 20 = .ok (.iaload, 1) := by decide +kernel
theorem dX8_yieldMany_21 : decode cX8_yieldMany 21 = .ok (.goto 9, 3) := by decide +kernel
theorem dX8_yieldMany_24 : decode cX8_yieldMany 24 = .ok (.aload_n 0, 1) := by decide +kernel
theorem dX8_yieldMany_25 : decode cX8_yieldMany 25 = .ok (.getfield 58, 3) := by decide +kernel
theorem dX8_yieldMany_28 : decode cX8_yieldMany 28 = .ok (.iload_n 3, 1) := by decide +kernel
theorem dX8_yieldMany_29 : decode cX8_yieldMany 29 = .ok (.iaload, 1) := by decide +kernel
theorem dX8_yieldMany_30 : decode cX8_yieldMany 30 = .ok (.invokestatic 249, 3) := by decide +kernel
theorem dX8_yieldMany_33 : decode cX8_yieldMany 33 = .ok (.iadd, 1) := by decide +kernel
theorem dX8_yieldMany_34 : decode cX8_yieldMany 34 = .ok (.istore_n 2, 1) := by decide +kernel
theorem dX8_yieldMany_35 : decode cX8_yieldMany 35 = .ok (.iinc 3 1, 3) := by decide +kernel
theorem dX8_yieldMany_38 : decode cX8_yieldMany 38 = .ok (.goto (-34), 3) := by decide +kernel
theorem dX8_yieldMany_41 : decode cX8_yieldMany 41 = .ok (.iload_n 2, 1) := by decide +kernel
theorem dX8_yieldMany_42 : decode cX8_yieldMany 42 = .ok (.ireturn, 1) := by decide +kernel
theorem gX8_yieldMany_X8_bits : GoodIn wtX8_yieldMany (va_wsS RX8 249 yX8_bits wtX8_bits) := tb_good (tb_s0 wd_570 wd_571 wd_5 wd_572)
set_option maxHeartbeats 4000000 in
set_option maxRecDepth 100000 in
theorem m_X8_yieldMany (l : Launch) (D : va_G) (cI cJ : ClassId) (sz : Nat) (g g2 g3 g4 g5 g6 g7 g8 g9 g10 g12 g13 g15 g16 g17 g19 g20 g21 g22 g23 g24 g25 g26 g27 g28 g33 g34 g35 g36 g37 g38 g39 g41 g42 g44 g45 mn ml mv : Nat) (gi0 gi14 gi18 gi29 gi30 gi32 gi40 gi43 tr : Int32) (G21 G24 : Nat → Int32) : Met l yX8_yieldMany wtX8_yieldMany { frames := 1, cells := 0, slots := 0, locals := 22 } (cPc D cI cJ [.ref g, .int tr] sz [(oX8 g gi0 (nI mn) g2 g3 g4 g5 g6 g7 g8 g9 g10 (nI ml) g12 g13 gi14 g15 g16 g17 gi18 g19 g20 g21 g22 g23 g24 g25 g26 g27 g28 gi29 gi30 (nI mv) gi32 g33 g34 g35 g36 g37 g38 g39 gi40 g41 g42 gi43 g44 g45), (aIc cI g21 8 G21), (aIc cI g24 8 G24)]) (cQi D (fun r u => u = [(oX8 g gi0 (nI mn) g2 g3 g4 g5 g6 g7 g8 g9 g10 (nI ml) g12 g13 gi14 g15 g16 g17 gi18 g19 g20 g21 g22 g23 g24 g25 g26 g27 g28 gi29 gi30 (nI mv) gi32 g33 g34 g35 g36 g37 g38 g39 gi40 g41 g42 gi43 g44 g45), (aIc cI g21 8 G21), (aIc cI g24 8 G24)]) (va_A [(oX8 g gi0 (nI mn) g2 g3 g4 g5 g6 g7 g8 g9 g10 (nI ml) g12 g13 gi14 g15 g16 g17 gi18 g19 g20 g21 g22 g23 g24 g25 g26 g27 g28 gi29 gi30 (nI mv) gi32 g33 g34 g35 g36 g37 g38 g39 gi40 g41 g42 gi43 g44 g45), (aIc cI g21 8 G21), (aIc cI g24 8 G24)] sz)) 0 0 (va_A [(oX8 g gi0 (nI mn) g2 g3 g4 g5 g6 g7 g8 g9 g10 (nI ml) g12 g13 gi14 g15 g16 g17 gi18 g19 g20 g21 g22 g23 g24 g25 g26 g27 g28 gi29 gi30 (nI mv) gi32 g33 g34 g35 g36 g37 g38 g39 gi40 g41 g42 gi43 g44 g45), (aIc cI g21 8 G21), (aIc cI g24 8 G24)] sz) := by
  refine k_ofW (Qc := cQi D (fun r u => u = [(oX8 g gi0 (nI mn) g2 g3 g4 g5 g6 g7 g8 g9 g10 (nI ml) g12 g13 gi14 g15 g16 g17 gi18 g19 g20 g21 g22 g23 g24 g25 g26 g27 g28 gi29 gi30 (nI mv) gi32 g33 g34 g35 g36 g37 g38 g39 gi40 g41 g42 gi43 g44 g45), (aIc cI g21 8 G21), (aIc cI g24 8 G24)])) (by decide) rfl (Nat.le_of_ble_eq_true rfl) ?_
  intro p e s m below meth c A ls hx hb hr hml hts hown hlk hnm hsz hE hP hD hS hA hl
  have hown : s.vm.findClass RX8 = some m.cls := hown
  have hiX8 : ∀ w ∈ u_ws RX8 TX8 46, w ∈ wtX8_yieldMany := fun w h => List.mem_cons_of_mem _ (iuX8 w h)
  have hl : lv_has ls 4 [(0, .ref g), (1, .int tr)] := hl
  refine lv_iconst (v := 0) hx hb dX8_yieldMany_0 (by decide) ?_
  refine lv_istore_n (lv' := [(2, .int 0), (0, .ref g), (1, .int tr)]) hx hb dX8_yieldMany_1 rfl hl (by decide) rfl (fun ls hl => ?_)
  refine lv_iconst (v := 0) hx hb dX8_yieldMany_2 (by decide) ?_
  refine lv_istore_n (lv' := [(3, .int 0), (2, .int 0), (0, .ref g), (1, .int tr)]) hx hb dX8_yieldMany_3 rfl hl (by decide) rfl (fun ls hl => ?_)
  have J4 : ∀ (zz : Nat) (i4 : Nat) (h2_4 : Int32), (i4 ≤ 8) → (8 - i4) < zz → ∀ (H : Heap) (locs : List Loc) (ls : Array Slot), va_P D vwCl [(oX8 g gi0 (nI mn) g2 g3 g4 g5 g6 g7 g8 g9 g10 (nI ml) g12 g13 gi14 g15 g16 g17 gi18 g19 g20 g21 g22 g23 g24 g25 g26 g27 g28 gi29 gi30 (nI mv) gi32 g33 g34 g35 g36 g37 g38 g39 gi40 g41 g42 gi43 g44 g45), (aIc cI g21 8 G21), (aIc cI g24 8 G24)] H → va_D A [(oX8 g gi0 (nI mn) g2 g3 g4 g5 g6 g7 g8 g9 g10 (nI ml) g12 g13 gi14 g15 g16 g17 gi18 g19 g20 g21 g22 g23 g24 g25 g26 g27 g28 gi29 gi30 (nI mv) gi32 g33 g34 g35 g36 g37 g38 g39 gi40 g41 g42 gi43 g44 g45), (aIc cI g21 8 G21), (aIc cI g24 8 G24)] → va_S A s.heap H locs → lv_has ls 4 [(3, .int (nI i4)), (2, .int h2_4), (0, .ref g), (1, .int tr)] → W p l e { frames := 1, cells := 0, slots := 0, locals := 22 } s m [.ref g, .int tr].toArray below meth c H locs 0 0 (MQ below (cQi D (fun r u => u = [(oX8 g gi0 (nI mn) g2 g3 g4 g5 g6 g7 g8 g9 g10 (nI ml) g12 g13 gi14 g15 g16 g17 gi18 g19 g20 g21 g22 g23 g24 g25 g26 g27 g28 gi29 gi30 (nI mv) gi32 g33 g34 g35 g36 g37 g38 g39 gi40 g41 g42 gi43 g44 g45), (aIc cI g21 8 G21), (aIc cI g24 8 G24)]) A) [.ref g, .int tr].toArray s 0 0 A) (F0 m 4 ls []) := by
    intro zz
    induction zz with
    | zero => intro i4 h2_4 _; exact fun h => absurd h (Nat.not_lt_zero _)
    | succ zz ih4 =>
      intro i4 h2_4 hc3_4 hmu4 H locs ls hP hD hS hl
      refine lv_iload_n hx hb dX8_yieldMany_4 rfl (lv_at hl 0 rfl) ?_
      refine lv_bipush (v := 8) hx hb dX8_yieldMany_5 (by decide) ?_
      refine lv_icmp_ge (tgt := 41) hx hb dX8_yieldMany_7 (by decide) (fun c1 => ?_) (fun c1 => ?_)
      · skip
        have nc1 : 8 ≤ i4 := (nI_leI (a := 8) (b := i4) (by omega) (by omega)).mp c1
        refine lv_iload_n hx hb dX8_yieldMany_41 rfl (lv_at hl 1 rfl) ?_
        refine k_iret (u := [(oX8 g gi0 (nI mn) g2 g3 g4 g5 g6 g7 g8 g9 g10 (nI ml) g12 g13 gi14 g15 g16 g17 gi18 g19 g20 g21 g22 g23 g24 g25 g26 g27 g28 gi29 gi30 (nI mv) gi32 g33 g34 g35 g36 g37 g38 g39 gi40 g41 g42 gi43 g44 g45), (aIc cI g21 8 G21), (aIc cI g24 8 G24)]) hx hb hr hlk hP hD hS dX8_yieldMany_42 ?_
        exact rfl
      · skip
        have nc1 : ¬ 8 ≤ i4 := fun q9 => c1 ((nI_leI (a := 8) (b := i4) (by omega) (by omega)).mpr q9)
        refine lv_iload_n hx hb dX8_yieldMany_10 rfl (lv_at hl 1 rfl) ?_
        refine lv_iload_n hx hb dX8_yieldMany_11 rfl (lv_at hl 3 rfl) ?_
        refine lv_if_eq (tgt := 24) hx hb dX8_yieldMany_12 (by decide) (fun c2 => ?_) (fun c2 => ?_)
        · skip
          refine lv_aload_n hx hb dX8_yieldMany_24 rfl (lv_at hl 2 rfl) ?_
          refine va_get (D := D) (ci := 8) (v := .ref g21) (C := RX8) (T := TX8) (N := 46) hx hb hts hiX8 hown hE.1 hP 0 rfl rfl 21 (by decide) (hts _ (List.mem_cons_of_mem _ wd_132)) (fun _ h9 => h9) rfl dX8_yieldMany_25 ?_
          refine lv_iload_n hx hb dX8_yieldMany_28 rfl (lv_at hl 0 rfl) ?_
          refine va_iald hx hb hE.1 hP 1 0 rfl rfl (vp_in_nI (n := i4) (by omega) (by decide)) dX8_yieldMany_29 ?_
          refine lv_topi (fun v3 ev3 => ?_)
          refine k_iS (va_runS (As := [.int v3]) (rest := [.int h2_4]) ⟨hx, hb, hml, hown, hts⟩ (m_X8_bits l D cI cJ H.size v3) (va_cwS 1 hts gX8_yieldMany_X8_bits rfl rfl rfl (by decide +kernel) ⟨Nat.le_of_ble_eq_true rfl, Nat.le_of_ble_eq_true rfl⟩) (k_pre hE hP hD [] (by decide +kernel) rfl) rfl rfl hl.1 rfl (lv_room (Nat.le_of_ble_eq_true rfl)) dX8_yieldMany_30 ⟨Nat.le_of_ble_eq_true rfl, Nat.le_of_ble_eq_true rfl⟩) hP hD hS hA [] rfl (fun _ _ ⟨_, _, _, h9⟩ => h9) (fun r4 H locs hw5 hP hD hS => ?_)
          obtain ⟨z6, hz7, rfl, -⟩ := hw5
          refine lv_iadd hx hb dX8_yieldMany_33 ?_
          refine lv_topi (fun v8 ev8 => ?_)
          refine lv_istore_n (lv' := [(2, .int v8), (3, .int (nI i4)), (0, .ref g), (1, .int tr)]) hx hb dX8_yieldMany_34 rfl hl (by decide) rfl (fun ls hl => ?_)
          refine lv_iinc (v := (nI (i4 + 1))) (lv' := [(3, .int (nI (i4 + 1))), (2, .int v8), (0, .ref g), (1, .int tr)]) hx hb dX8_yieldMany_35 hl (k := 1) rfl (nI_1 _) (by decide) rfl (fun ls hl => ?_)
          refine lv_goto (tgt := 4) hx hb dX8_yieldMany_38 (by decide) ?_
          exact ih4 (i4 + 1) v8 (by omega) (by omega) _ _ _ hP hD hS (lv_sub hl [0, 1, 2, 3] rfl)
        · skip
          refine lv_aload_n hx hb dX8_yieldMany_15 rfl (lv_at hl 2 rfl) ?_
          refine va_get (D := D) (ci := 8) (v := .ref g24) (C := RX8) (T := TX8) (N := 46) hx hb hts hiX8 hown hE.1 hP 0 rfl rfl 24 (by decide) (hts _ (List.mem_cons_of_mem _ wd_135)) (fun _ h9 => h9) rfl dX8_yieldMany_16 ?_
          refine lv_iload_n hx hb dX8_yieldMany_19 rfl (lv_at hl 0 rfl) ?_
          refine va_iald hx hb hE.1 hP 2 0 rfl rfl (vp_in_nI (n := i4) (by omega) (by decide)) dX8_yieldMany_20 ?_
          refine lv_topi (fun v9 ev9 => ?_)
          refine lv_goto (tgt := 30) hx hb dX8_yieldMany_21 (by decide) ?_
          refine k_iS (va_runS (As := [.int v9]) (rest := [.int h2_4]) ⟨hx, hb, hml, hown, hts⟩ (m_X8_bits l D cI cJ H.size v9) (va_cwS 1 hts gX8_yieldMany_X8_bits rfl rfl rfl (by decide +kernel) ⟨Nat.le_of_ble_eq_true rfl, Nat.le_of_ble_eq_true rfl⟩) (k_pre hE hP hD [] (by decide +kernel) rfl) rfl rfl hl.1 rfl (lv_room (Nat.le_of_ble_eq_true rfl)) dX8_yieldMany_30 ⟨Nat.le_of_ble_eq_true rfl, Nat.le_of_ble_eq_true rfl⟩) hP hD hS hA [] rfl (fun _ _ ⟨_, _, _, h9⟩ => h9) (fun r10 H locs hw11 hP hD hS => ?_)
          obtain ⟨z12, hz13, rfl, -⟩ := hw11
          refine lv_iadd hx hb dX8_yieldMany_33 ?_
          refine lv_topi (fun v14 ev14 => ?_)
          refine lv_istore_n (lv' := [(2, .int v14), (3, .int (nI i4)), (0, .ref g), (1, .int tr)]) hx hb dX8_yieldMany_34 rfl hl (by decide) rfl (fun ls hl => ?_)
          refine lv_iinc (v := (nI (i4 + 1))) (lv' := [(3, .int (nI (i4 + 1))), (2, .int v14), (0, .ref g), (1, .int tr)]) hx hb dX8_yieldMany_35 hl (k := 1) rfl (nI_1 _) (by decide) rfl (fun ls hl => ?_)
          refine lv_goto (tgt := 4) hx hb dX8_yieldMany_38 (by decide) ?_
          exact ih4 (i4 + 1) v14 (by omega) (by omega) _ _ _ hP hD hS (lv_sub hl [0, 1, 2, 3] rfl)
  exact J4 _ 0 0 (by omega) (Nat.lt_succ_self _) _ _ _ hP hD hS (lv_sub hl [0, 1, 2, 3] rfl)
theorem dX8_settled_0 : decode cX8_settled 0 = .ok (.aload_n 0, 1) := by decide +kernel
theorem dX8_settled_1 : decode cX8_settled 1 = .ok (.iconst 0, 1) := by decide +kernel
theorem dX8_settled_2 : decode cX8_settled 2 = .ok (.putfield 116, 3) := by decide +kernel
theorem dX8_settled_5 : decode cX8_settled 5 = .ok (.aload_n 0, 1) := by decide +kernel
theorem dX8_settled_6 : decode cX8_settled 6 = .ok (.iload_n 1, 1) := by decide +kernel
theorem dX8_settled_7 : decode cX8_settled 7 = .ok (.invokevirtual 252, 3) := by decide +kernel
theorem dX8_settled_10 : decode cX8_settled 10 = .ok (.ifCond .ne 5, 3) := by decide +kernel
theorem dX8_settled_13 : decode cX8_settled 13 = .ok (.iconst (-1), 1) := by decide +kernel
theorem dX8_settled_14 : decode cX8_settled 14 = .ok (.ireturn, 1) := by decide +kernel
theorem dX8_settled_15 : decode cX8_settled 15 = .ok (.aload_n 0, 1) := by decide +kernel
theorem dX8_settled_16 : decode cX8_settled 16 = .ok (.iload_n 1, 1) := by decide +kernel
theorem dX8_settled_17 : decode cX8_settled 17 = .ok (.aload_n 0, 1) := by decide +kernel
theorem dX8_settled_18 : decode cX8_settled 18 = .ok (.invokevirtual 220, 3) := by decide +kernel
theorem dX8_settled_21 : decode cX8_settled 21 = .ok (.invokevirtual 224, 3) := by decide +kernel
theorem dX8_settled_24 : decode cX8_settled 24 = .ok (.iload_n 2, 1) := by decide +kernel
theorem dX8_settled_25 : decode cX8_settled 25 = .ok (.tableswitch 106 0 8 #[51, 58, 65, 70, 75, 80, 85, 90, 90], 51) := by decide +kernel
theorem dX8_settled_76 : decode cX8_settled 76 = .ok (.aload_n 0, 1) := by decide +kernel
theorem dX8_settled_77 : decode cX8_settled 77 = .ok (.getfield 37, 3) := by decide +kernel
theorem dX8_settled_80 : decode cX8_settled 80 = .ok (.iload_n 1, 1) := by decide +kernel
theorem dX8_settled_81 : decode cX8_settled 81 = .ok (.iaload, 1) := by decide +kernel
theorem dX8_settled_82 : decode cX8_settled 82 = .ok (.ireturn, 1) := by decide +kernel
theorem dX8_settled_83 : decode cX8_settled 83 = .ok (.aload_n 0, 1) := by decide +kernel
theorem dX8_settled_84 : decode cX8_settled 84 = .ok (.getfield 40, 3) := by decide +kernel
theorem dX8_settled_87 : decode cX8_settled 87 = .ok (.iload_n 1, 1) := by decide +kernel
theorem dX8_settled_88 : decode cX8_settled 88 = .ok (.iaload, 1) := by decide +kernel
theorem dX8_settled_89 : decode cX8_settled 89 = .ok (.ireturn, 1) := by decide +kernel
theorem dX8_settled_90 : decode cX8_settled 90 = .ok (.aload_n 0, 1) := by decide +kernel
theorem dX8_settled_91 : decode cX8_settled 91 = .ok (.getfield 198, 3) := by decide +kernel
theorem dX8_settled_94 : decode cX8_settled 94 = .ok (.ireturn, 1) := by decide +kernel
theorem dX8_settled_95 : decode cX8_settled 95 = .ok (.aload_n 0, 1) := by decide +kernel
theorem dX8_settled_96 : decode cX8_settled 96 = .ok (.getfield 162, 3) := by decide +kernel
theorem dX8_settled_99 : decode cX8_settled 99 = .ok (.ireturn, 1) := by decide +kernel
theorem dX8_settled_100 : decode cX8_settled 100 = .ok (.aload_n 0, 1) := by decide +kernel
theorem dX8_settled_101 : decode cX8_settled 101 = .ok (.getfield 168, 3) := by decide +kernel
theorem dX8_settled_104 : decode cX8_settled 104 = .ok (.ireturn, 1) := by decide +kernel
theorem dX8_settled_105 : decode cX8_settled 105 = .ok (.aload_n 0, 1) := by decide +kernel
theorem dX8_settled_106 : decode cX8_settled 106 = .ok (.invokevirtual 255, 3) := by decide +kernel
theorem dX8_settled_109 : decode cX8_settled 109 = .ok (.ireturn, 1) := by decide +kernel
theorem dX8_settled_110 : decode cX8_settled 110 = .ok (.aload_n 0, 1) := by decide +kernel
theorem dX8_settled_111 : decode cX8_settled 111 = .ok (.getfield 165, 3) := by decide +kernel
theorem dX8_settled_114 : decode cX8_settled 114 = .ok (.ireturn, 1) := by decide +kernel
theorem dX8_settled_115 : decode cX8_settled 115 = .ok (.aload_n 0, 1) := by decide +kernel
theorem dX8_settled_116 : decode cX8_settled 116 = .ok (.iload_n 2, 1) := by decide +kernel
theorem dX8_settled_117 : decode cX8_settled 117 = .ok (.bipush 8, 2) := by decide +kernel
theorem dX8_settled_119 : decode cX8_settled 119 = .ok (.if_icmp .ne 7, 3) := by decide +kernel
theorem dX8_settled_122 : decode cX8_settled 122 = .ok (.iconst 1, 1) := by decide +kernel
theorem dX8_settled_123 : decode cX8_settled 123 = .ok (.goto 4, 3) := by decide +kernel
theorem dX8_settled_126 : decode cX8_settled 126 = .ok (.iconst 0, 1) := by decide +kernel
theorem dX8_settled_127 : decode cX8_settled 127 = .ok (.invokevirtual 258, 3) := by decide +kernel
theorem dX8_settled_130 : decode cX8_settled 130 = .ok (.ireturn, 1) := by decide +kernel
theorem dX8_settled_131 : decode cX8_settled 131 = .ok (.iconst (-1), 1) := by decide +kernel
theorem dX8_settled_132 : decode cX8_settled 132 = .ok (.ireturn, 1) := by decide +kernel
theorem gX8_settled_X8_all : GoodIn wtX8_settled (wsV RX8 220 RX8 yX8_all wtX8_all) := tb_good (tb_v0 wd_413 wd_414 wd_415 wd_5 wd_416)
theorem gX8_settled_X8_isLoss : GoodIn wtX8_settled (wsV RX8 252 RX8 yX8_isLoss wtX8_isLoss) := tb_good (tb_v0 wd_554 wd_555 wd_556 wd_5 wd_557)
theorem gX8_settled_X8_rings : GoodIn wtX8_settled (wsV RX8 255 RX8 yX8_rings wtX8_rings) := tb_good (tb_v0 wd_558 wd_559 wd_560 wd_5 wd_561)
theorem gX8_settled_X8_settlesTo : GoodIn wtX8_settled (wsV RX8 224 RX8 yX8_settlesTo wtX8_settlesTo) := tb_good (tb_v0 wd_482 wd_483 wd_484 wd_5 wd_485)
theorem gX8_settled_X8_yieldMany : GoodIn wtX8_settled (wsV RX8 258 RX8 yX8_yieldMany wtX8_yieldMany) := tb_good (tb_v0 wd_566 wd_567 wd_568 wd_5 wd_569)
set_option maxHeartbeats 4000000 in
set_option maxRecDepth 100000 in
theorem m_X8_settled (l : Launch) (D : va_G) (cI cJ : ClassId) (sz : Nat) (g g2 g3 g4 g5 g6 g7 g8 g9 g10 g12 g13 g15 g16 g17 g19 g20 g21 g22 g23 g24 g25 g26 g27 g28 g33 g34 g35 g36 g37 g38 g39 g41 g42 g44 g45 mn ml mv tt : Nat) (gi0 gi14 gi18 gi29 gi30 gi40 gi43 p0 p1 : Int32) (G2 G3 G4 G5 G6 G7 G8 G10 G12 G13 G19 G20 G21 G22 G23 G24 G25 G26 G27 G28 G33 G34 G35 G36 : Nat → Int32) (G37 : Nat → Int64) (li0 wo0 de0 ag0 : Nat → Nat) (hmn : mn ≤ 8) (hmL : ml ≤ 10) (hit : ∀ k, k < 10 → ∃ j : Nat, j < 8 ∧ G12 k = nI j) (hsu : ∀ k, k < 64 → ∃ j : Nat, j ≤ 1000001 ∧ G10 k = nI j) (hliv : nv G2 li0) (hlib : ∀ k, k < 8 → li0 k ≤ 1000000) (hwov : nv G5 wo0) (hwob : ∀ k, k < 8 → wo0 k ≤ 9000000) (hdev : nv G4 de0) (hdeb : ∀ k, k < 8 → de0 k ≤ 99999) (hagv : nv G3 ag0) (hagb : ∀ k, k < 8 → ag0 k ≤ 9000000) (hamt : ∀ k, k < 10 → ∃ j : Nat, j < 1000001 ∧ G13 k = nI j) (hLE : LE G19) (hLO : LO G20) (hLW : LW G25) (hSH : SH G27 tt) (htt : tt ≤ 1000000) (hmv : mv ≤ 8) : Met l yX8_settled wtX8_settled { frames := 8, cells := 0, slots := 0, locals := 189 } (cPc D cI cJ [.ref g, .int p0, .int p1] sz [(oX8 g gi0 (nI mn) g2 g3 g4 g5 g6 g7 g8 g9 g10 (nI ml) g12 g13 gi14 g15 g16 g17 gi18 g19 g20 g21 g22 g23 g24 g25 g26 g27 g28 gi29 gi30 (nI mv) (nI tt) g33 g34 g35 g36 g37 g38 g39 gi40 g41 g42 gi43 g44 g45), (aIc cI g2 8 G2), (aIc cI g3 8 G3), (aIc cI g4 8 G4), (aIc cI g5 8 G5), (aIc cI g6 8 G6), (aIc cI g7 8 G7), (aIc cI g8 8 G8), (aIc cI g10 64 G10), (aIc cI g12 10 G12), (aIc cI g13 10 G13), (aIc cI g19 8 G19), (aIc cI g20 8 G20), (aIc cI g21 8 G21), (aIc cI g22 8 G22), (aIc cI g23 8 G23), (aIc cI g24 8 G24), (aIc cI g25 8 G25), (aIc cI g26 8 G26), (aIc cI g27 8 G27), (aIc cI g28 8 G28), (aIc cI g33 8 G33), (aIc cI g34 8 G34), (aIc cI g35 8 G35), (aIc cI g36 8 G36), (aJc cJ g37 8 G37)]) (cQi D (fun r u => ∃ (G19p G20p G21p G22p G23p G24p G25p G26p G27p G28p G33p G34p G35p G36p : Nat → Int32) (G37p : Nat → Int64) (gi29p gi30p gi18p : Int32) (mvp ttp : Nat) (gi0p : Int32), (LE G19p) ∧ (LO G20p) ∧ (LW G25p) ∧ (SH G27p ttp) ∧ (ttp ≤ 1000000) ∧ (mvp ≤ 8) ∧ u = [(oX8 g gi0p (nI mn) g2 g3 g4 g5 g6 g7 g8 g9 g10 (nI ml) g12 g13 gi14 g15 g16 g17 gi18p g19 g20 g21 g22 g23 g24 g25 g26 g27 g28 gi29p gi30p (nI mvp) (nI ttp) g33 g34 g35 g36 g37 g38 g39 gi40 g41 g42 gi43 g44 g45), (aIc cI g2 8 G2), (aIc cI g3 8 G3), (aIc cI g4 8 G4), (aIc cI g5 8 G5), (aIc cI g6 8 G6), (aIc cI g7 8 G7), (aIc cI g8 8 G8), (aIc cI g10 64 G10), (aIc cI g12 10 G12), (aIc cI g13 10 G13), (aIc cI g19 8 G19p), (aIc cI g20 8 G20p), (aIc cI g21 8 G21p), (aIc cI g22 8 G22p), (aIc cI g23 8 G23p), (aIc cI g24 8 G24p), (aIc cI g25 8 G25p), (aIc cI g26 8 G26p), (aIc cI g27 8 G27p), (aIc cI g28 8 G28p), (aIc cI g33 8 G33p), (aIc cI g34 8 G34p), (aIc cI g35 8 G35p), (aIc cI g36 8 G36p), (aJc cJ g37 8 G37p)]) (va_A [(oX8 g gi0 (nI mn) g2 g3 g4 g5 g6 g7 g8 g9 g10 (nI ml) g12 g13 gi14 g15 g16 g17 gi18 g19 g20 g21 g22 g23 g24 g25 g26 g27 g28 gi29 gi30 (nI mv) (nI tt) g33 g34 g35 g36 g37 g38 g39 gi40 g41 g42 gi43 g44 g45), (aIc cI g2 8 G2), (aIc cI g3 8 G3), (aIc cI g4 8 G4), (aIc cI g5 8 G5), (aIc cI g6 8 G6), (aIc cI g7 8 G7), (aIc cI g8 8 G8), (aIc cI g10 64 G10), (aIc cI g12 10 G12), (aIc cI g13 10 G13), (aIc cI g19 8 G19), (aIc cI g20 8 G20), (aIc cI g21 8 G21), (aIc cI g22 8 G22), (aIc cI g23 8 G23), (aIc cI g24 8 G24), (aIc cI g25 8 G25), (aIc cI g26 8 G26), (aIc cI g27 8 G27), (aIc cI g28 8 G28), (aIc cI g33 8 G33), (aIc cI g34 8 G34), (aIc cI g35 8 G35), (aIc cI g36 8 G36), (aJc cJ g37 8 G37)] sz)) 0 0 (va_A [(oX8 g gi0 (nI mn) g2 g3 g4 g5 g6 g7 g8 g9 g10 (nI ml) g12 g13 gi14 g15 g16 g17 gi18 g19 g20 g21 g22 g23 g24 g25 g26 g27 g28 gi29 gi30 (nI mv) (nI tt) g33 g34 g35 g36 g37 g38 g39 gi40 g41 g42 gi43 g44 g45), (aIc cI g2 8 G2), (aIc cI g3 8 G3), (aIc cI g4 8 G4), (aIc cI g5 8 G5), (aIc cI g6 8 G6), (aIc cI g7 8 G7), (aIc cI g8 8 G8), (aIc cI g10 64 G10), (aIc cI g12 10 G12), (aIc cI g13 10 G13), (aIc cI g19 8 G19), (aIc cI g20 8 G20), (aIc cI g21 8 G21), (aIc cI g22 8 G22), (aIc cI g23 8 G23), (aIc cI g24 8 G24), (aIc cI g25 8 G25), (aIc cI g26 8 G26), (aIc cI g27 8 G27), (aIc cI g28 8 G28), (aIc cI g33 8 G33), (aIc cI g34 8 G34), (aIc cI g35 8 G35), (aIc cI g36 8 G36), (aJc cJ g37 8 G37)] sz) := by
  refine k_ofW (Qc := cQi D (fun r u => ∃ (G19p G20p G21p G22p G23p G24p G25p G26p G27p G28p G33p G34p G35p G36p : Nat → Int32) (G37p : Nat → Int64) (gi29p gi30p gi18p : Int32) (mvp ttp : Nat) (gi0p : Int32), (LE G19p) ∧ (LO G20p) ∧ (LW G25p) ∧ (SH G27p ttp) ∧ (ttp ≤ 1000000) ∧ (mvp ≤ 8) ∧ u = [(oX8 g gi0p (nI mn) g2 g3 g4 g5 g6 g7 g8 g9 g10 (nI ml) g12 g13 gi14 g15 g16 g17 gi18p g19 g20 g21 g22 g23 g24 g25 g26 g27 g28 gi29p gi30p (nI mvp) (nI ttp) g33 g34 g35 g36 g37 g38 g39 gi40 g41 g42 gi43 g44 g45), (aIc cI g2 8 G2), (aIc cI g3 8 G3), (aIc cI g4 8 G4), (aIc cI g5 8 G5), (aIc cI g6 8 G6), (aIc cI g7 8 G7), (aIc cI g8 8 G8), (aIc cI g10 64 G10), (aIc cI g12 10 G12), (aIc cI g13 10 G13), (aIc cI g19 8 G19p), (aIc cI g20 8 G20p), (aIc cI g21 8 G21p), (aIc cI g22 8 G22p), (aIc cI g23 8 G23p), (aIc cI g24 8 G24p), (aIc cI g25 8 G25p), (aIc cI g26 8 G26p), (aIc cI g27 8 G27p), (aIc cI g28 8 G28p), (aIc cI g33 8 G33p), (aIc cI g34 8 G34p), (aIc cI g35 8 G35p), (aIc cI g36 8 G36p), (aJc cJ g37 8 G37p)])) (by decide) rfl (Nat.le_of_ble_eq_true rfl) ?_
  intro p e s m below meth c A ls hx hb hr hml hts hown hlk hnm hsz hE hP hD hS hA hl
  have hown : s.vm.findClass RX8 = some m.cls := hown
  have hiX8 : ∀ w ∈ u_ws RX8 TX8 46, w ∈ wtX8_settled := fun w h => List.mem_cons_of_mem _ (iuX8 w h)
  have hl : lv_has ls 3 [(0, .ref g), (1, .int p0), (2, .int p1)] := hl
  refine lv_aload_n hx hb dX8_settled_0 rfl (lv_at hl 0 rfl) ?_
  refine lv_iconst (v := 0) hx hb dX8_settled_1 (by decide) ?_
  refine va_put (D := D) (ci := 8) (v := .int 0) (ty := .int) (C := RX8) (T := TX8) (N := 46) hx hb hts hiX8 tyX8 tyX8_ok nmX8 hown hE.1 hP hD hS 0 rfl rfl 0 (by decide) (hts _ (List.mem_cons_of_mem _ wd_171)) (fun _ h9 => h9) rfl (by decide +kernel) rfl rfl (Nat.le_of_ble_eq_true rfl) dX8_settled_2 (fun H locs hP hD hS => ?_)
  refine k_re (w := [(oX8 g 0 (nI mn) g2 g3 g4 g5 g6 g7 g8 g9 g10 (nI ml) g12 g13 gi14 g15 g16 g17 gi18 g19 g20 g21 g22 g23 g24 g25 g26 g27 g28 gi29 gi30 (nI mv) (nI tt) g33 g34 g35 g36 g37 g38 g39 gi40 g41 g42 gi43 g44 g45), (aIc cI g2 8 G2), (aIc cI g3 8 G3), (aIc cI g4 8 G4), (aIc cI g5 8 G5), (aIc cI g6 8 G6), (aIc cI g7 8 G7), (aIc cI g8 8 G8), (aIc cI g10 64 G10), (aIc cI g12 10 G12), (aIc cI g13 10 G13), (aIc cI g19 8 G19), (aIc cI g20 8 G20), (aIc cI g21 8 G21), (aIc cI g22 8 G22), (aIc cI g23 8 G23), (aIc cI g24 8 G24), (aIc cI g25 8 G25), (aIc cI g26 8 G26), (aIc cI g27 8 G27), (aIc cI g28 8 G28), (aIc cI g33 8 G33), (aIc cI g34 8 G34), (aIc cI g35 8 G35), (aIc cI g36 8 G36), (aJc cJ g37 8 G37)]) hP hD (fun hP hD => ?_)
  refine lv_aload_n hx hb dX8_settled_5 rfl (lv_at hl 0 rfl) ?_
  refine lv_iload_n hx hb dX8_settled_6 rfl (lv_at hl 1 rfl) ?_
  refine k_iS (va_runV (As := [.int p0]) (rest := []) ⟨hx, hb, hml, hown, hts⟩ (m_X8_isLoss l D cI cJ H.size g g2 g3 g4 g5 g6 g7 g8 g9 g10 g12 g13 g15 g16 g17 g19 g20 g21 g22 g23 g24 g25 g26 g27 g28 g33 g34 g35 g36 g37 g38 g39 g41 g42 g44 g45 mn ml mv 0 gi14 gi18 gi29 gi30 (nI tt) gi40 gi43 p0) (cwV 1 hts gX8_settled_X8_isLoss rfl rfl rfl (by decide +kernel) ⟨Nat.le_of_ble_eq_true rfl, Nat.le_of_ble_eq_true rfl⟩) (k_preV hE hP hD [0] (by decide +kernel) rfl 0 rfl rfl) rfl rfl hl.1 rfl (lv_room (Nat.le_of_ble_eq_true rfl)) dX8_settled_7 ⟨Nat.le_of_ble_eq_true rfl, Nat.le_of_ble_eq_true rfl⟩) hP hD hS hA [0] rfl (fun _ _ ⟨_, h9⟩ => h9) (fun r1 H locs hw2 hP hD hS => ?_)
  obtain ⟨hb3, -⟩ := hw2
  refine lv_if_ne (tgt := 15) hx hb dX8_settled_10 (by decide) (fun c4 => ?_) (fun c4 => ?_)
  · skip
    have hc4 : 0 ≤ p0 ∧ p0 ≤ nI ml - 1 := bz_1 hb3 c4
    obtain ⟨lj, hlj, elj⟩ := wi_n (by omega) hc4
    rw [elj] at hl
    refine lv_aload_n hx hb dX8_settled_15 rfl (lv_at hl 0 rfl) ?_
    refine lv_iload_n hx hb dX8_settled_16 rfl (lv_at hl 1 rfl) ?_
    refine lv_aload_n hx hb dX8_settled_17 rfl (lv_at hl 0 rfl) ?_
    refine k_iS (va_runV (As := []) (rest := [.int (nI lj), .ref g]) ⟨hx, hb, hml, hown, hts⟩ (m_X8_all l D cI cJ H.size g g2 g3 g4 g5 g6 g7 g8 g9 g10 g12 g13 g15 g16 g17 g19 g20 g21 g22 g23 g24 g25 g26 g27 g28 g33 g34 g35 g36 g37 g38 g39 g41 g42 g44 g45 mn ml mv 0 gi14 gi18 gi29 gi30 (nI tt) gi40 gi43 hmn) (cwV 0 hts gX8_settled_X8_all rfl rfl rfl (by decide +kernel) ⟨Nat.le_of_ble_eq_true rfl, Nat.le_of_ble_eq_true rfl⟩) (k_preV hE hP hD [0] (by decide +kernel) rfl 0 rfl rfl) rfl rfl hl.1 rfl (lv_room (Nat.le_of_ble_eq_true rfl)) dX8_settled_18 ⟨Nat.le_of_ble_eq_true rfl, Nat.le_of_ble_eq_true rfl⟩) hP hD hS hA [0] rfl (fun _ _ ⟨_, h9⟩ => h9) (fun r5 H locs hw6 hP hD hS => ?_)
    obtain ⟨rfl, -⟩ := hw6
    refine k_v (va_runV (As := [.int (nI lj), .int (nI (2 ^ mn - 1))]) (rest := []) ⟨hx, hb, hml, hown, hts⟩ (m_X8_settlesTo l D cI cJ H.size g g2 g3 g4 g5 g6 g7 g8 g9 g10 g12 g13 g15 g16 g17 g19 g20 g21 g22 g23 g24 g25 g26 g27 g28 g33 g34 g35 g36 g37 g38 g39 g41 g42 g44 g45 mn ml mv tt (lj + 1) 0 gi14 gi18 gi29 gi30 gi40 gi43 (nI lj) (nI (2 ^ mn - 1)) G2 G3 G4 G5 G6 G7 G8 G10 G12 G13 G19 G20 G21 G22 G23 G24 G25 G26 G27 G28 G33 G34 G35 G36 G37 li0 wo0 de0 ag0 (nI_pred lj).symm (by omega) hit hsu hliv hlib hwov hwob hdev hdeb hagv hagb hamt hLE hLO hLW hSH htt hmv) (cwV 2 hts gX8_settled_X8_settlesTo rfl rfl rfl (by decide +kernel) ⟨Nat.le_of_ble_eq_true rfl, Nat.le_of_ble_eq_true rfl⟩) (k_preV hE hP hD [0, 1, 2, 3, 4, 5, 6, 7, 8, 9, 10, 11, 12, 13, 14, 15, 16, 17, 18, 19, 20, 21, 22, 23, 24, 25] (by decide +kernel) rfl 0 rfl rfl) rfl rfl hl.1 rfl (lv_room (Nat.le_of_ble_eq_true rfl)) dX8_settled_21 ⟨Nat.le_of_ble_eq_true rfl, Nat.le_of_ble_eq_true rfl⟩) hP hD hS hA [0, 1, 2, 3, 4, 5, 6, 7, 8, 9, 10, 11, 12, 13, 14, 15, 16, 17, 18, 19, 20, 21, 22, 23, 24, 25] [] rfl (wr := []) rfl (by decide +kernel) (by decide +kernel) (fun u H locs hw7 hP hD hS => ?_)
    obtain ⟨z8, z9, z10, z11, z12, z13, z14, z15, z16, z17, z18, z19, z20, z21, z22, z23, z24, z25, z26, z27, hz28, hz29, hz30, hz31, hz32, hz33, hz34, rfl⟩ := hw7
    refine k_re (w := [(oX8 g 0 (nI mn) g2 g3 g4 g5 g6 g7 g8 g9 g10 (nI ml) g12 g13 gi14 g15 g16 g17 z25 g19 g20 g21 g22 g23 g24 g25 g26 g27 g28 z23 z24 (nI z26) (nI z27) g33 g34 g35 g36 g37 g38 g39 gi40 g41 g42 gi43 g44 g45), (aIc cI g2 8 G2), (aIc cI g3 8 G3), (aIc cI g4 8 G4), (aIc cI g5 8 G5), (aIc cI g6 8 G6), (aIc cI g7 8 G7), (aIc cI g8 8 G8), (aIc cI g10 64 G10), (aIc cI g12 10 G12), (aIc cI g13 10 G13), (aIc cI g19 8 z8), (aIc cI g20 8 z9), (aIc cI g21 8 z10), (aIc cI g22 8 z11), (aIc cI g23 8 z12), (aIc cI g24 8 z13), (aIc cI g25 8 z14), (aIc cI g26 8 z15), (aIc cI g27 8 z16), (aIc cI g28 8 z17), (aIc cI g33 8 z18), (aIc cI g34 8 z19), (aIc cI g35 8 z20), (aIc cI g36 8 z21), (aJc cJ g37 8 z22)]) hP hD (fun hP hD => ?_)
    refine lv_iload_n hx hb dX8_settled_24 rfl (lv_at hl 2 rfl) ?_
    by_cases c35 : p1 = 0
    · skip
      refine lv_tableIn (tgt := 76) hx hb dX8_settled_25 (by rw [c35]; decide) (by rw [c35]; decide) (off := 51) (by rw [c35]; rfl) (by decide) ?_
      refine lv_aload_n hx hb dX8_settled_76 rfl (lv_at hl 0 rfl) ?_
      refine va_get (D := D) (ci := 8) (v := .ref g12) (C := RX8) (T := TX8) (N := 46) hx hb hts hiX8 hown hE.1 hP 0 rfl rfl 12 (by decide) (hts _ (List.mem_cons_of_mem _ wd_125)) (fun _ h9 => h9) rfl dX8_settled_77 ?_
      refine lv_iload_n hx hb dX8_settled_80 rfl (lv_at hl 1 rfl) ?_
      refine va_iald hx hb hE.1 hP 9 0 rfl rfl (vp_in_nI (n := lj) (by omega) (by decide)) dX8_settled_81 ?_
      refine lv_topi (fun v36 ev36 => ?_)
      refine k_iret (u := [(oX8 g 0 (nI mn) g2 g3 g4 g5 g6 g7 g8 g9 g10 (nI ml) g12 g13 gi14 g15 g16 g17 z25 g19 g20 g21 g22 g23 g24 g25 g26 g27 g28 z23 z24 (nI z26) (nI z27) g33 g34 g35 g36 g37 g38 g39 gi40 g41 g42 gi43 g44 g45), (aIc cI g2 8 G2), (aIc cI g3 8 G3), (aIc cI g4 8 G4), (aIc cI g5 8 G5), (aIc cI g6 8 G6), (aIc cI g7 8 G7), (aIc cI g8 8 G8), (aIc cI g10 64 G10), (aIc cI g12 10 G12), (aIc cI g13 10 G13), (aIc cI g19 8 z8), (aIc cI g20 8 z9), (aIc cI g21 8 z10), (aIc cI g22 8 z11), (aIc cI g23 8 z12), (aIc cI g24 8 z13), (aIc cI g25 8 z14), (aIc cI g26 8 z15), (aIc cI g27 8 z16), (aIc cI g28 8 z17), (aIc cI g33 8 z18), (aIc cI g34 8 z19), (aIc cI g35 8 z20), (aIc cI g36 8 z21), (aJc cJ g37 8 z22)]) hx hb hr hlk hP hD hS dX8_settled_82 ?_
      exact ⟨z8, z9, z10, z11, z12, z13, z14, z15, z16, z17, z18, z19, z20, z21, z22, z23, z24, z25, z26, z27, 0, hz28, hz29, hz30, hz31, hz32, hz33, rfl⟩
    by_cases c37 : p1 = 1
    · skip
      refine lv_tableIn (tgt := 83) hx hb dX8_settled_25 (by rw [c37]; decide) (by rw [c37]; decide) (off := 58) (by rw [c37]; rfl) (by decide) ?_
      refine lv_aload_n hx hb dX8_settled_83 rfl (lv_at hl 0 rfl) ?_
      refine va_get (D := D) (ci := 8) (v := .ref g13) (C := RX8) (T := TX8) (N := 46) hx hb hts hiX8 hown hE.1 hP 0 rfl rfl 13 (by decide) (hts _ (List.mem_cons_of_mem _ wd_126)) (fun _ h9 => h9) rfl dX8_settled_84 ?_
      refine lv_iload_n hx hb dX8_settled_87 rfl (lv_at hl 1 rfl) ?_
      refine va_iald hx hb hE.1 hP 10 0 rfl rfl (vp_in_nI (n := lj) (by omega) (by decide)) dX8_settled_88 ?_
      refine lv_topi (fun v38 ev38 => ?_)
      refine k_iret (u := [(oX8 g 0 (nI mn) g2 g3 g4 g5 g6 g7 g8 g9 g10 (nI ml) g12 g13 gi14 g15 g16 g17 z25 g19 g20 g21 g22 g23 g24 g25 g26 g27 g28 z23 z24 (nI z26) (nI z27) g33 g34 g35 g36 g37 g38 g39 gi40 g41 g42 gi43 g44 g45), (aIc cI g2 8 G2), (aIc cI g3 8 G3), (aIc cI g4 8 G4), (aIc cI g5 8 G5), (aIc cI g6 8 G6), (aIc cI g7 8 G7), (aIc cI g8 8 G8), (aIc cI g10 64 G10), (aIc cI g12 10 G12), (aIc cI g13 10 G13), (aIc cI g19 8 z8), (aIc cI g20 8 z9), (aIc cI g21 8 z10), (aIc cI g22 8 z11), (aIc cI g23 8 z12), (aIc cI g24 8 z13), (aIc cI g25 8 z14), (aIc cI g26 8 z15), (aIc cI g27 8 z16), (aIc cI g28 8 z17), (aIc cI g33 8 z18), (aIc cI g34 8 z19), (aIc cI g35 8 z20), (aIc cI g36 8 z21), (aJc cJ g37 8 z22)]) hx hb hr hlk hP hD hS dX8_settled_89 ?_
      exact ⟨z8, z9, z10, z11, z12, z13, z14, z15, z16, z17, z18, z19, z20, z21, z22, z23, z24, z25, z26, z27, 0, hz28, hz29, hz30, hz31, hz32, hz33, rfl⟩
    by_cases c39 : p1 = 2
    · skip
      refine lv_tableIn (tgt := 90) hx hb dX8_settled_25 (by rw [c39]; decide) (by rw [c39]; decide) (off := 65) (by rw [c39]; rfl) (by decide) ?_
      refine lv_aload_n hx hb dX8_settled_90 rfl (lv_at hl 0 rfl) ?_
      refine va_get (D := D) (ci := 8) (v := .int (nI z27)) (C := RX8) (T := TX8) (N := 46) hx hb hts hiX8 hown hE.1 hP 0 rfl rfl 32 (by decide) (hts _ (List.mem_cons_of_mem _ wd_412)) (fun _ h9 => h9) rfl dX8_settled_91 ?_
      refine k_iret (u := [(oX8 g 0 (nI mn) g2 g3 g4 g5 g6 g7 g8 g9 g10 (nI ml) g12 g13 gi14 g15 g16 g17 z25 g19 g20 g21 g22 g23 g24 g25 g26 g27 g28 z23 z24 (nI z26) (nI z27) g33 g34 g35 g36 g37 g38 g39 gi40 g41 g42 gi43 g44 g45), (aIc cI g2 8 G2), (aIc cI g3 8 G3), (aIc cI g4 8 G4), (aIc cI g5 8 G5), (aIc cI g6 8 G6), (aIc cI g7 8 G7), (aIc cI g8 8 G8), (aIc cI g10 64 G10), (aIc cI g12 10 G12), (aIc cI g13 10 G13), (aIc cI g19 8 z8), (aIc cI g20 8 z9), (aIc cI g21 8 z10), (aIc cI g22 8 z11), (aIc cI g23 8 z12), (aIc cI g24 8 z13), (aIc cI g25 8 z14), (aIc cI g26 8 z15), (aIc cI g27 8 z16), (aIc cI g28 8 z17), (aIc cI g33 8 z18), (aIc cI g34 8 z19), (aIc cI g35 8 z20), (aIc cI g36 8 z21), (aJc cJ g37 8 z22)]) hx hb hr hlk hP hD hS dX8_settled_94 ?_
      exact ⟨z8, z9, z10, z11, z12, z13, z14, z15, z16, z17, z18, z19, z20, z21, z22, z23, z24, z25, z26, z27, 0, hz28, hz29, hz30, hz31, hz32, hz33, rfl⟩
    by_cases c40 : p1 = 3
    · skip
      refine lv_tableIn (tgt := 95) hx hb dX8_settled_25 (by rw [c40]; decide) (by rw [c40]; decide) (off := 70) (by rw [c40]; rfl) (by decide) ?_
      refine lv_aload_n hx hb dX8_settled_95 rfl (lv_at hl 0 rfl) ?_
      refine va_get (D := D) (ci := 8) (v := .int z23) (C := RX8) (T := TX8) (N := 46) hx hb hts hiX8 hown hE.1 hP 0 rfl rfl 29 (by decide) (hts _ (List.mem_cons_of_mem _ wd_421)) (fun _ h9 => h9) rfl dX8_settled_96 ?_
      refine k_iret (u := [(oX8 g 0 (nI mn) g2 g3 g4 g5 g6 g7 g8 g9 g10 (nI ml) g12 g13 gi14 g15 g16 g17 z25 g19 g20 g21 g22 g23 g24 g25 g26 g27 g28 z23 z24 (nI z26) (nI z27) g33 g34 g35 g36 g37 g38 g39 gi40 g41 g42 gi43 g44 g45), (aIc cI g2 8 G2), (aIc cI g3 8 G3), (aIc cI g4 8 G4), (aIc cI g5 8 G5), (aIc cI g6 8 G6), (aIc cI g7 8 G7), (aIc cI g8 8 G8), (aIc cI g10 64 G10), (aIc cI g12 10 G12), (aIc cI g13 10 G13), (aIc cI g19 8 z8), (aIc cI g20 8 z9), (aIc cI g21 8 z10), (aIc cI g22 8 z11), (aIc cI g23 8 z12), (aIc cI g24 8 z13), (aIc cI g25 8 z14), (aIc cI g26 8 z15), (aIc cI g27 8 z16), (aIc cI g28 8 z17), (aIc cI g33 8 z18), (aIc cI g34 8 z19), (aIc cI g35 8 z20), (aIc cI g36 8 z21), (aJc cJ g37 8 z22)]) hx hb hr hlk hP hD hS dX8_settled_99 ?_
      exact ⟨z8, z9, z10, z11, z12, z13, z14, z15, z16, z17, z18, z19, z20, z21, z22, z23, z24, z25, z26, z27, 0, hz28, hz29, hz30, hz31, hz32, hz33, rfl⟩
    by_cases c41 : p1 = 4
    · skip
      refine lv_tableIn (tgt := 100) hx hb dX8_settled_25 (by rw [c41]; decide) (by rw [c41]; decide) (off := 75) (by rw [c41]; rfl) (by decide) ?_
      refine lv_aload_n hx hb dX8_settled_100 rfl (lv_at hl 0 rfl) ?_
      refine va_get (D := D) (ci := 8) (v := .int z24) (C := RX8) (T := TX8) (N := 46) hx hb hts hiX8 hown hE.1 hP 0 rfl rfl 30 (by decide) (hts _ (List.mem_cons_of_mem _ wd_445)) (fun _ h9 => h9) rfl dX8_settled_101 ?_
      refine k_iret (u := [(oX8 g 0 (nI mn) g2 g3 g4 g5 g6 g7 g8 g9 g10 (nI ml) g12 g13 gi14 g15 g16 g17 z25 g19 g20 g21 g22 g23 g24 g25 g26 g27 g28 z23 z24 (nI z26) (nI z27) g33 g34 g35 g36 g37 g38 g39 gi40 g41 g42 gi43 g44 g45), (aIc cI g2 8 G2), (aIc cI g3 8 G3), (aIc cI g4 8 G4), (aIc cI g5 8 G5), (aIc cI g6 8 G6), (aIc cI g7 8 G7), (aIc cI g8 8 G8), (aIc cI g10 64 G10), (aIc cI g12 10 G12), (aIc cI g13 10 G13), (aIc cI g19 8 z8), (aIc cI g20 8 z9), (aIc cI g21 8 z10), (aIc cI g22 8 z11), (aIc cI g23 8 z12), (aIc cI g24 8 z13), (aIc cI g25 8 z14), (aIc cI g26 8 z15), (aIc cI g27 8 z16), (aIc cI g28 8 z17), (aIc cI g33 8 z18), (aIc cI g34 8 z19), (aIc cI g35 8 z20), (aIc cI g36 8 z21), (aJc cJ g37 8 z22)]) hx hb hr hlk hP hD hS dX8_settled_104 ?_
      exact ⟨z8, z9, z10, z11, z12, z13, z14, z15, z16, z17, z18, z19, z20, z21, z22, z23, z24, z25, z26, z27, 0, hz28, hz29, hz30, hz31, hz32, hz33, rfl⟩
    by_cases c42 : p1 = 5
    · skip
      refine lv_tableIn (tgt := 105) hx hb dX8_settled_25 (by rw [c42]; decide) (by rw [c42]; decide) (off := 80) (by rw [c42]; rfl) (by decide) ?_
      refine lv_aload_n hx hb dX8_settled_105 rfl (lv_at hl 0 rfl) ?_
      refine k_iS (va_runV (As := []) (rest := []) ⟨hx, hb, hml, hown, hts⟩ (m_X8_rings l D cI cJ H.size g g2 g3 g4 g5 g6 g7 g8 g9 g10 g12 g13 g15 g16 g17 g19 g20 g21 g22 g23 g24 g25 g26 g27 g28 g33 g34 g35 g36 g37 g38 g39 g41 g42 g44 g45 mn ml z26 0 gi14 z25 z23 z24 (nI z27) gi40 gi43 z12) (cwV 0 hts gX8_settled_X8_rings rfl rfl rfl (by decide +kernel) ⟨Nat.le_of_ble_eq_true rfl, Nat.le_of_ble_eq_true rfl⟩) (k_preV hE hP hD [0, 15] (by decide +kernel) rfl 0 rfl rfl) rfl rfl hl.1 rfl (lv_room (Nat.le_of_ble_eq_true rfl)) dX8_settled_106 ⟨Nat.le_of_ble_eq_true rfl, Nat.le_of_ble_eq_true rfl⟩) hP hD hS hA [0, 15] rfl (fun _ _ h9 => h9) (fun r43 H locs hw44 hP hD hS => ?_)
      refine k_iret (u := [(oX8 g 0 (nI mn) g2 g3 g4 g5 g6 g7 g8 g9 g10 (nI ml) g12 g13 gi14 g15 g16 g17 z25 g19 g20 g21 g22 g23 g24 g25 g26 g27 g28 z23 z24 (nI z26) (nI z27) g33 g34 g35 g36 g37 g38 g39 gi40 g41 g42 gi43 g44 g45), (aIc cI g2 8 G2), (aIc cI g3 8 G3), (aIc cI g4 8 G4), (aIc cI g5 8 G5), (aIc cI g6 8 G6), (aIc cI g7 8 G7), (aIc cI g8 8 G8), (aIc cI g10 64 G10), (aIc cI g12 10 G12), (aIc cI g13 10 G13), (aIc cI g19 8 z8), (aIc cI g20 8 z9), (aIc cI g21 8 z10), (aIc cI g22 8 z11), (aIc cI g23 8 z12), (aIc cI g24 8 z13), (aIc cI g25 8 z14), (aIc cI g26 8 z15), (aIc cI g27 8 z16), (aIc cI g28 8 z17), (aIc cI g33 8 z18), (aIc cI g34 8 z19), (aIc cI g35 8 z20), (aIc cI g36 8 z21), (aJc cJ g37 8 z22)]) hx hb hr hlk hP hD hS dX8_settled_109 ?_
      exact ⟨z8, z9, z10, z11, z12, z13, z14, z15, z16, z17, z18, z19, z20, z21, z22, z23, z24, z25, z26, z27, 0, hz28, hz29, hz30, hz31, hz32, hz33, rfl⟩
    by_cases c45 : p1 = 6
    · skip
      refine lv_tableIn (tgt := 110) hx hb dX8_settled_25 (by rw [c45]; decide) (by rw [c45]; decide) (off := 85) (by rw [c45]; rfl) (by decide) ?_
      refine lv_aload_n hx hb dX8_settled_110 rfl (lv_at hl 0 rfl) ?_
      refine va_get (D := D) (ci := 8) (v := .int (nI z26)) (C := RX8) (T := TX8) (N := 46) hx hb hts hiX8 hown hE.1 hP 0 rfl rfl 31 (by decide) (hts _ (List.mem_cons_of_mem _ wd_422)) (fun _ h9 => h9) rfl dX8_settled_111 ?_
      refine k_iret (u := [(oX8 g 0 (nI mn) g2 g3 g4 g5 g6 g7 g8 g9 g10 (nI ml) g12 g13 gi14 g15 g16 g17 z25 g19 g20 g21 g22 g23 g24 g25 g26 g27 g28 z23 z24 (nI z26) (nI z27) g33 g34 g35 g36 g37 g38 g39 gi40 g41 g42 gi43 g44 g45), (aIc cI g2 8 G2), (aIc cI g3 8 G3), (aIc cI g4 8 G4), (aIc cI g5 8 G5), (aIc cI g6 8 G6), (aIc cI g7 8 G7), (aIc cI g8 8 G8), (aIc cI g10 64 G10), (aIc cI g12 10 G12), (aIc cI g13 10 G13), (aIc cI g19 8 z8), (aIc cI g20 8 z9), (aIc cI g21 8 z10), (aIc cI g22 8 z11), (aIc cI g23 8 z12), (aIc cI g24 8 z13), (aIc cI g25 8 z14), (aIc cI g26 8 z15), (aIc cI g27 8 z16), (aIc cI g28 8 z17), (aIc cI g33 8 z18), (aIc cI g34 8 z19), (aIc cI g35 8 z20), (aIc cI g36 8 z21), (aJc cJ g37 8 z22)]) hx hb hr hlk hP hD hS dX8_settled_114 ?_
      exact ⟨z8, z9, z10, z11, z12, z13, z14, z15, z16, z17, z18, z19, z20, z21, z22, z23, z24, z25, z26, z27, 0, hz28, hz29, hz30, hz31, hz32, hz33, rfl⟩
    by_cases c46 : p1 = 7
    · skip
      refine lv_tableIn (tgt := 115) hx hb dX8_settled_25 (by rw [c46]; decide) (by rw [c46]; decide) (off := 90) (by rw [c46]; rfl) (by decide) ?_
      refine lv_aload_n hx hb dX8_settled_115 rfl (lv_at hl 0 rfl) ?_
      refine lv_iload_n hx hb dX8_settled_116 rfl (lv_at hl 2 rfl) ?_
      refine lv_bipush (v := 8) hx hb dX8_settled_117 (by decide) ?_
      refine lv_icmp_ne (tgt := 126) hx hb dX8_settled_119 (by decide) (fun c47 => ?_) (fun c47 => ?_)
      · skip
        refine lv_iconst (v := 0) hx hb dX8_settled_126 (by decide) ?_
        refine k_iS (va_runV (As := [.int 0]) (rest := []) ⟨hx, hb, hml, hown, hts⟩ (m_X8_yieldMany l D cI cJ H.size g g2 g3 g4 g5 g6 g7 g8 g9 g10 g12 g13 g15 g16 g17 g19 g20 g21 g22 g23 g24 g25 g26 g27 g28 g33 g34 g35 g36 g37 g38 g39 g41 g42 g44 g45 mn ml z26 0 gi14 z25 z23 z24 (nI z27) gi40 gi43 0 z10 z13) (cwV 1 hts gX8_settled_X8_yieldMany rfl rfl rfl (by decide +kernel) ⟨Nat.le_of_ble_eq_true rfl, Nat.le_of_ble_eq_true rfl⟩) (k_preV hE hP hD [0, 13, 16] (by decide +kernel) rfl 0 rfl rfl) rfl rfl hl.1 rfl (lv_room (Nat.le_of_ble_eq_true rfl)) dX8_settled_127 ⟨Nat.le_of_ble_eq_true rfl, Nat.le_of_ble_eq_true rfl⟩) hP hD hS hA [0, 13, 16] rfl (fun _ _ h9 => h9) (fun r48 H locs hw49 hP hD hS => ?_)
        refine k_iret (u := [(oX8 g 0 (nI mn) g2 g3 g4 g5 g6 g7 g8 g9 g10 (nI ml) g12 g13 gi14 g15 g16 g17 z25 g19 g20 g21 g22 g23 g24 g25 g26 g27 g28 z23 z24 (nI z26) (nI z27) g33 g34 g35 g36 g37 g38 g39 gi40 g41 g42 gi43 g44 g45), (aIc cI g2 8 G2), (aIc cI g3 8 G3), (aIc cI g4 8 G4), (aIc cI g5 8 G5), (aIc cI g6 8 G6), (aIc cI g7 8 G7), (aIc cI g8 8 G8), (aIc cI g10 64 G10), (aIc cI g12 10 G12), (aIc cI g13 10 G13), (aIc cI g19 8 z8), (aIc cI g20 8 z9), (aIc cI g21 8 z10), (aIc cI g22 8 z11), (aIc cI g23 8 z12), (aIc cI g24 8 z13), (aIc cI g25 8 z14), (aIc cI g26 8 z15), (aIc cI g27 8 z16), (aIc cI g28 8 z17), (aIc cI g33 8 z18), (aIc cI g34 8 z19), (aIc cI g35 8 z20), (aIc cI g36 8 z21), (aJc cJ g37 8 z22)]) hx hb hr hlk hP hD hS dX8_settled_130 ?_
        exact ⟨z8, z9, z10, z11, z12, z13, z14, z15, z16, z17, z18, z19, z20, z21, z22, z23, z24, z25, z26, z27, 0, hz28, hz29, hz30, hz31, hz32, hz33, rfl⟩
      · skip
        refine lv_iconst (v := 1) hx hb dX8_settled_122 (by decide) ?_
        refine lv_goto (tgt := 127) hx hb dX8_settled_123 (by decide) ?_
        refine k_iS (va_runV (As := [.int 1]) (rest := []) ⟨hx, hb, hml, hown, hts⟩ (m_X8_yieldMany l D cI cJ H.size g g2 g3 g4 g5 g6 g7 g8 g9 g10 g12 g13 g15 g16 g17 g19 g20 g21 g22 g23 g24 g25 g26 g27 g28 g33 g34 g35 g36 g37 g38 g39 g41 g42 g44 g45 mn ml z26 0 gi14 z25 z23 z24 (nI z27) gi40 gi43 1 z10 z13) (cwV 1 hts gX8_settled_X8_yieldMany rfl rfl rfl (by decide +kernel) ⟨Nat.le_of_ble_eq_true rfl, Nat.le_of_ble_eq_true rfl⟩) (k_preV hE hP hD [0, 13, 16] (by decide +kernel) rfl 0 rfl rfl) rfl rfl hl.1 rfl (lv_room (Nat.le_of_ble_eq_true rfl)) dX8_settled_127 ⟨Nat.le_of_ble_eq_true rfl, Nat.le_of_ble_eq_true rfl⟩) hP hD hS hA [0, 13, 16] rfl (fun _ _ h9 => h9) (fun r50 H locs hw51 hP hD hS => ?_)
        refine k_iret (u := [(oX8 g 0 (nI mn) g2 g3 g4 g5 g6 g7 g8 g9 g10 (nI ml) g12 g13 gi14 g15 g16 g17 z25 g19 g20 g21 g22 g23 g24 g25 g26 g27 g28 z23 z24 (nI z26) (nI z27) g33 g34 g35 g36 g37 g38 g39 gi40 g41 g42 gi43 g44 g45), (aIc cI g2 8 G2), (aIc cI g3 8 G3), (aIc cI g4 8 G4), (aIc cI g5 8 G5), (aIc cI g6 8 G6), (aIc cI g7 8 G7), (aIc cI g8 8 G8), (aIc cI g10 64 G10), (aIc cI g12 10 G12), (aIc cI g13 10 G13), (aIc cI g19 8 z8), (aIc cI g20 8 z9), (aIc cI g21 8 z10), (aIc cI g22 8 z11), (aIc cI g23 8 z12), (aIc cI g24 8 z13), (aIc cI g25 8 z14), (aIc cI g26 8 z15), (aIc cI g27 8 z16), (aIc cI g28 8 z17), (aIc cI g33 8 z18), (aIc cI g34 8 z19), (aIc cI g35 8 z20), (aIc cI g36 8 z21), (aJc cJ g37 8 z22)]) hx hb hr hlk hP hD hS dX8_settled_130 ?_
        exact ⟨z8, z9, z10, z11, z12, z13, z14, z15, z16, z17, z18, z19, z20, z21, z22, z23, z24, z25, z26, z27, 0, hz28, hz29, hz30, hz31, hz32, hz33, rfl⟩
    by_cases c52 : p1 = 8
    · skip
      refine lv_tableIn (tgt := 115) hx hb dX8_settled_25 (by rw [c52]; decide) (by rw [c52]; decide) (off := 90) (by rw [c52]; rfl) (by decide) ?_
      refine lv_aload_n hx hb dX8_settled_115 rfl (lv_at hl 0 rfl) ?_
      refine lv_iload_n hx hb dX8_settled_116 rfl (lv_at hl 2 rfl) ?_
      refine lv_bipush (v := 8) hx hb dX8_settled_117 (by decide) ?_
      refine lv_icmp_ne (tgt := 126) hx hb dX8_settled_119 (by decide) (fun c53 => ?_) (fun c53 => ?_)
      · skip
        refine lv_iconst (v := 0) hx hb dX8_settled_126 (by decide) ?_
        refine k_iS (va_runV (As := [.int 0]) (rest := []) ⟨hx, hb, hml, hown, hts⟩ (m_X8_yieldMany l D cI cJ H.size g g2 g3 g4 g5 g6 g7 g8 g9 g10 g12 g13 g15 g16 g17 g19 g20 g21 g22 g23 g24 g25 g26 g27 g28 g33 g34 g35 g36 g37 g38 g39 g41 g42 g44 g45 mn ml z26 0 gi14 z25 z23 z24 (nI z27) gi40 gi43 0 z10 z13) (cwV 1 hts gX8_settled_X8_yieldMany rfl rfl rfl (by decide +kernel) ⟨Nat.le_of_ble_eq_true rfl, Nat.le_of_ble_eq_true rfl⟩) (k_preV hE hP hD [0, 13, 16] (by decide +kernel) rfl 0 rfl rfl) rfl rfl hl.1 rfl (lv_room (Nat.le_of_ble_eq_true rfl)) dX8_settled_127 ⟨Nat.le_of_ble_eq_true rfl, Nat.le_of_ble_eq_true rfl⟩) hP hD hS hA [0, 13, 16] rfl (fun _ _ h9 => h9) (fun r54 H locs hw55 hP hD hS => ?_)
        refine k_iret (u := [(oX8 g 0 (nI mn) g2 g3 g4 g5 g6 g7 g8 g9 g10 (nI ml) g12 g13 gi14 g15 g16 g17 z25 g19 g20 g21 g22 g23 g24 g25 g26 g27 g28 z23 z24 (nI z26) (nI z27) g33 g34 g35 g36 g37 g38 g39 gi40 g41 g42 gi43 g44 g45), (aIc cI g2 8 G2), (aIc cI g3 8 G3), (aIc cI g4 8 G4), (aIc cI g5 8 G5), (aIc cI g6 8 G6), (aIc cI g7 8 G7), (aIc cI g8 8 G8), (aIc cI g10 64 G10), (aIc cI g12 10 G12), (aIc cI g13 10 G13), (aIc cI g19 8 z8), (aIc cI g20 8 z9), (aIc cI g21 8 z10), (aIc cI g22 8 z11), (aIc cI g23 8 z12), (aIc cI g24 8 z13), (aIc cI g25 8 z14), (aIc cI g26 8 z15), (aIc cI g27 8 z16), (aIc cI g28 8 z17), (aIc cI g33 8 z18), (aIc cI g34 8 z19), (aIc cI g35 8 z20), (aIc cI g36 8 z21), (aJc cJ g37 8 z22)]) hx hb hr hlk hP hD hS dX8_settled_130 ?_
        exact ⟨z8, z9, z10, z11, z12, z13, z14, z15, z16, z17, z18, z19, z20, z21, z22, z23, z24, z25, z26, z27, 0, hz28, hz29, hz30, hz31, hz32, hz33, rfl⟩
      · skip
        refine lv_iconst (v := 1) hx hb dX8_settled_122 (by decide) ?_
        refine lv_goto (tgt := 127) hx hb dX8_settled_123 (by decide) ?_
        refine k_iS (va_runV (As := [.int 1]) (rest := []) ⟨hx, hb, hml, hown, hts⟩ (m_X8_yieldMany l D cI cJ H.size g g2 g3 g4 g5 g6 g7 g8 g9 g10 g12 g13 g15 g16 g17 g19 g20 g21 g22 g23 g24 g25 g26 g27 g28 g33 g34 g35 g36 g37 g38 g39 g41 g42 g44 g45 mn ml z26 0 gi14 z25 z23 z24 (nI z27) gi40 gi43 1 z10 z13) (cwV 1 hts gX8_settled_X8_yieldMany rfl rfl rfl (by decide +kernel) ⟨Nat.le_of_ble_eq_true rfl, Nat.le_of_ble_eq_true rfl⟩) (k_preV hE hP hD [0, 13, 16] (by decide +kernel) rfl 0 rfl rfl) rfl rfl hl.1 rfl (lv_room (Nat.le_of_ble_eq_true rfl)) dX8_settled_127 ⟨Nat.le_of_ble_eq_true rfl, Nat.le_of_ble_eq_true rfl⟩) hP hD hS hA [0, 13, 16] rfl (fun _ _ h9 => h9) (fun r56 H locs hw57 hP hD hS => ?_)
        refine k_iret (u := [(oX8 g 0 (nI mn) g2 g3 g4 g5 g6 g7 g8 g9 g10 (nI ml) g12 g13 gi14 g15 g16 g17 z25 g19 g20 g21 g22 g23 g24 g25 g26 g27 g28 z23 z24 (nI z26) (nI z27) g33 g34 g35 g36 g37 g38 g39 gi40 g41 g42 gi43 g44 g45), (aIc cI g2 8 G2), (aIc cI g3 8 G3), (aIc cI g4 8 G4), (aIc cI g5 8 G5), (aIc cI g6 8 G6), (aIc cI g7 8 G7), (aIc cI g8 8 G8), (aIc cI g10 64 G10), (aIc cI g12 10 G12), (aIc cI g13 10 G13), (aIc cI g19 8 z8), (aIc cI g20 8 z9), (aIc cI g21 8 z10), (aIc cI g22 8 z11), (aIc cI g23 8 z12), (aIc cI g24 8 z13), (aIc cI g25 8 z14), (aIc cI g26 8 z15), (aIc cI g27 8 z16), (aIc cI g28 8 z17), (aIc cI g33 8 z18), (aIc cI g34 8 z19), (aIc cI g35 8 z20), (aIc cI g36 8 z21), (aJc cJ g37 8 z22)]) hx hb hr hlk hP hD hS dX8_settled_130 ?_
        exact ⟨z8, z9, z10, z11, z12, z13, z14, z15, z16, z17, z18, z19, z20, z21, z22, z23, z24, z25, z26, z27, 0, hz28, hz29, hz30, hz31, hz32, hz33, rfl⟩
    refine lv_tableOut (tgt := 131) hx hb dX8_settled_25 (sw_out9 c35 c37 c39 c40 c41 c42 c45 c46 c52) (by decide) ?_
    refine lv_iconst (v := (-1)) hx hb dX8_settled_131 (by decide) ?_
    refine k_iret (u := [(oX8 g 0 (nI mn) g2 g3 g4 g5 g6 g7 g8 g9 g10 (nI ml) g12 g13 gi14 g15 g16 g17 z25 g19 g20 g21 g22 g23 g24 g25 g26 g27 g28 z23 z24 (nI z26) (nI z27) g33 g34 g35 g36 g37 g38 g39 gi40 g41 g42 gi43 g44 g45), (aIc cI g2 8 G2), (aIc cI g3 8 G3), (aIc cI g4 8 G4), (aIc cI g5 8 G5), (aIc cI g6 8 G6), (aIc cI g7 8 G7), (aIc cI g8 8 G8), (aIc cI g10 64 G10), (aIc cI g12 10 G12), (aIc cI g13 10 G13), (aIc cI g19 8 z8), (aIc cI g20 8 z9), (aIc cI g21 8 z10), (aIc cI g22 8 z11), (aIc cI g23 8 z12), (aIc cI g24 8 z13), (aIc cI g25 8 z14), (aIc cI g26 8 z15), (aIc cI g27 8 z16), (aIc cI g28 8 z17), (aIc cI g33 8 z18), (aIc cI g34 8 z19), (aIc cI g35 8 z20), (aIc cI g36 8 z21), (aJc cJ g37 8 z22)]) hx hb hr hlk hP hD hS dX8_settled_132 ?_
    exact ⟨z8, z9, z10, z11, z12, z13, z14, z15, z16, z17, z18, z19, z20, z21, z22, z23, z24, z25, z26, z27, 0, hz28, hz29, hz30, hz31, hz32, hz33, rfl⟩
  · skip
    have hc4 : ¬ (0 ≤ p0 ∧ p0 ≤ nI ml - 1) := bz_0 hb3 c4
    refine lv_iconst (v := (-1)) hx hb dX8_settled_13 (by decide) ?_
    refine k_iret (u := [(oX8 g 0 (nI mn) g2 g3 g4 g5 g6 g7 g8 g9 g10 (nI ml) g12 g13 gi14 g15 g16 g17 gi18 g19 g20 g21 g22 g23 g24 g25 g26 g27 g28 gi29 gi30 (nI mv) (nI tt) g33 g34 g35 g36 g37 g38 g39 gi40 g41 g42 gi43 g44 g45), (aIc cI g2 8 G2), (aIc cI g3 8 G3), (aIc cI g4 8 G4), (aIc cI g5 8 G5), (aIc cI g6 8 G6), (aIc cI g7 8 G7), (aIc cI g8 8 G8), (aIc cI g10 64 G10), (aIc cI g12 10 G12), (aIc cI g13 10 G13), (aIc cI g19 8 G19), (aIc cI g20 8 G20), (aIc cI g21 8 G21), (aIc cI g22 8 G22), (aIc cI g23 8 G23), (aIc cI g24 8 G24), (aIc cI g25 8 G25), (aIc cI g26 8 G26), (aIc cI g27 8 G27), (aIc cI g28 8 G28), (aIc cI g33 8 G33), (aIc cI g34 8 G34), (aIc cI g35 8 G35), (aIc cI g36 8 G36), (aJc cJ g37 8 G37)]) hx hb hr hlk hP hD hS dX8_settled_14 ?_
    exact ⟨G19, G20, G21, G22, G23, G24, G25, G26, G27, G28, G33, G34, G35, G36, G37, gi29, gi30, gi18, mv, tt, 0, hLE, hLO, hLW, hSH, htt, hmv, rfl⟩

