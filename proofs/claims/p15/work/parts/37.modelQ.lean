theorem sm_get (f : Nat → Nat) {k n : Nat} (h : k < n) : f k ≤ sm f n := by
  have h1 : sm f (k + 1) ≤ sm f n := sm_mono f h
  have h2 : sm f (k + 1) = sm f k + f k := rfl
  omega
def PD (f : Nat → Int32) (x : Int32) (tt : Nat) : Prop := ∃ (pd : Nat → Nat) (pa : Nat), x = nI pa ∧ nv f pd ∧ sm pd 8 = pa ∧ pa ≤ tt
def PX (f : Nat → Int32) (met : Int32) (pa : Nat) : Prop := ∃ pd : Nat → Nat, nv f pd ∧ sm pd 8 = pa ∧ ∀ k, k < 8 → bt met k = false → pd k = 0
theorem px_0 {f : Nat → Int32} (h : ∀ k, k < 8 → f k = 0) : PX f 0 0 := ⟨fun _ => 0, h, sm_zero 8, fun _ _ _ => rfl⟩
theorem px_up {f : Nat → Int32} {met v w : Int32} {pa p x : Nat} (hp : p < 8) (H : PX f met pa) (hb : bt met p = false) (ev : v = 1 <<< (nI p &&& 31)) (ew : w = met ||| v) : PX (upd f (Int32.toNatClampNeg (nI p)) (nI x)) w (pa + x) := by
  obtain ⟨pd, h1, h2, h3⟩ := H
  have hs := sm_upd pd (b := p) (x := x) (n := 8) hp
  have h0 := h3 p hp hb
  refine ⟨_, nv_up h1 hp x, by omega, fun k hk hbk => ?_⟩
  rw [bt_or hp hk ev ew] at hbk
  by_cases e : k = p
  · rw [e] at hbk; simp at hbk
  · rw [if_neg e]
    exact h3 k hk (by simpa [e] using hbk)
theorem lr_dec {x y : Int64} (h : ¬ x ≤ 0) (e : y = x / 9) : y.toInt.toNat < x.toInt.toNat := by
  have h0 : ¬ x < 0 := fun q => h (Int64.le_of_lt q)
  obtain ⟨k, hk, rfl⟩ := pk_lOf h0
  have hk0 : 0 < k := by
    rcases Nat.eq_zero_or_pos k with z | z
    · subst z; exact absurd (by decide) h
    · exact z
  have e2 : y = lN (k / 9) := by rw [e]; exact pk_lDiv (b := 9) hk (by decide) (by decide)
  have h9 : k / 9 < k := Nat.div_lt_self hk0 (by decide)
  rw [e2, pk_lT (by omega), pk_lT hk]
  omega
theorem dX8_claims_0 : decode cX8_claims 0 = .ok (.aload_n 0, 1) := by decide +kernel
theorem dX8_claims_1 : decode cX8_claims 1 = .ok (.iconst 0, 1) := by decide +kernel
theorem dX8_claims_2 : decode cX8_claims 2 = .ok (.putfield 116, 3) := by decide +kernel
theorem dX8_claims_5 : decode cX8_claims 5 = .ok (.aload_n 0, 1) := by decide +kernel
theorem dX8_claims_6 : decode cX8_claims 6 = .ok (.iload_n 1, 1) := by decide +kernel
theorem dX8_claims_7 : decode cX8_claims 7 = .ok (.invokevirtual 252, 3) := by decide +kernel
theorem dX8_claims_10 : decode cX8_claims 10 = .ok (.ifCond .eq 9, 3) := by decide +kernel
theorem dX8_claims_13 : decode cX8_claims 13 = .ok (.lload_n 2, 1) := by decide +kernel
theorem dX8_claims_14 : decode cX8_claims 14 = .ok (.lconst 0, 1) := by decide +kernel
theorem dX8_claims_15 : decode cX8_claims 15 = .ok (.lcmp, 1) := by decide +kernel
theorem dX8_claims_16 : decode cX8_claims 16 = .ok (.ifCond .ge 5, 3) := by decide +kernel
theorem dX8_claims_19 : decode cX8_claims 19 = .ok (.iconst 0, 1) := by decide +kernel
theorem dX8_claims_20 : decode cX8_claims 20 = .ok (.ireturn, 1) := by decide +kernel
theorem dX8_claims_21 : decode cX8_claims 21 = .ok (.aload_n 0, 1) := by decide +kernel
theorem dX8_claims_22 : decode cX8_claims 22 = .ok (.iload_n 1, 1) := by decide +kernel
theorem dX8_claims_23 : decode cX8_claims 23 = .ok (.aload_n 0, 1) := by decide +kernel
theorem dX8_claims_24 : decode cX8_claims 24 = .ok (.invokevirtual 220, 3) := by decide +kernel
theorem dX8_claims_27 : decode cX8_claims 27 = .ok (.invokevirtual 224, 3) := by decide +kernel
theorem dX8_claims_30 : decode cX8_claims 30 = .ok (.iconst 0, 1) := by decide +kernel
theorem dX8_claims_31 : decode cX8_claims 31 = .ok (.istore 4, 2) := by decide +kernel
theorem dX8_claims_33 : decode cX8_claims 33 = .ok (.iload 4, 2) := by decide +kernel
theorem dX8_claims_35 : decode cX8_claims 35 = .ok (.bipush 8, 2) := by decide +kernel
theorem dX8_claims_37 : decode cX8_claims 37 = .ok (.if_icmp .ge 17, 3) := by decide +kernel
theorem dX8_claims_40 : decode cX8_claims 40 = .ok (.aload_n 0, 1) := by decide +kernel
theorem dX8_claims_41 : decode cX8_claims 41 = .ok (.getfield 101, 3) := by decide +kernel
theorem dX8_claims_44 : decode cX8_claims 44 = .ok (.iload 4, 2) := by decide +kernel
theorem dX8_claims_46 : decode cX8_claims 46 = .ok (.iconst 0, 1) := by decide +kernel
theorem dX8_claims_47 : decode cX8_claims 47 = .ok (.iastore, 1) := by decide +kernel
theorem dX8_claims_48 : decode cX8_claims 48 = .ok (.iinc 4 1, 3) := by decide +kernel
theorem dX8_claims_51 : decode cX8_claims 51 = .ok (.goto (-18), 3) := by decide +kernel
theorem dX8_claims_54 : decode cX8_claims 54 = .ok (.aload_n 0, 1) := by decide +kernel
theorem dX8_claims_55 : decode cX8_claims 55 = .ok (.iconst 0, 1) := by decide +kernel
theorem dX8_claims_56 : decode cX8_claims 56 = .ok (.putfield 282, 3) := by decide +kernel
theorem dX8_claims_59 : decode cX8_claims 59 = .ok (.iconst 0, 1) := by decide +kernel
theorem dX8_claims_60 : decode cX8_claims 60 = .ok (.istore 4, 2) := by decide +kernel
theorem dX8_claims_62 : decode cX8_claims 62 = .ok (.lload_n 2, 1) := by decide +kernel
theorem dX8_claims_63 : decode cX8_claims 63 = .ok (.lstore 5, 2) := by decide +kernel
theorem dX8_claims_65 : decode cX8_claims 65 = .ok (.lload 5, 2) := by decide +kernel
theorem dX8_claims_67 : decode cX8_claims 67 = .ok (.lconst 0, 1) := by decide +kernel
theorem dX8_claims_68 : decode cX8_claims 68 = .ok (.lcmp, 1) := by decide +kernel
theorem dX8_claims_69 : decode cX8_claims 69 = .ok (.ifCond .le 117, 3) := by decide +kernel
theorem dX8_claims_72 : decode cX8_claims 72 = .ok (.lload 5, 2) := by decide +kernel
theorem dX8_claims_74 : decode cX8_claims 74 = .ok (.ldc2_w 285, 3) := by decide +kernel
theorem dX8_claims_77 : decode cX8_claims 77 = .ok (.lrem, 1) := by decide +kernel
theorem dX8_claims_78 : decode cX8_claims 78 = .ok (.l2i, 1) := by decide +kernel
theorem dX8_claims_79 : decode cX8_claims 79 = .ok (.iconst 1, 1) := by decide +kernel
theorem dX8_claims_80 : decode cX8_claims 80 = .ok (.isub, 1) := by decide +kernel
theorem dX8_claims_81 : decode cX8_claims 81 = .ok (.istore 7, 2) := by decide +kernel
theorem dX8_claims_83 : decode cX8_claims 83 = .ok (.aload_n 0, 1) := by decide +kernel
theorem dX8_claims_84 : decode cX8_claims 84 = .ok (.iload 7, 2) := by decide +kernel
theorem dX8_claims_86 : decode cX8_claims 86 = .ok (.invokevirtual 140, 3) := by decide +kernel
theorem dX8_claims_89 : decode cX8_claims 89 = .ok (.ifCond .eq 13, 3) := by decide +kernel
theorem dX8_claims_92 : decode cX8_claims 92 = .ok (.iload 4, 2) := by decide +kernel
theorem dX8_claims_94 : decode cX8_claims 94 = .ok (.iload 7, 2) := by decide +kernel
theorem dX8_claims_96 : decode cX8_claims 96 = .ok (.invokestatic 154, 3) := by decide +kernel
theorem dX8_claims_99 : decode cX8_claims 99 = .ok (.ifCond .eq 5, 3) := by decide +kernel
theorem dX8_claims_102 : decode cX8_claims 102 = .ok (.iconst 0, 1) := by decide +kernel
theorem dX8_claims_103 : decode cX8_claims 103 = .ok (.ireturn, 1) := by decide +kernel
theorem dX8_claims_104 : decode cX8_claims 104 = .ok (.iload 4, 2) := by decide +kernel
theorem dX8_claims_106 : decode cX8_claims 106 = .ok (.iconst 1, 1) := by decide +kernel
theorem dX8_claims_107 : decode cX8_claims 107 = .ok (.iload 7, 2) := by decide +kernel
theorem dX8_claims_109 : decode cX8_claims 109 = .ok (.ishl, 1) := by decide +kernel
theorem dX8_claims_110 : decode cX8_claims 110 = .ok (.ior, 1) := by decide +kernel
theorem dX8_claims_111 : decode cX8_claims 111 = .ok (.istore 4, 2) := by decide +kernel
theorem dX8_claims_113 : decode cX8_claims 113 = .ok (.aload_n 0, 1) := by decide +kernel
theorem dX8_claims_114 : decode cX8_claims 114 = .ok (.getfield 101, 3) := by decide +kernel
theorem dX8_claims_117 : decode cX8_claims 117 = .ok (.iload 7, 2) := by decide +kernel
theorem dX8_claims_119 : decode cX8_claims 119 = .ok (.aload_n 0, 1) := by decide +kernel
theorem dX8_claims_120 : decode cX8_claims 120 = .ok (.getfield 25, 3) := by decide +kernel
theorem dX8_claims_123 : decode cX8_claims 123 = .ok (.iload 7, 2) := by decide +kernel
theorem dX8_claims_125 : decode cX8_claims 125 = .ok (.iaload, 1) := by decide +kernel
theorem dX8_claims_126 : decode cX8_claims 126 = .ok (.ifCond .ne 13, 3) := by decide +kernel
theorem dX8_claims_129 : decode cX8_claims 129 = .ok (.aload_n 0, 1) := by decide +kernel
theorem dX8_claims_130 : decode cX8_claims 130 = .ok (.getfield 55, 3) := by decide +kernel
theorem dX8_claims_133 : decode cX8_claims 133 = .ok (.iload 7, 2) := by decide +kernel
theorem dX8_claims_135 : decode cX8_claims 135 = .ok (.iaload, 1) := by decide +kernel
theorem dX8_claims_136 : decode cX8_claims 136 = .ok (.goto 10, 3) := by decide +kernel
theorem dX8_claims_139 : decode cX8_claims 139 = .ok (.aload_n 0, 1) := by decide +kernel
theorem dX8_claims_140 : decode cX8_claims 140 = .ok (.getfield 76, 3) := by decide +kernel
theorem dX8_claims_143 : decode cX8_claims 143 = .ok (.iload 7, 2) := by decide +kernel
theorem dX8_claims_145 : decode cX8_claims 145 = .ok (.iaload, 1) := by decide +kernel
theorem dX8_claims_146 : decode cX8_claims 146 = .ok (.aload_n 0, 1) := by decide +kernel
theorem dX8_claims_147 : decode cX8_claims 147 = .ok (.getfield 198, 3) := by decide +kernel
theorem dX8_claims_150 : decode cX8_claims 150 = .ok (.aload_n 0, 1) := by decide +kernel
theorem dX8_claims_151 : decode cX8_claims 151 = .ok (.getfield 282, 3) := by decide +kernel
theorem dX8_claims_154 : decode cX8_claims 154 = .ok (.isub, 1) := by decide +kernel
theorem dX8_claims_155 : decode cX8_claims 155 = .ok (.invokestatic 158, 3) := by decide +kernel
theorem dX8_claims_158 : decode cX8_claims 158 = .ok (.iastore, 1) := by decide +kernel
theorem dX8_claims_159 : decode cX8_claims 159 = .ok (.aload_n 0, 1) := by decide +kernel
theorem dX8_claims_160 : decode cX8_claims 160 = .ok (.dup, 1) := by decide +kernel
theorem dX8_claims_161 : decode cX8_claims 161 = .ok (.getfield 282, 3) := by decide +kernel
theorem dX8_claims_164 : decode cX8_claims 164 = .ok (.aload_n 0, 1) := by decide +kernel
theorem dX8_claims_165 : decode cX8_claims 165 = .ok (.getfield 101, 3) := by decide +kernel
theorem dX8_claims_168 : decode cX8_claims 168 = .ok (.iload 7, 2) := by decide +kernel
theorem dX8_claims_170 : decode cX8_claims 170 = .ok (.iaload, 1) := by decide +kernel
theorem dX8_claims_171 : decode cX8_claims 171 = .ok (.iadd, 1) := by decide +kernel
theorem dX8_claims_172 : decode cX8_claims 172 = .ok (.putfield 282, 3) := by decide +kernel
theorem dX8_claims_175 : decode cX8_claims 175 = .ok (.lload 5, 2) := by decide +kernel
theorem dX8_claims_177 : decode cX8_claims 177 = .ok (.ldc2_w 285, 3) := by decide +kernel
theorem dX8_claims_180 : decode cX8_claims 180 = .ok (.ldiv, 1) := by decide +kernel
theorem dX8_claims_181 : decode cX8_claims 181 = .ok (.lstore 5, 2) := by decide +kernel
theorem dX8_claims_183 : decode cX8_claims 183 = .ok (.goto (-118), 3) := by decide +kernel
theorem dX8_claims_186 : decode cX8_claims 186 = .ok (.iconst 1, 1) := by decide +kernel
theorem dX8_claims_187 : decode cX8_claims 187 = .ok (.ireturn, 1) := by decide +kernel
theorem gX8_claims_X8_all : GoodIn wtX8_claims (wsV RX8 220 RX8 yX8_all wtX8_all) := tb_good (tb_v0 wd_413 wd_414 wd_415 wd_5 wd_416)
theorem gX8_claims_X8_isLoss : GoodIn wtX8_claims (wsV RX8 252 RX8 yX8_isLoss wtX8_isLoss) := tb_good (tb_v0 wd_554 wd_555 wd_556 wd_5 wd_557)
theorem gX8_claims_X8_isOn : GoodIn wtX8_claims (va_wsS RX8 154 yX8_isOn wtX8_isOn) := tb_good (tb_s0 wd_423 wd_424 wd_5 wd_425)
theorem gX8_claims_X8_isPolicy : GoodIn wtX8_claims (wsV RX8 140 RX8 yX8_isPolicy wtX8_isPolicy) := tb_good (tb_v0 wd_198 wd_199 wd_200 wd_5 wd_201)
theorem gX8_claims_X8_least : GoodIn wtX8_claims (va_wsS RX8 158 yX8_least wtX8_least) := tb_good (tb_s0 wd_430 wd_431 wd_5 wd_432)
theorem gX8_claims_X8_settlesTo : GoodIn wtX8_claims (wsV RX8 224 RX8 yX8_settlesTo wtX8_settlesTo) := tb_good (tb_v0 wd_482 wd_483 wd_484 wd_5 wd_485)
set_option maxHeartbeats 4000000 in
set_option maxRecDepth 100000 in
theorem m_X8_claims (l : Launch) (D : va_G) (cI cJ : ClassId) (sz : Nat) (g g2 g3 g4 g5 g6 g7 g8 g9 g10 g12 g13 g15 g16 g17 g19 g20 g21 g22 g23 g24 g25 g26 g27 g28 g33 g34 g35 g36 g37 g38 g39 g41 g42 g44 g45 mn ml mv tt : Nat) (gi0 gi14 gi18 gi29 gi30 gi40 gi43 p0 : Int32) (p1 : Int64) (G2 G3 G4 G5 G6 G7 G8 G10 G12 G13 G19 G20 G21 G22 G23 G24 G25 G26 G27 G28 G33 G34 G35 G36 : Nat → Int32) (G37 : Nat → Int64) (G39 : Nat → Int32) (li0 wo0 de0 ag0 : Nat → Nat) (hmn : mn ≤ 8) (hmL : ml ≤ 10) (hit : ∀ k, k < 10 → ∃ j : Nat, j < 8 ∧ G12 k = nI j) (hsu : ∀ k, k < 64 → ∃ j : Nat, j ≤ 1000001 ∧ G10 k = nI j) (hliv : nv G2 li0) (hlib : ∀ k, k < 8 → li0 k ≤ 1000000) (hwov : nv G5 wo0) (hwob : ∀ k, k < 8 → wo0 k ≤ 9000000) (hdev : nv G4 de0) (hdeb : ∀ k, k < 8 → de0 k ≤ 99999) (hagv : nv G3 ag0) (hagb : ∀ k, k < 8 → ag0 k ≤ 9000000) (hamt : ∀ k, k < 10 → ∃ j : Nat, j < 1000001 ∧ G13 k = nI j) (hLE : LE G19) (hLO : LO G20) (hLW : LW G25) (hSH : SH G27 tt) (htt : tt ≤ 1000000) (hmv : mv ≤ 8) : Met l yX8_claims wtX8_claims { frames := 8, cells := 0, slots := 0, locals := 189 } (cPc D cI cJ [.ref g, .int p0, .long p1] sz [(oX8 g gi0 (nI mn) g2 g3 g4 g5 g6 g7 g8 g9 g10 (nI ml) g12 g13 gi14 g15 g16 g17 gi18 g19 g20 g21 g22 g23 g24 g25 g26 g27 g28 gi29 gi30 (nI mv) (nI tt) g33 g34 g35 g36 g37 g38 g39 gi40 g41 g42 gi43 g44 g45), (aIc cI g2 8 G2), (aIc cI g3 8 G3), (aIc cI g4 8 G4), (aIc cI g5 8 G5), (aIc cI g6 8 G6), (aIc cI g7 8 G7), (aIc cI g8 8 G8), (aIc cI g10 64 G10), (aIc cI g12 10 G12), (aIc cI g13 10 G13), (aIc cI g19 8 G19), (aIc cI g20 8 G20), (aIc cI g21 8 G21), (aIc cI g22 8 G22), (aIc cI g23 8 G23), (aIc cI g24 8 G24), (aIc cI g25 8 G25), (aIc cI g26 8 G26), (aIc cI g27 8 G27), (aIc cI g28 8 G28), (aIc cI g33 8 G33), (aIc cI g34 8 G34), (aIc cI g35 8 G35), (aIc cI g36 8 G36), (aJc cJ g37 8 G37), (aIc cI g39 8 G39)]) (cQi D (fun r u => ∃ (G19p G20p G21p G22p G23p G24p G25p G26p G27p G28p G33p G34p G35p G36p : Nat → Int32) (G37p : Nat → Int64) (gi29p gi30p gi18p : Int32) (mvp ttp : Nat) (gi0p : Int32) (G39p : Nat → Int32) (gi40p : Int32), (LE G19p) ∧ (LO G20p) ∧ (LW G25p) ∧ (SH G27p ttp) ∧ (ttp ≤ 1000000) ∧ (mvp ≤ 8) ∧ (r = 0 ∨ (r = 1 ∧ PD G39p gi40p ttp)) ∧ u = [(oX8 g gi0p (nI mn) g2 g3 g4 g5 g6 g7 g8 g9 g10 (nI ml) g12 g13 gi14 g15 g16 g17 gi18p g19 g20 g21 g22 g23 g24 g25 g26 g27 g28 gi29p gi30p (nI mvp) (nI ttp) g33 g34 g35 g36 g37 g38 g39 gi40p g41 g42 gi43 g44 g45), (aIc cI g2 8 G2), (aIc cI g3 8 G3), (aIc cI g4 8 G4), (aIc cI g5 8 G5), (aIc cI g6 8 G6), (aIc cI g7 8 G7), (aIc cI g8 8 G8), (aIc cI g10 64 G10), (aIc cI g12 10 G12), (aIc cI g13 10 G13), (aIc cI g19 8 G19p), (aIc cI g20 8 G20p), (aIc cI g21 8 G21p), (aIc cI g22 8 G22p), (aIc cI g23 8 G23p), (aIc cI g24 8 G24p), (aIc cI g25 8 G25p), (aIc cI g26 8 G26p), (aIc cI g27 8 G27p), (aIc cI g28 8 G28p), (aIc cI g33 8 G33p), (aIc cI g34 8 G34p), (aIc cI g35 8 G35p), (aIc cI g36 8 G36p), (aJc cJ g37 8 G37p), (aIc cI g39 8 G39p)]) (va_A [(oX8 g gi0 (nI mn) g2 g3 g4 g5 g6 g7 g8 g9 g10 (nI ml) g12 g13 gi14 g15 g16 g17 gi18 g19 g20 g21 g22 g23 g24 g25 g26 g27 g28 gi29 gi30 (nI mv) (nI tt) g33 g34 g35 g36 g37 g38 g39 gi40 g41 g42 gi43 g44 g45), (aIc cI g2 8 G2), (aIc cI g3 8 G3), (aIc cI g4 8 G4), (aIc cI g5 8 G5), (aIc cI g6 8 G6), (aIc cI g7 8 G7), (aIc cI g8 8 G8), (aIc cI g10 64 G10), (aIc cI g12 10 G12), (aIc cI g13 10 G13), (aIc cI g19 8 G19), (aIc cI g20 8 G20), (aIc cI g21 8 G21), (aIc cI g22 8 G22), (aIc cI g23 8 G23), (aIc cI g24 8 G24), (aIc cI g25 8 G25), (aIc cI g26 8 G26), (aIc cI g27 8 G27), (aIc cI g28 8 G28), (aIc cI g33 8 G33), (aIc cI g34 8 G34), (aIc cI g35 8 G35), (aIc cI g36 8 G36), (aJc cJ g37 8 G37), (aIc cI g39 8 G39)] sz)) 0 0 (va_A [(oX8 g gi0 (nI mn) g2 g3 g4 g5 g6 g7 g8 g9 g10 (nI ml) g12 g13 gi14 g15 g16 g17 gi18 g19 g20 g21 g22 g23 g24 g25 g26 g27 g28 gi29 gi30 (nI mv) (nI tt) g33 g34 g35 g36 g37 g38 g39 gi40 g41 g42 gi43 g44 g45), (aIc cI g2 8 G2), (aIc cI g3 8 G3), (aIc cI g4 8 G4), (aIc cI g5 8 G5), (aIc cI g6 8 G6), (aIc cI g7 8 G7), (aIc cI g8 8 G8), (aIc cI g10 64 G10), (aIc cI g12 10 G12), (aIc cI g13 10 G13), (aIc cI g19 8 G19), (aIc cI g20 8 G20), (aIc cI g21 8 G21), (aIc cI g22 8 G22), (aIc cI g23 8 G23), (aIc cI g24 8 G24), (aIc cI g25 8 G25), (aIc cI g26 8 G26), (aIc cI g27 8 G27), (aIc cI g28 8 G28), (aIc cI g33 8 G33), (aIc cI g34 8 G34), (aIc cI g35 8 G35), (aIc cI g36 8 G36), (aJc cJ g37 8 G37), (aIc cI g39 8 G39)] sz) := by
  refine k_ofW (Qc := cQi D (fun r u => ∃ (G19p G20p G21p G22p G23p G24p G25p G26p G27p G28p G33p G34p G35p G36p : Nat → Int32) (G37p : Nat → Int64) (gi29p gi30p gi18p : Int32) (mvp ttp : Nat) (gi0p : Int32) (G39p : Nat → Int32) (gi40p : Int32), (LE G19p) ∧ (LO G20p) ∧ (LW G25p) ∧ (SH G27p ttp) ∧ (ttp ≤ 1000000) ∧ (mvp ≤ 8) ∧ (r = 0 ∨ (r = 1 ∧ PD G39p gi40p ttp)) ∧ u = [(oX8 g gi0p (nI mn) g2 g3 g4 g5 g6 g7 g8 g9 g10 (nI ml) g12 g13 gi14 g15 g16 g17 gi18p g19 g20 g21 g22 g23 g24 g25 g26 g27 g28 gi29p gi30p (nI mvp) (nI ttp) g33 g34 g35 g36 g37 g38 g39 gi40p g41 g42 gi43 g44 g45), (aIc cI g2 8 G2), (aIc cI g3 8 G3), (aIc cI g4 8 G4), (aIc cI g5 8 G5), (aIc cI g6 8 G6), (aIc cI g7 8 G7), (aIc cI g8 8 G8), (aIc cI g10 64 G10), (aIc cI g12 10 G12), (aIc cI g13 10 G13), (aIc cI g19 8 G19p), (aIc cI g20 8 G20p), (aIc cI g21 8 G21p), (aIc cI g22 8 G22p), (aIc cI g23 8 G23p), (aIc cI g24 8 G24p), (aIc cI g25 8 G25p), (aIc cI g26 8 G26p), (aIc cI g27 8 G27p), (aIc cI g28 8 G28p), (aIc cI g33 8 G33p), (aIc cI g34 8 G34p), (aIc cI g35 8 G35p), (aIc cI g36 8 G36p), (aJc cJ g37 8 G37p), (aIc cI g39 8 G39p)])) (by decide) rfl (Nat.le_of_ble_eq_true rfl) ?_
  intro p e s m below meth c A ls hx hb hr hml hts hown hlk hnm hsz hE hP hD hS hA hl
  have hown : s.vm.findClass RX8 = some m.cls := hown
  have hiX8 : ∀ w ∈ u_ws RX8 TX8 46, w ∈ wtX8_claims := fun w h => List.mem_cons_of_mem _ (iuX8 w h)
  have hl : lv_has ls 8 [(0, .ref g), (1, .int p0), (2, .long p1)] := hl
  refine lv_aload_n hx hb dX8_claims_0 rfl (lv_at hl 0 rfl) ?_
  refine lv_iconst (v := 0) hx hb dX8_claims_1 (by decide) ?_
  refine va_put (D := D) (ci := 8) (v := .int 0) (ty := .int) (C := RX8) (T := TX8) (N := 46) hx hb hts hiX8 tyX8 tyX8_ok nmX8 hown hE.1 hP hD hS 0 rfl rfl 0 (by decide) (hts _ (List.mem_cons_of_mem _ wd_171)) (fun _ h9 => h9) rfl (by decide +kernel) rfl rfl (Nat.le_of_ble_eq_true rfl) dX8_claims_2 (fun H locs hP hD hS => ?_)
  refine k_re (w := [(oX8 g 0 (nI mn) g2 g3 g4 g5 g6 g7 g8 g9 g10 (nI ml) g12 g13 gi14 g15 g16 g17 gi18 g19 g20 g21 g22 g23 g24 g25 g26 g27 g28 gi29 gi30 (nI mv) (nI tt) g33 g34 g35 g36 g37 g38 g39 gi40 g41 g42 gi43 g44 g45), (aIc cI g2 8 G2), (aIc cI g3 8 G3), (aIc cI g4 8 G4), (aIc cI g5 8 G5), (aIc cI g6 8 G6), (aIc cI g7 8 G7), (aIc cI g8 8 G8), (aIc cI g10 64 G10), (aIc cI g12 10 G12), (aIc cI g13 10 G13), (aIc cI g19 8 G19), (aIc cI g20 8 G20), (aIc cI g21 8 G21), (aIc cI g22 8 G22), (aIc cI g23 8 G23), (aIc cI g24 8 G24), (aIc cI g25 8 G25), (aIc cI g26 8 G26), (aIc cI g27 8 G27), (aIc cI g28 8 G28), (aIc cI g33 8 G33), (aIc cI g34 8 G34), (aIc cI g35 8 G35), (aIc cI g36 8 G36), (aJc cJ g37 8 G37), (aIc cI g39 8 G39)]) hP hD (fun hP hD => ?_)
  refine lv_aload_n hx hb dX8_claims_5 rfl (lv_at hl 0 rfl) ?_
  refine lv_iload_n hx hb dX8_claims_6 rfl (lv_at hl 1 rfl) ?_
  refine k_iS (va_runV (As := [.int p0]) (rest := []) ⟨hx, hb, hml, hown, hts⟩ (m_X8_isLoss l D cI cJ H.size g g2 g3 g4 g5 g6 g7 g8 g9 g10 g12 g13 g15 g16 g17 g19 g20 g21 g22 g23 g24 g25 g26 g27 g28 g33 g34 g35 g36 g37 g38 g39 g41 g42 g44 g45 mn ml mv 0 gi14 gi18 gi29 gi30 (nI tt) gi40 gi43 p0) (cwV 1 hts gX8_claims_X8_isLoss rfl rfl rfl (by decide +kernel) ⟨Nat.le_of_ble_eq_true rfl, Nat.le_of_ble_eq_true rfl⟩) (k_preV hE hP hD [0] (by decide +kernel) rfl 0 rfl rfl) rfl rfl hl.1 rfl (lv_room (Nat.le_of_ble_eq_true rfl)) dX8_claims_7 ⟨Nat.le_of_ble_eq_true rfl, Nat.le_of_ble_eq_true rfl⟩) hP hD hS hA [0] rfl (fun _ _ ⟨_, h9⟩ => h9) (fun r1 H locs hw2 hP hD hS => ?_)
  obtain ⟨hb3, -⟩ := hw2
  refine lv_if_eq (tgt := 19) hx hb dX8_claims_10 (by decide) (fun c4 => ?_) (fun c4 => ?_)
  · skip
    have hc4 : ¬ (0 ≤ p0 ∧ p0 ≤ nI ml - 1) := bz_0 hb3 c4
    refine lv_iconst (v := 0) hx hb dX8_claims_19 (by decide) ?_
    refine k_zret (u := [(oX8 g 0 (nI mn) g2 g3 g4 g5 g6 g7 g8 g9 g10 (nI ml) g12 g13 gi14 g15 g16 g17 gi18 g19 g20 g21 g22 g23 g24 g25 g26 g27 g28 gi29 gi30 (nI mv) (nI tt) g33 g34 g35 g36 g37 g38 g39 gi40 g41 g42 gi43 g44 g45), (aIc cI g2 8 G2), (aIc cI g3 8 G3), (aIc cI g4 8 G4), (aIc cI g5 8 G5), (aIc cI g6 8 G6), (aIc cI g7 8 G7), (aIc cI g8 8 G8), (aIc cI g10 64 G10), (aIc cI g12 10 G12), (aIc cI g13 10 G13), (aIc cI g19 8 G19), (aIc cI g20 8 G20), (aIc cI g21 8 G21), (aIc cI g22 8 G22), (aIc cI g23 8 G23), (aIc cI g24 8 G24), (aIc cI g25 8 G25), (aIc cI g26 8 G26), (aIc cI g27 8 G27), (aIc cI g28 8 G28), (aIc cI g33 8 G33), (aIc cI g34 8 G34), (aIc cI g35 8 G35), (aIc cI g36 8 G36), (aJc cJ g37 8 G37), (aIc cI g39 8 G39)]) hx hb hr (by decide) hlk hP hD hS dX8_claims_20 ?_
    exact ⟨G19, G20, G21, G22, G23, G24, G25, G26, G27, G28, G33, G34, G35, G36, G37, gi29, gi30, gi18, mv, tt, 0, G39, gi40, hLE, hLO, hLW, hSH, htt, hmv, (Or.inl rfl), rfl⟩
  · skip
    have hc4 : 0 ≤ p0 ∧ p0 ≤ nI ml - 1 := bz_1 hb3 c4
    refine lv_lload_n hx hb dX8_claims_13 rfl (lv_at hl 2 rfl) ?_
    refine lv_lconst (v := 0) hx hb dX8_claims_14 (by decide) ?_
    refine k_lcmp_ge (tgt := 21) hx hb dX8_claims_15 dX8_claims_16 (by decide) (fun c5 => ?_) (fun c5 => ?_)
    · skip
      obtain ⟨lj, hlj, elj⟩ := wi_n (by omega) hc4
      rw [elj] at hl
      refine lv_aload_n hx hb dX8_claims_21 rfl (lv_at hl 0 rfl) ?_
      refine lv_iload_n hx hb dX8_claims_22 rfl (lv_at hl 1 rfl) ?_
      refine lv_aload_n hx hb dX8_claims_23 rfl (lv_at hl 0 rfl) ?_
      refine k_iS (va_runV (As := []) (rest := [.int (nI lj), .ref g]) ⟨hx, hb, hml, hown, hts⟩ (m_X8_all l D cI cJ H.size g g2 g3 g4 g5 g6 g7 g8 g9 g10 g12 g13 g15 g16 g17 g19 g20 g21 g22 g23 g24 g25 g26 g27 g28 g33 g34 g35 g36 g37 g38 g39 g41 g42 g44 g45 mn ml mv 0 gi14 gi18 gi29 gi30 (nI tt) gi40 gi43 hmn) (cwV 0 hts gX8_claims_X8_all rfl rfl rfl (by decide +kernel) ⟨Nat.le_of_ble_eq_true rfl, Nat.le_of_ble_eq_true rfl⟩) (k_preV hE hP hD [0] (by decide +kernel) rfl 0 rfl rfl) rfl rfl hl.1 rfl (lv_room (Nat.le_of_ble_eq_true rfl)) dX8_claims_24 ⟨Nat.le_of_ble_eq_true rfl, Nat.le_of_ble_eq_true rfl⟩) hP hD hS hA [0] rfl (fun _ _ ⟨_, h9⟩ => h9) (fun r6 H locs hw7 hP hD hS => ?_)
      obtain ⟨rfl, -⟩ := hw7
      refine k_v (va_runV (As := [.int (nI lj), .int (nI (2 ^ mn - 1))]) (rest := []) ⟨hx, hb, hml, hown, hts⟩ (m_X8_settlesTo l D cI cJ H.size g g2 g3 g4 g5 g6 g7 g8 g9 g10 g12 g13 g15 g16 g17 g19 g20 g21 g22 g23 g24 g25 g26 g27 g28 g33 g34 g35 g36 g37 g38 g39 g41 g42 g44 g45 mn ml mv tt (lj + 1) 0 gi14 gi18 gi29 gi30 gi40 gi43 (nI lj) (nI (2 ^ mn - 1)) G2 G3 G4 G5 G6 G7 G8 G10 G12 G13 G19 G20 G21 G22 G23 G24 G25 G26 G27 G28 G33 G34 G35 G36 G37 li0 wo0 de0 ag0 (nI_pred lj).symm (by omega) hit hsu hliv hlib hwov hwob hdev hdeb hagv hagb hamt hLE hLO hLW hSH htt hmv) (cwV 2 hts gX8_claims_X8_settlesTo rfl rfl rfl (by decide +kernel) ⟨Nat.le_of_ble_eq_true rfl, Nat.le_of_ble_eq_true rfl⟩) (k_preV hE hP hD [0, 1, 2, 3, 4, 5, 6, 7, 8, 9, 10, 11, 12, 13, 14, 15, 16, 17, 18, 19, 20, 21, 22, 23, 24, 25] (by decide +kernel) rfl 0 rfl rfl) rfl rfl hl.1 rfl (lv_room (Nat.le_of_ble_eq_true rfl)) dX8_claims_27 ⟨Nat.le_of_ble_eq_true rfl, Nat.le_of_ble_eq_true rfl⟩) hP hD hS hA [0, 1, 2, 3, 4, 5, 6, 7, 8, 9, 10, 11, 12, 13, 14, 15, 16, 17, 18, 19, 20, 21, 22, 23, 24, 25] [26] rfl (wr := [(aIc cI g39 8 G39)]) rfl (by decide +kernel) (by decide +kernel) (fun u H locs hw8 hP hD hS => ?_)
      obtain ⟨z9, z10, z11, z12, z13, z14, z15, z16, z17, z18, z19, z20, z21, z22, z23, z24, z25, z26, z27, z28, hz29, hz30, hz31, hz32, hz33, hz34, hz35, rfl⟩ := hw8
      refine k_re (w := [(aIc cI g39 8 G39), (oX8 g 0 (nI mn) g2 g3 g4 g5 g6 g7 g8 g9 g10 (nI ml) g12 g13 gi14 g15 g16 g17 z26 g19 g20 g21 g22 g23 g24 g25 g26 g27 g28 z24 z25 (nI z27) (nI z28) g33 g34 g35 g36 g37 g38 g39 gi40 g41 g42 gi43 g44 g45), (aIc cI g2 8 G2), (aIc cI g3 8 G3), (aIc cI g4 8 G4), (aIc cI g5 8 G5), (aIc cI g6 8 G6), (aIc cI g7 8 G7), (aIc cI g8 8 G8), (aIc cI g10 64 G10), (aIc cI g12 10 G12), (aIc cI g13 10 G13), (aIc cI g19 8 z9), (aIc cI g20 8 z10), (aIc cI g21 8 z11), (aIc cI g22 8 z12), (aIc cI g23 8 z13), (aIc cI g24 8 z14), (aIc cI g25 8 z15), (aIc cI g26 8 z16), (aIc cI g27 8 z17), (aIc cI g28 8 z18), (aIc cI g33 8 z19), (aIc cI g34 8 z20), (aIc cI g35 8 z21), (aIc cI g36 8 z22), (aJc cJ g37 8 z23)]) hP hD (fun hP hD => ?_)
      refine lv_iconst (v := 0) hx hb dX8_claims_30 (by decide) ?_
      refine lv_istore (lv' := [(4, .int 0), (0, .ref g), (1, .int (nI lj)), (2, .long p1)]) hx hb dX8_claims_31 hl (by decide) rfl (fun ls hl => ?_)
      have J33 : ∀ (zz : Nat) (i33 : Nat) (a_g39_33 : Nat → Int32), (i33 ≤ 8) → (∀ k, k < i33 → a_g39_33 k = 0) → (8 - i33) < zz → ∀ (H : Heap) (locs : List Loc) (ls : Array Slot), va_P D vwCl [(aIc cI g39 8 a_g39_33), (oX8 g 0 (nI mn) g2 g3 g4 g5 g6 g7 g8 g9 g10 (nI ml) g12 g13 gi14 g15 g16 g17 z26 g19 g20 g21 g22 g23 g24 g25 g26 g27 g28 z24 z25 (nI z27) (nI z28) g33 g34 g35 g36 g37 g38 g39 gi40 g41 g42 gi43 g44 g45), (aIc cI g2 8 G2), (aIc cI g3 8 G3), (aIc cI g4 8 G4), (aIc cI g5 8 G5), (aIc cI g6 8 G6), (aIc cI g7 8 G7), (aIc cI g8 8 G8), (aIc cI g10 64 G10), (aIc cI g12 10 G12), (aIc cI g13 10 G13), (aIc cI g19 8 z9), (aIc cI g20 8 z10), (aIc cI g21 8 z11), (aIc cI g22 8 z12), (aIc cI g23 8 z13), (aIc cI g24 8 z14), (aIc cI g25 8 z15), (aIc cI g26 8 z16), (aIc cI g27 8 z17), (aIc cI g28 8 z18), (aIc cI g33 8 z19), (aIc cI g34 8 z20), (aIc cI g35 8 z21), (aIc cI g36 8 z22), (aJc cJ g37 8 z23)] H → va_D A [(aIc cI g39 8 a_g39_33), (oX8 g 0 (nI mn) g2 g3 g4 g5 g6 g7 g8 g9 g10 (nI ml) g12 g13 gi14 g15 g16 g17 z26 g19 g20 g21 g22 g23 g24 g25 g26 g27 g28 z24 z25 (nI z27) (nI z28) g33 g34 g35 g36 g37 g38 g39 gi40 g41 g42 gi43 g44 g45), (aIc cI g2 8 G2), (aIc cI g3 8 G3), (aIc cI g4 8 G4), (aIc cI g5 8 G5), (aIc cI g6 8 G6), (aIc cI g7 8 G7), (aIc cI g8 8 G8), (aIc cI g10 64 G10), (aIc cI g12 10 G12), (aIc cI g13 10 G13), (aIc cI g19 8 z9), (aIc cI g20 8 z10), (aIc cI g21 8 z11), (aIc cI g22 8 z12), (aIc cI g23 8 z13), (aIc cI g24 8 z14), (aIc cI g25 8 z15), (aIc cI g26 8 z16), (aIc cI g27 8 z17), (aIc cI g28 8 z18), (aIc cI g33 8 z19), (aIc cI g34 8 z20), (aIc cI g35 8 z21), (aIc cI g36 8 z22), (aJc cJ g37 8 z23)] → va_S A s.heap H locs → lv_has ls 8 [(4, .int (nI i33)), (0, .ref g), (1, .int (nI lj)), (2, .long p1)] → W p l e { frames := 8, cells := 0, slots := 0, locals := 189 } s m [.ref g, .int p0, .long p1].toArray below meth c H locs 0 0 (MQ below (cQi D (fun r u => ∃ (G19p G20p G21p G22p G23p G24p G25p G26p G27p G28p G33p G34p G35p G36p : Nat → Int32) (G37p : Nat → Int64) (gi29p gi30p gi18p : Int32) (mvp ttp : Nat) (gi0p : Int32) (G39p : Nat → Int32) (gi40p : Int32), (LE G19p) ∧ (LO G20p) ∧ (LW G25p) ∧ (SH G27p ttp) ∧ (ttp ≤ 1000000) ∧ (mvp ≤ 8) ∧ (r = 0 ∨ (r = 1 ∧ PD G39p gi40p ttp)) ∧ u = [(oX8 g gi0p (nI mn) g2 g3 g4 g5 g6 g7 g8 g9 g10 (nI ml) g12 g13 gi14 g15 g16 g17 gi18p g19 g20 g21 g22 g23 g24 g25 g26 g27 g28 gi29p gi30p (nI mvp) (nI ttp) g33 g34 g35 g36 g37 g38 g39 gi40p g41 g42 gi43 g44 g45), (aIc cI g2 8 G2), (aIc cI g3 8 G3), (aIc cI g4 8 G4), (aIc cI g5 8 G5), (aIc cI g6 8 G6), (aIc cI g7 8 G7), (aIc cI g8 8 G8), (aIc cI g10 64 G10), (aIc cI g12 10 G12), (aIc cI g13 10 G13), (aIc cI g19 8 G19p), (aIc cI g20 8 G20p), (aIc cI g21 8 G21p), (aIc cI g22 8 G22p), (aIc cI g23 8 G23p), (aIc cI g24 8 G24p), (aIc cI g25 8 G25p), (aIc cI g26 8 G26p), (aIc cI g27 8 G27p), (aIc cI g28 8 G28p), (aIc cI g33 8 G33p), (aIc cI g34 8 G34p), (aIc cI g35 8 G35p), (aIc cI g36 8 G36p), (aJc cJ g37 8 G37p), (aIc cI g39 8 G39p)]) A) [.ref g, .int p0, .long p1].toArray s 0 0 A) (F0 m 33 ls []) := by
        intro zz
        induction zz with
        | zero => intro i33 a_g39_33 _ _; exact fun h => absurd h (Nat.not_lt_zero _)
        | succ zz ih33 =>
          intro i33 a_g39_33 hc4_33 hz_33 hmu33 H locs ls hP hD hS hl
          refine lv_iload hx hb dX8_claims_33 (lv_at hl 0 rfl) ?_
          refine lv_bipush (v := 8) hx hb dX8_claims_35 (by decide) ?_
          refine lv_icmp_ge (tgt := 54) hx hb dX8_claims_37 (by decide) (fun c36 => ?_) (fun c36 => ?_)
          · skip
            have nc36 : 8 ≤ i33 := (nI_leI (a := 8) (b := i33) (by omega) (by omega)).mp c36
            refine lv_aload_n hx hb dX8_claims_54 rfl (lv_at hl 1 rfl) ?_
            refine lv_iconst (v := 0) hx hb dX8_claims_55 (by decide) ?_
            refine va_put (D := D) (ci := 8) (v := .int 0) (ty := .int) (C := RX8) (T := TX8) (N := 46) hx hb hts hiX8 tyX8 tyX8_ok nmX8 hown hE.1 hP hD hS 1 rfl rfl 40 (by decide) (hts _ (List.mem_cons_of_mem _ wd_751)) (fun _ h9 => h9) rfl (by decide +kernel) rfl rfl (Nat.le_of_ble_eq_true rfl) dX8_claims_56 (fun H locs hP hD hS => ?_)
            refine k_re (w := [(aIc cI g39 8 a_g39_33), (oX8 g 0 (nI mn) g2 g3 g4 g5 g6 g7 g8 g9 g10 (nI ml) g12 g13 gi14 g15 g16 g17 z26 g19 g20 g21 g22 g23 g24 g25 g26 g27 g28 z24 z25 (nI z27) (nI z28) g33 g34 g35 g36 g37 g38 g39 0 g41 g42 gi43 g44 g45), (aIc cI g2 8 G2), (aIc cI g3 8 G3), (aIc cI g4 8 G4), (aIc cI g5 8 G5), (aIc cI g6 8 G6), (aIc cI g7 8 G7), (aIc cI g8 8 G8), (aIc cI g10 64 G10), (aIc cI g12 10 G12), (aIc cI g13 10 G13), (aIc cI g19 8 z9), (aIc cI g20 8 z10), (aIc cI g21 8 z11), (aIc cI g22 8 z12), (aIc cI g23 8 z13), (aIc cI g24 8 z14), (aIc cI g25 8 z15), (aIc cI g26 8 z16), (aIc cI g27 8 z17), (aIc cI g28 8 z18), (aIc cI g33 8 z19), (aIc cI g34 8 z20), (aIc cI g35 8 z21), (aIc cI g36 8 z22), (aJc cJ g37 8 z23)]) hP hD (fun hP hD => ?_)
            refine lv_iconst (v := 0) hx hb dX8_claims_59 (by decide) ?_
            refine lv_istore (lv' := [(4, .int 0), (0, .ref g), (1, .int (nI lj)), (2, .long p1)]) hx hb dX8_claims_60 hl (by decide) rfl (fun ls hl => ?_)
            refine lv_lload_n hx hb dX8_claims_62 rfl (lv_at hl 3 rfl) ?_
            refine lv_lstore (lv' := [(5, .long p1), (4, .int 0), (0, .ref g), (1, .int (nI lj)), (2, .long p1)]) hx hb dX8_claims_63 hl (by decide) rfl (fun ls hl => ?_)
            have J65 : ∀ (zz : Nat) (h4_65 : Int32) (h5_65 : Int64) (a_g39_65 : Nat → Int32) (f8_40_65 : Nat), (PX a_g39_65 h4_65 f8_40_65) → (f8_40_65 ≤ z28) → (Int64.toInt h5_65).toNat < zz → ∀ (H : Heap) (locs : List Loc) (ls : Array Slot), va_P D vwCl [(aIc cI g39 8 a_g39_65), (oX8 g 0 (nI mn) g2 g3 g4 g5 g6 g7 g8 g9 g10 (nI ml) g12 g13 gi14 g15 g16 g17 z26 g19 g20 g21 g22 g23 g24 g25 g26 g27 g28 z24 z25 (nI z27) (nI z28) g33 g34 g35 g36 g37 g38 g39 (nI f8_40_65) g41 g42 gi43 g44 g45), (aIc cI g2 8 G2), (aIc cI g3 8 G3), (aIc cI g4 8 G4), (aIc cI g5 8 G5), (aIc cI g6 8 G6), (aIc cI g7 8 G7), (aIc cI g8 8 G8), (aIc cI g10 64 G10), (aIc cI g12 10 G12), (aIc cI g13 10 G13), (aIc cI g19 8 z9), (aIc cI g20 8 z10), (aIc cI g21 8 z11), (aIc cI g22 8 z12), (aIc cI g23 8 z13), (aIc cI g24 8 z14), (aIc cI g25 8 z15), (aIc cI g26 8 z16), (aIc cI g27 8 z17), (aIc cI g28 8 z18), (aIc cI g33 8 z19), (aIc cI g34 8 z20), (aIc cI g35 8 z21), (aIc cI g36 8 z22), (aJc cJ g37 8 z23)] H → va_D A [(aIc cI g39 8 a_g39_65), (oX8 g 0 (nI mn) g2 g3 g4 g5 g6 g7 g8 g9 g10 (nI ml) g12 g13 gi14 g15 g16 g17 z26 g19 g20 g21 g22 g23 g24 g25 g26 g27 g28 z24 z25 (nI z27) (nI z28) g33 g34 g35 g36 g37 g38 g39 (nI f8_40_65) g41 g42 gi43 g44 g45), (aIc cI g2 8 G2), (aIc cI g3 8 G3), (aIc cI g4 8 G4), (aIc cI g5 8 G5), (aIc cI g6 8 G6), (aIc cI g7 8 G7), (aIc cI g8 8 G8), (aIc cI g10 64 G10), (aIc cI g12 10 G12), (aIc cI g13 10 G13), (aIc cI g19 8 z9), (aIc cI g20 8 z10), (aIc cI g21 8 z11), (aIc cI g22 8 z12), (aIc cI g23 8 z13), (aIc cI g24 8 z14), (aIc cI g25 8 z15), (aIc cI g26 8 z16), (aIc cI g27 8 z17), (aIc cI g28 8 z18), (aIc cI g33 8 z19), (aIc cI g34 8 z20), (aIc cI g35 8 z21), (aIc cI g36 8 z22), (aJc cJ g37 8 z23)] → va_S A s.heap H locs → lv_has ls 8 [(5, .long h5_65), (4, .int h4_65), (0, .ref g), (1, .int (nI lj)), (2, .long p1)] → W p l e { frames := 8, cells := 0, slots := 0, locals := 189 } s m [.ref g, .int p0, .long p1].toArray below meth c H locs 0 0 (MQ below (cQi D (fun r u => ∃ (G19p G20p G21p G22p G23p G24p G25p G26p G27p G28p G33p G34p G35p G36p : Nat → Int32) (G37p : Nat → Int64) (gi29p gi30p gi18p : Int32) (mvp ttp : Nat) (gi0p : Int32) (G39p : Nat → Int32) (gi40p : Int32), (LE G19p) ∧ (LO G20p) ∧ (LW G25p) ∧ (SH G27p ttp) ∧ (ttp ≤ 1000000) ∧ (mvp ≤ 8) ∧ (r = 0 ∨ (r = 1 ∧ PD G39p gi40p ttp)) ∧ u = [(oX8 g gi0p (nI mn) g2 g3 g4 g5 g6 g7 g8 g9 g10 (nI ml) g12 g13 gi14 g15 g16 g17 gi18p g19 g20 g21 g22 g23 g24 g25 g26 g27 g28 gi29p gi30p (nI mvp) (nI ttp) g33 g34 g35 g36 g37 g38 g39 gi40p g41 g42 gi43 g44 g45), (aIc cI g2 8 G2), (aIc cI g3 8 G3), (aIc cI g4 8 G4), (aIc cI g5 8 G5), (aIc cI g6 8 G6), (aIc cI g7 8 G7), (aIc cI g8 8 G8), (aIc cI g10 64 G10), (aIc cI g12 10 G12), (aIc cI g13 10 G13), (aIc cI g19 8 G19p), (aIc cI g20 8 G20p), (aIc cI g21 8 G21p), (aIc cI g22 8 G22p), (aIc cI g23 8 G23p), (aIc cI g24 8 G24p), (aIc cI g25 8 G25p), (aIc cI g26 8 G26p), (aIc cI g27 8 G27p), (aIc cI g28 8 G28p), (aIc cI g33 8 G33p), (aIc cI g34 8 G34p), (aIc cI g35 8 G35p), (aIc cI g36 8 G36p), (aJc cJ g37 8 G37p), (aIc cI g39 8 G39p)]) A) [.ref g, .int p0, .long p1].toArray s 0 0 A) (F0 m 65 ls []) := by
              intro zz
              induction zz with
              | zero => intro h4_65 h5_65 a_g39_65 f8_40_65 _ _; exact fun h => absurd h (Nat.not_lt_zero _)
              | succ zz ih65 =>
                intro h4_65 h5_65 a_g39_65 f8_40_65 hPX_65 hpa_65 hmu65 H locs ls hP hD hS hl
                refine lv_lload hx hb dX8_claims_65 (lv_at hl 0 rfl) ?_
                refine lv_lconst (v := 0) hx hb dX8_claims_67 (by decide) ?_
                refine k_lcmp_le (tgt := 186) hx hb dX8_claims_68 dX8_claims_69 (by decide) (fun c37 => ?_) (fun c37 => ?_)
                · skip
                  refine lv_iconst (v := 1) hx hb dX8_claims_186 (by decide) ?_
                  refine k_zret (u := [(oX8 g 0 (nI mn) g2 g3 g4 g5 g6 g7 g8 g9 g10 (nI ml) g12 g13 gi14 g15 g16 g17 z26 g19 g20 g21 g22 g23 g24 g25 g26 g27 g28 z24 z25 (nI z27) (nI z28) g33 g34 g35 g36 g37 g38 g39 (nI f8_40_65) g41 g42 gi43 g44 g45), (aIc cI g2 8 G2), (aIc cI g3 8 G3), (aIc cI g4 8 G4), (aIc cI g5 8 G5), (aIc cI g6 8 G6), (aIc cI g7 8 G7), (aIc cI g8 8 G8), (aIc cI g10 64 G10), (aIc cI g12 10 G12), (aIc cI g13 10 G13), (aIc cI g19 8 z9), (aIc cI g20 8 z10), (aIc cI g21 8 z11), (aIc cI g22 8 z12), (aIc cI g23 8 z13), (aIc cI g24 8 z14), (aIc cI g25 8 z15), (aIc cI g26 8 z16), (aIc cI g27 8 z17), (aIc cI g28 8 z18), (aIc cI g33 8 z19), (aIc cI g34 8 z20), (aIc cI g35 8 z21), (aIc cI g36 8 z22), (aJc cJ g37 8 z23), (aIc cI g39 8 a_g39_65)]) hx hb hr (by decide) hlk (k_sub hP [1, 2, 3, 4, 5, 6, 7, 8, 9, 10, 11, 12, 13, 14, 15, 16, 17, 18, 19, 20, 21, 22, 23, 24, 25, 26, 0] rfl) (hD.sub [1, 2, 3, 4, 5, 6, 7, 8, 9, 10, 11, 12, 13, 14, 15, 16, 17, 18, 19, 20, 21, 22, 23, 24, 25, 26, 0] (by decide +kernel) rfl) hS dX8_claims_187 ?_
                  exact ⟨z9, z10, z11, z12, z13, z14, z15, z16, z17, z18, z19, z20, z21, z22, z23, z24, z25, z26, z27, z28, 0, a_g39_65, (nI f8_40_65), hz29, hz30, hz31, hz32, hz33, hz34, (Or.inr ⟨rfl, by obtain ⟨pd9, q1, q2, q3⟩ := hPX_65; exact ⟨pd9, f8_40_65, rfl, q1, q2, hpa_65⟩⟩), rfl⟩
                · skip
                  refine lv_lload hx hb dX8_claims_72 (lv_at hl 0 rfl) ?_
                  refine lv_ldc2 (v := 9) hx hb hown (hts _ (List.mem_cons_of_mem _ wd_756)) dX8_claims_74 ?_
                  refine lv_lrem hx hb dX8_claims_77 (by decide) ?_
                  refine lv_topl (fun v38 ev38 => ?_)
                  refine lv_l2i hx hb dX8_claims_78 rfl ?_
                  refine lv_topi (fun v39 ev39 => ?_)
                  refine lv_iconst (v := 1) hx hb dX8_claims_79 (by decide) ?_
                  refine lv_isub hx hb dX8_claims_80 ?_
                  refine lv_topi (fun v40 ev40 => ?_)
                  refine lv_istore (lv' := [(7, .int v40), (5, .long h5_65), (4, .int h4_65), (0, .ref g), (1, .int (nI lj)), (2, .long p1)]) hx hb dX8_claims_81 hl (by decide) rfl (fun ls hl => ?_)
                  refine lv_aload_n hx hb dX8_claims_83 rfl (lv_at hl 3 rfl) ?_
                  refine lv_iload hx hb dX8_claims_84 (lv_at hl 0 rfl) ?_
                  refine k_iS (va_runV (As := [.int v40]) (rest := []) ⟨hx, hb, hml, hown, hts⟩ (m_X8_isPolicy l D cI cJ H.size g g2 g3 g4 g5 g6 g7 g8 g9 g10 g12 g13 g15 g16 g17 g19 g20 g21 g22 g23 g24 g25 g26 g27 g28 g33 g34 g35 g36 g37 g38 g39 g41 g42 g44 g45 mn ml z27 0 gi14 z26 z24 z25 (nI z28) (nI f8_40_65) gi43 v40) (cwV 1 hts gX8_claims_X8_isPolicy rfl rfl rfl (by decide +kernel) ⟨Nat.le_of_ble_eq_true rfl, Nat.le_of_ble_eq_true rfl⟩) (k_preV hE hP hD [1] (by decide +kernel) rfl 1 rfl rfl) rfl rfl hl.1 rfl (lv_room (Nat.le_of_ble_eq_true rfl)) dX8_claims_86 ⟨Nat.le_of_ble_eq_true rfl, Nat.le_of_ble_eq_true rfl⟩) hP hD hS hA [1] rfl (fun _ _ ⟨_, h9⟩ => h9) (fun r41 H locs hw42 hP hD hS => ?_)
                  obtain ⟨hb43, -⟩ := hw42
                  refine lv_if_eq (tgt := 102) hx hb dX8_claims_89 (by decide) (fun c44 => ?_) (fun c44 => ?_)
                  · skip
                    have hc44 : ¬ (0 ≤ v40 ∧ v40 ≤ nI mn - 1) := bz_0 hb43 c44
                    refine lv_iconst (v := 0) hx hb dX8_claims_102 (by decide) ?_
                    refine k_zret (u := [(oX8 g 0 (nI mn) g2 g3 g4 g5 g6 g7 g8 g9 g10 (nI ml) g12 g13 gi14 g15 g16 g17 z26 g19 g20 g21 g22 g23 g24 g25 g26 g27 g28 z24 z25 (nI z27) (nI z28) g33 g34 g35 g36 g37 g38 g39 (nI f8_40_65) g41 g42 gi43 g44 g45), (aIc cI g2 8 G2), (aIc cI g3 8 G3), (aIc cI g4 8 G4), (aIc cI g5 8 G5), (aIc cI g6 8 G6), (aIc cI g7 8 G7), (aIc cI g8 8 G8), (aIc cI g10 64 G10), (aIc cI g12 10 G12), (aIc cI g13 10 G13), (aIc cI g19 8 z9), (aIc cI g20 8 z10), (aIc cI g21 8 z11), (aIc cI g22 8 z12), (aIc cI g23 8 z13), (aIc cI g24 8 z14), (aIc cI g25 8 z15), (aIc cI g26 8 z16), (aIc cI g27 8 z17), (aIc cI g28 8 z18), (aIc cI g33 8 z19), (aIc cI g34 8 z20), (aIc cI g35 8 z21), (aIc cI g36 8 z22), (aJc cJ g37 8 z23), (aIc cI g39 8 a_g39_65)]) hx hb hr (by decide) hlk (k_sub hP [1, 2, 3, 4, 5, 6, 7, 8, 9, 10, 11, 12, 13, 14, 15, 16, 17, 18, 19, 20, 21, 22, 23, 24, 25, 26, 0] rfl) (hD.sub [1, 2, 3, 4, 5, 6, 7, 8, 9, 10, 11, 12, 13, 14, 15, 16, 17, 18, 19, 20, 21, 22, 23, 24, 25, 26, 0] (by decide +kernel) rfl) hS dX8_claims_103 ?_
                    exact ⟨z9, z10, z11, z12, z13, z14, z15, z16, z17, z18, z19, z20, z21, z22, z23, z24, z25, z26, z27, z28, 0, a_g39_65, (nI f8_40_65), hz29, hz30, hz31, hz32, hz33, hz34, (Or.inl rfl), rfl⟩
                  · skip
                    have hc44 : 0 ≤ v40 ∧ v40 ≤ nI mn - 1 := bz_1 hb43 c44
                    obtain ⟨pj, hpj, epj⟩ := wi_n (by omega) hc44
                    rw [epj] at hl
                    refine lv_iload hx hb dX8_claims_92 (lv_at hl 2 rfl) ?_
                    refine lv_iload hx hb dX8_claims_94 (lv_at hl 0 rfl) ?_
                    refine k_iS (va_runS (As := [.int h4_65, .int (nI pj)]) (rest := []) ⟨hx, hb, hml, hown, hts⟩ (m_X8_isOn l D cI cJ H.size h4_65 (nI pj)) (va_cwS 2 hts gX8_claims_X8_isOn rfl rfl rfl (by decide +kernel) ⟨Nat.le_of_ble_eq_true rfl, Nat.le_of_ble_eq_true rfl⟩) (k_pre hE hP hD [] (by decide +kernel) rfl) rfl rfl hl.1 rfl (lv_room (Nat.le_of_ble_eq_true rfl)) dX8_claims_96 ⟨Nat.le_of_ble_eq_true rfl, Nat.le_of_ble_eq_true rfl⟩) hP hD hS hA [] rfl (fun _ _ h9 => h9.2) (fun r45 H locs hw46 hP hD hS => ?_)
                    obtain ⟨hw46, -⟩ := hw46
                    refine lv_if_eq (tgt := 104) hx hb dX8_claims_99 (by decide) (fun c47 => ?_) (fun c47 => ?_)
                    · skip
                      have hc47 : ¬ ((h4_65 >>> ((nI pj) &&& 31)) &&& 1 = 1) := bz_0 hw46 c47
                      have hpb : bt h4_65 pj = false := bt_off (by omega) hc47
                      obtain ⟨lo9, hlo9, hlob9⟩ := hz30
                      obtain ⟨sh9, hsh9, hss9⟩ := hz32
                      have hlob_ := hlob9 pj (by omega)
                      have hshb_ := sm_get sh9 (k := pj) (n := 8) (by omega)
                      refine lv_iload hx hb dX8_claims_104 (lv_at hl 2 rfl) ?_
                      refine lv_iconst (v := 1) hx hb dX8_claims_106 (by decide) ?_
                      refine lv_iload hx hb dX8_claims_107 (lv_at hl 0 rfl) ?_
                      refine lv_ishl hx hb dX8_claims_109 ?_
                      refine lv_topi (fun v48 ev48 => ?_)
                      refine lv_ior hx hb dX8_claims_110 ?_
                      refine lv_topi (fun v49 ev49 => ?_)
                      refine lv_istore (lv' := [(4, .int v49), (7, .int (nI pj)), (5, .long h5_65), (0, .ref g), (1, .int (nI lj)), (2, .long p1)]) hx hb dX8_claims_111 hl (by decide) rfl (fun ls hl => ?_)
                      refine lv_aload_n hx hb dX8_claims_113 rfl (lv_at hl 3 rfl) ?_
                      refine va_get (D := D) (ci := 8) (v := .ref g39) (C := RX8) (T := TX8) (N := 46) hx hb hts hiX8 hown hE.1 hP 1 rfl rfl 39 (by decide) (hts _ (List.mem_cons_of_mem _ wd_146)) (fun _ h9 => h9) rfl dX8_claims_114 ?_
                      refine lv_iload hx hb dX8_claims_117 (lv_at hl 1 rfl) ?_
                      refine lv_aload_n hx hb dX8_claims_119 rfl (lv_at hl 3 rfl) ?_
                      refine va_get (D := D) (ci := 8) (v := .ref g7) (C := RX8) (T := TX8) (N := 46) hx hb hts hiX8 hown hE.1 hP 1 rfl rfl 7 (by decide) (hts _ (List.mem_cons_of_mem _ wd_121)) (fun _ h9 => h9) rfl dX8_claims_120 ?_
                      refine lv_iload hx hb dX8_claims_123 (lv_at hl 1 rfl) ?_
                      refine va_iald hx hb hE.1 hP 7 0 rfl rfl (vp_in_nI (n := pj) (by omega) (by decide)) dX8_claims_125 ?_
                      refine lv_topi (fun v50 ev50 => ?_)
                      refine lv_if_ne (tgt := 139) hx hb dX8_claims_126 (by decide) (fun c51 => ?_) (fun c51 => ?_)
                      · skip
                        refine lv_aload_n hx hb dX8_claims_139 rfl (lv_at hl 3 rfl) ?_
                        refine va_get (D := D) (ci := 8) (v := .ref g27) (C := RX8) (T := TX8) (N := 46) hx hb hts hiX8 hown hE.1 hP 1 rfl rfl 27 (by decide) (hts _ (List.mem_cons_of_mem _ wd_138)) (fun _ h9 => h9) rfl dX8_claims_140 ?_
                        refine lv_iload hx hb dX8_claims_143 (lv_at hl 1 rfl) ?_
                        refine va_iald hx hb hE.1 hP 20 0 rfl rfl (vp_in_nI (n := pj) (by omega) (by decide)) dX8_claims_145 ?_
                        refine lv_topi (fun v52 ev52 => ?_)
                        obtain rfl : v52 = nI (sh9 pj) := ev52.trans (nv_at hsh9 (by omega))
                        refine lv_aload_n hx hb dX8_claims_146 rfl (lv_at hl 3 rfl) ?_
                        refine va_get (D := D) (ci := 8) (v := .int (nI z28)) (C := RX8) (T := TX8) (N := 46) hx hb hts hiX8 hown hE.1 hP 1 rfl rfl 32 (by decide) (hts _ (List.mem_cons_of_mem _ wd_412)) (fun _ h9 => h9) rfl dX8_claims_147 ?_
                        refine lv_aload_n hx hb dX8_claims_150 rfl (lv_at hl 3 rfl) ?_
                        refine va_get (D := D) (ci := 8) (v := .int (nI f8_40_65)) (C := RX8) (T := TX8) (N := 46) hx hb hts hiX8 hown hE.1 hP 1 rfl rfl 40 (by decide) (hts _ (List.mem_cons_of_mem _ wd_751)) (fun _ h9 => h9) rfl dX8_claims_151 ?_
                        refine lv_isub hx hb dX8_claims_154 ?_
                        refine lv_topi (fun v53 ev53 => ?_)
                        obtain rfl : v53 = nI (z28 - f8_40_65) := by rw [ev53]; exact pk_sub (by omega)
                        refine k_iS (va_runS (As := [.int (nI (sh9 pj)), .int (nI (z28 - f8_40_65))]) (rest := [.int (nI pj), .ref g39]) ⟨hx, hb, hml, hown, hts⟩ (m_X8_least l D cI cJ H.size (sh9 pj) (z28 - f8_40_65) (by omega) (by omega)) (va_cwS 2 hts gX8_claims_X8_least rfl rfl rfl (by decide +kernel) ⟨Nat.le_of_ble_eq_true rfl, Nat.le_of_ble_eq_true rfl⟩) (k_pre hE hP hD [] (by decide +kernel) rfl) rfl rfl hl.1 rfl (lv_room (Nat.le_of_ble_eq_true rfl)) dX8_claims_155 ⟨Nat.le_of_ble_eq_true rfl, Nat.le_of_ble_eq_true rfl⟩) hP hD hS hA [] rfl (fun _ _ ⟨_, h9⟩ => h9) (fun r54 H locs hw55 hP hD hS => ?_)
                        obtain ⟨rfl, -⟩ := hw55
                        refine va_iast hx hb hE.1 hP hD hS 0 0 rfl rfl (vp_in_nI (n := pj) (by omega) (by decide)) dX8_claims_158 (fun H locs hP hD hS => ?_)
                        refine k_re (w := [(aIc cI g39 8 (upd a_g39_65 (Int32.toNatClampNeg (nI pj)) (nI (min (sh9 pj) (z28 - f8_40_65))))), (oX8 g 0 (nI mn) g2 g3 g4 g5 g6 g7 g8 g9 g10 (nI ml) g12 g13 gi14 g15 g16 g17 z26 g19 g20 g21 g22 g23 g24 g25 g26 g27 g28 z24 z25 (nI z27) (nI z28) g33 g34 g35 g36 g37 g38 g39 (nI f8_40_65) g41 g42 gi43 g44 g45), (aIc cI g2 8 G2), (aIc cI g3 8 G3), (aIc cI g4 8 G4), (aIc cI g5 8 G5), (aIc cI g6 8 G6), (aIc cI g7 8 G7), (aIc cI g8 8 G8), (aIc cI g10 64 G10), (aIc cI g12 10 G12), (aIc cI g13 10 G13), (aIc cI g19 8 z9), (aIc cI g20 8 z10), (aIc cI g21 8 z11), (aIc cI g22 8 z12), (aIc cI g23 8 z13), (aIc cI g24 8 z14), (aIc cI g25 8 z15), (aIc cI g26 8 z16), (aIc cI g27 8 z17), (aIc cI g28 8 z18), (aIc cI g33 8 z19), (aIc cI g34 8 z20), (aIc cI g35 8 z21), (aIc cI g36 8 z22), (aJc cJ g37 8 z23)]) hP hD (fun hP hD => ?_)
                        refine lv_aload_n hx hb dX8_claims_159 rfl (lv_at hl 3 rfl) ?_
                        refine lv_dup hx hb dX8_claims_160 rfl ?_
                        refine va_get (D := D) (ci := 8) (v := .int (nI f8_40_65)) (C := RX8) (T := TX8) (N := 46) hx hb hts hiX8 hown hE.1 hP 1 rfl rfl 40 (by decide) (hts _ (List.mem_cons_of_mem _ wd_751)) (fun _ h9 => h9) rfl dX8_claims_161 ?_
                        refine lv_aload_n hx hb dX8_claims_164 rfl (lv_at hl 3 rfl) ?_
                        refine va_get (D := D) (ci := 8) (v := .ref g39) (C := RX8) (T := TX8) (N := 46) hx hb hts hiX8 hown hE.1 hP 1 rfl rfl 39 (by decide) (hts _ (List.mem_cons_of_mem _ wd_146)) (fun _ h9 => h9) rfl dX8_claims_165 ?_
                        refine lv_iload hx hb dX8_claims_168 (lv_at hl 1 rfl) ?_
                        refine va_iald hx hb hE.1 hP 0 0 rfl rfl (vp_in_nI (n := pj) (by omega) (by decide)) dX8_claims_170 ?_
                        refine lv_topi (fun v56 ev56 => ?_)
                        obtain rfl : v56 = (nI (min (sh9 pj) (z28 - f8_40_65))) := by rw [ev56]; exact pk_us
                        refine lv_iadd hx hb dX8_claims_171 ?_
                        refine lv_topi (fun v57 ev57 => ?_)
                        obtain rfl : v57 = (nI (f8_40_65 + (min (sh9 pj) (z28 - f8_40_65)))) := by rw [ev57]; exact nI_add f8_40_65 (min (sh9 pj) (z28 - f8_40_65))
                        refine va_put (D := D) (ci := 8) (v := .int (nI (f8_40_65 + (min (sh9 pj) (z28 - f8_40_65))))) (ty := .int) (C := RX8) (T := TX8) (N := 46) hx hb hts hiX8 tyX8 tyX8_ok nmX8 hown hE.1 hP hD hS 1 rfl rfl 40 (by decide) (hts _ (List.mem_cons_of_mem _ wd_751)) (fun _ h9 => h9) rfl (by decide +kernel) rfl rfl (Nat.le_of_ble_eq_true rfl) dX8_claims_172 (fun H locs hP hD hS => ?_)
                        refine k_re (w := [(aIc cI g39 8 (upd a_g39_65 (Int32.toNatClampNeg (nI pj)) (nI (min (sh9 pj) (z28 - f8_40_65))))), (oX8 g 0 (nI mn) g2 g3 g4 g5 g6 g7 g8 g9 g10 (nI ml) g12 g13 gi14 g15 g16 g17 z26 g19 g20 g21 g22 g23 g24 g25 g26 g27 g28 z24 z25 (nI z27) (nI z28) g33 g34 g35 g36 g37 g38 g39 (nI (f8_40_65 + (min (sh9 pj) (z28 - f8_40_65)))) g41 g42 gi43 g44 g45), (aIc cI g2 8 G2), (aIc cI g3 8 G3), (aIc cI g4 8 G4), (aIc cI g5 8 G5), (aIc cI g6 8 G6), (aIc cI g7 8 G7), (aIc cI g8 8 G8), (aIc cI g10 64 G10), (aIc cI g12 10 G12), (aIc cI g13 10 G13), (aIc cI g19 8 z9), (aIc cI g20 8 z10), (aIc cI g21 8 z11), (aIc cI g22 8 z12), (aIc cI g23 8 z13), (aIc cI g24 8 z14), (aIc cI g25 8 z15), (aIc cI g26 8 z16), (aIc cI g27 8 z17), (aIc cI g28 8 z18), (aIc cI g33 8 z19), (aIc cI g34 8 z20), (aIc cI g35 8 z21), (aIc cI g36 8 z22), (aJc cJ g37 8 z23)]) hP hD (fun hP hD => ?_)
                        refine lv_lload hx hb dX8_claims_175 (lv_at hl 2 rfl) ?_
                        refine lv_ldc2 (v := 9) hx hb hown (hts _ (List.mem_cons_of_mem _ wd_756)) dX8_claims_177 ?_
                        refine lv_ldiv hx hb dX8_claims_180 (by decide) ?_
                        refine lv_topl (fun v58 ev58 => ?_)
                        refine lv_lstore (lv' := [(5, .long v58), (4, .int v49), (7, .int (nI pj)), (0, .ref g), (1, .int (nI lj)), (2, .long p1)]) hx hb dX8_claims_181 hl (by decide) rfl (fun ls hl => ?_)
                        refine lv_goto (tgt := 65) hx hb dX8_claims_183 (by decide) ?_
                        have hdec := lr_dec c37 ev58
                        exact ih65 v49 v58 (upd a_g39_65 (Int32.toNatClampNeg (nI pj)) (nI (min (sh9 pj) (z28 - f8_40_65)))) (f8_40_65 + (min (sh9 pj) (z28 - f8_40_65))) (px_up (by omega) hPX_65 hpb ev48 ev49) (by omega) (by omega) _ _ _ hP hD hS (lv_sub hl [0, 1, 3, 4, 5] rfl)
                      · skip
                        refine lv_aload_n hx hb dX8_claims_129 rfl (lv_at hl 3 rfl) ?_
                        refine va_get (D := D) (ci := 8) (v := .ref g20) (C := RX8) (T := TX8) (N := 46) hx hb hts hiX8 hown hE.1 hP 1 rfl rfl 20 (by decide) (hts _ (List.mem_cons_of_mem _ wd_131)) (fun _ h9 => h9) rfl dX8_claims_130 ?_
                        refine lv_iload hx hb dX8_claims_133 (lv_at hl 1 rfl) ?_
                        refine va_iald hx hb hE.1 hP 13 0 rfl rfl (vp_in_nI (n := pj) (by omega) (by decide)) dX8_claims_135 ?_
                        refine lv_topi (fun v59 ev59 => ?_)
                        obtain rfl : v59 = nI (lo9 pj) := ev59.trans (nv_at hlo9 (by omega))
                        refine lv_goto (tgt := 146) hx hb dX8_claims_136 (by decide) ?_
                        refine lv_aload_n hx hb dX8_claims_146 rfl (lv_at hl 3 rfl) ?_
                        refine va_get (D := D) (ci := 8) (v := .int (nI z28)) (C := RX8) (T := TX8) (N := 46) hx hb hts hiX8 hown hE.1 hP 1 rfl rfl 32 (by decide) (hts _ (List.mem_cons_of_mem _ wd_412)) (fun _ h9 => h9) rfl dX8_claims_147 ?_
                        refine lv_aload_n hx hb dX8_claims_150 rfl (lv_at hl 3 rfl) ?_
                        refine va_get (D := D) (ci := 8) (v := .int (nI f8_40_65)) (C := RX8) (T := TX8) (N := 46) hx hb hts hiX8 hown hE.1 hP 1 rfl rfl 40 (by decide) (hts _ (List.mem_cons_of_mem _ wd_751)) (fun _ h9 => h9) rfl dX8_claims_151 ?_
                        refine lv_isub hx hb dX8_claims_154 ?_
                        refine lv_topi (fun v60 ev60 => ?_)
                        obtain rfl : v60 = nI (z28 - f8_40_65) := by rw [ev60]; exact pk_sub (by omega)
                        refine k_iS (va_runS (As := [.int (nI (lo9 pj)), .int (nI (z28 - f8_40_65))]) (rest := [.int (nI pj), .ref g39]) ⟨hx, hb, hml, hown, hts⟩ (m_X8_least l D cI cJ H.size (lo9 pj) (z28 - f8_40_65) (by omega) (by omega)) (va_cwS 2 hts gX8_claims_X8_least rfl rfl rfl (by decide +kernel) ⟨Nat.le_of_ble_eq_true rfl, Nat.le_of_ble_eq_true rfl⟩) (k_pre hE hP hD [] (by decide +kernel) rfl) rfl rfl hl.1 rfl (lv_room (Nat.le_of_ble_eq_true rfl)) dX8_claims_155 ⟨Nat.le_of_ble_eq_true rfl, Nat.le_of_ble_eq_true rfl⟩) hP hD hS hA [] rfl (fun _ _ ⟨_, h9⟩ => h9) (fun r61 H locs hw62 hP hD hS => ?_)
                        obtain ⟨rfl, -⟩ := hw62
                        refine va_iast hx hb hE.1 hP hD hS 0 0 rfl rfl (vp_in_nI (n := pj) (by omega) (by decide)) dX8_claims_158 (fun H locs hP hD hS => ?_)
                        refine k_re (w := [(aIc cI g39 8 (upd a_g39_65 (Int32.toNatClampNeg (nI pj)) (nI (min (lo9 pj) (z28 - f8_40_65))))), (oX8 g 0 (nI mn) g2 g3 g4 g5 g6 g7 g8 g9 g10 (nI ml) g12 g13 gi14 g15 g16 g17 z26 g19 g20 g21 g22 g23 g24 g25 g26 g27 g28 z24 z25 (nI z27) (nI z28) g33 g34 g35 g36 g37 g38 g39 (nI f8_40_65) g41 g42 gi43 g44 g45), (aIc cI g2 8 G2), (aIc cI g3 8 G3), (aIc cI g4 8 G4), (aIc cI g5 8 G5), (aIc cI g6 8 G6), (aIc cI g7 8 G7), (aIc cI g8 8 G8), (aIc cI g10 64 G10), (aIc cI g12 10 G12), (aIc cI g13 10 G13), (aIc cI g19 8 z9), (aIc cI g20 8 z10), (aIc cI g21 8 z11), (aIc cI g22 8 z12), (aIc cI g23 8 z13), (aIc cI g24 8 z14), (aIc cI g25 8 z15), (aIc cI g26 8 z16), (aIc cI g27 8 z17), (aIc cI g28 8 z18), (aIc cI g33 8 z19), (aIc cI g34 8 z20), (aIc cI g35 8 z21), (aIc cI g36 8 z22), (aJc cJ g37 8 z23)]) hP hD (fun hP hD => ?_)
                        refine lv_aload_n hx hb dX8_claims_159 rfl (lv_at hl 3 rfl) ?_
                        refine lv_dup hx hb dX8_claims_160 rfl ?_
                        refine va_get (D := D) (ci := 8) (v := .int (nI f8_40_65)) (C := RX8) (T := TX8) (N := 46) hx hb hts hiX8 hown hE.1 hP 1 rfl rfl 40 (by decide) (hts _ (List.mem_cons_of_mem _ wd_751)) (fun _ h9 => h9) rfl dX8_claims_161 ?_
                        refine lv_aload_n hx hb dX8_claims_164 rfl (lv_at hl 3 rfl) ?_
                        refine va_get (D := D) (ci := 8) (v := .ref g39) (C := RX8) (T := TX8) (N := 46) hx hb hts hiX8 hown hE.1 hP 1 rfl rfl 39 (by decide) (hts _ (List.mem_cons_of_mem _ wd_146)) (fun _ h9 => h9) rfl dX8_claims_165 ?_
                        refine lv_iload hx hb dX8_claims_168 (lv_at hl 1 rfl) ?_
                        refine va_iald hx hb hE.1 hP 0 0 rfl rfl (vp_in_nI (n := pj) (by omega) (by decide)) dX8_claims_170 ?_
                        refine lv_topi (fun v63 ev63 => ?_)
                        obtain rfl : v63 = (nI (min (lo9 pj) (z28 - f8_40_65))) := by rw [ev63]; exact pk_us
                        refine lv_iadd hx hb dX8_claims_171 ?_
                        refine lv_topi (fun v64 ev64 => ?_)
                        obtain rfl : v64 = (nI (f8_40_65 + (min (lo9 pj) (z28 - f8_40_65)))) := by rw [ev64]; exact nI_add f8_40_65 (min (lo9 pj) (z28 - f8_40_65))
                        refine va_put (D := D) (ci := 8) (v := .int (nI (f8_40_65 + (min (lo9 pj) (z28 - f8_40_65))))) (ty := .int) (C := RX8) (T := TX8) (N := 46) hx hb hts hiX8 tyX8 tyX8_ok nmX8 hown hE.1 hP hD hS 1 rfl rfl 40 (by decide) (hts _ (List.mem_cons_of_mem _ wd_751)) (fun _ h9 => h9) rfl (by decide +kernel) rfl rfl (Nat.le_of_ble_eq_true rfl) dX8_claims_172 (fun H locs hP hD hS => ?_)
                        refine k_re (w := [(aIc cI g39 8 (upd a_g39_65 (Int32.toNatClampNeg (nI pj)) (nI (min (lo9 pj) (z28 - f8_40_65))))), (oX8 g 0 (nI mn) g2 g3 g4 g5 g6 g7 g8 g9 g10 (nI ml) g12 g13 gi14 g15 g16 g17 z26 g19 g20 g21 g22 g23 g24 g25 g26 g27 g28 z24 z25 (nI z27) (nI z28) g33 g34 g35 g36 g37 g38 g39 (nI (f8_40_65 + (min (lo9 pj) (z28 - f8_40_65)))) g41 g42 gi43 g44 g45), (aIc cI g2 8 G2), (aIc cI g3 8 G3), (aIc cI g4 8 G4), (aIc cI g5 8 G5), (aIc cI g6 8 G6), (aIc cI g7 8 G7), (aIc cI g8 8 G8), (aIc cI g10 64 G10), (aIc cI g12 10 G12), (aIc cI g13 10 G13), (aIc cI g19 8 z9), (aIc cI g20 8 z10), (aIc cI g21 8 z11), (aIc cI g22 8 z12), (aIc cI g23 8 z13), (aIc cI g24 8 z14), (aIc cI g25 8 z15), (aIc cI g26 8 z16), (aIc cI g27 8 z17), (aIc cI g28 8 z18), (aIc cI g33 8 z19), (aIc cI g34 8 z20), (aIc cI g35 8 z21), (aIc cI g36 8 z22), (aJc cJ g37 8 z23)]) hP hD (fun hP hD => ?_)
                        refine lv_lload hx hb dX8_claims_175 (lv_at hl 2 rfl) ?_
                        refine lv_ldc2 (v := 9) hx hb hown (hts _ (List.mem_cons_of_mem _ wd_756)) dX8_claims_177 ?_
                        refine lv_ldiv hx hb dX8_claims_180 (by decide) ?_
                        refine lv_topl (fun v65 ev65 => ?_)
                        refine lv_lstore (lv' := [(5, .long v65), (4, .int v49), (7, .int (nI pj)), (0, .ref g), (1, .int (nI lj)), (2, .long p1)]) hx hb dX8_claims_181 hl (by decide) rfl (fun ls hl => ?_)
                        refine lv_goto (tgt := 65) hx hb dX8_claims_183 (by decide) ?_
                        have hdec := lr_dec c37 ev65
                        exact ih65 v49 v65 (upd a_g39_65 (Int32.toNatClampNeg (nI pj)) (nI (min (lo9 pj) (z28 - f8_40_65)))) (f8_40_65 + (min (lo9 pj) (z28 - f8_40_65))) (px_up (by omega) hPX_65 hpb ev48 ev49) (by omega) (by omega) _ _ _ hP hD hS (lv_sub hl [0, 1, 3, 4, 5] rfl)
                    · skip
                      have hc47 : (h4_65 >>> ((nI pj) &&& 31)) &&& 1 = 1 := bz_1 hw46 c47
                      refine lv_iconst (v := 0) hx hb dX8_claims_102 (by decide) ?_
                      refine k_zret (u := [(oX8 g 0 (nI mn) g2 g3 g4 g5 g6 g7 g8 g9 g10 (nI ml) g12 g13 gi14 g15 g16 g17 z26 g19 g20 g21 g22 g23 g24 g25 g26 g27 g28 z24 z25 (nI z27) (nI z28) g33 g34 g35 g36 g37 g38 g39 (nI f8_40_65) g41 g42 gi43 g44 g45), (aIc cI g2 8 G2), (aIc cI g3 8 G3), (aIc cI g4 8 G4), (aIc cI g5 8 G5), (aIc cI g6 8 G6), (aIc cI g7 8 G7), (aIc cI g8 8 G8), (aIc cI g10 64 G10), (aIc cI g12 10 G12), (aIc cI g13 10 G13), (aIc cI g19 8 z9), (aIc cI g20 8 z10), (aIc cI g21 8 z11), (aIc cI g22 8 z12), (aIc cI g23 8 z13), (aIc cI g24 8 z14), (aIc cI g25 8 z15), (aIc cI g26 8 z16), (aIc cI g27 8 z17), (aIc cI g28 8 z18), (aIc cI g33 8 z19), (aIc cI g34 8 z20), (aIc cI g35 8 z21), (aIc cI g36 8 z22), (aJc cJ g37 8 z23), (aIc cI g39 8 a_g39_65)]) hx hb hr (by decide) hlk (k_sub hP [1, 2, 3, 4, 5, 6, 7, 8, 9, 10, 11, 12, 13, 14, 15, 16, 17, 18, 19, 20, 21, 22, 23, 24, 25, 26, 0] rfl) (hD.sub [1, 2, 3, 4, 5, 6, 7, 8, 9, 10, 11, 12, 13, 14, 15, 16, 17, 18, 19, 20, 21, 22, 23, 24, 25, 26, 0] (by decide +kernel) rfl) hS dX8_claims_103 ?_
                      exact ⟨z9, z10, z11, z12, z13, z14, z15, z16, z17, z18, z19, z20, z21, z22, z23, z24, z25, z26, z27, z28, 0, a_g39_65, (nI f8_40_65), hz29, hz30, hz31, hz32, hz33, hz34, (Or.inl rfl), rfl⟩
            exact J65 _ 0 p1 a_g39_33 0 (px_0 (fun k hk => hz_33 k (by omega))) (by omega) (Nat.lt_succ_self _) _ _ _ hP hD hS (lv_sub hl [0, 1, 2, 3, 4] rfl)
          · skip
            have nc36 : ¬ 8 ≤ i33 := fun q9 => c36 ((nI_leI (a := 8) (b := i33) (by omega) (by omega)).mpr q9)
            refine lv_aload_n hx hb dX8_claims_40 rfl (lv_at hl 1 rfl) ?_
            refine va_get (D := D) (ci := 8) (v := .ref g39) (C := RX8) (T := TX8) (N := 46) hx hb hts hiX8 hown hE.1 hP 1 rfl rfl 39 (by decide) (hts _ (List.mem_cons_of_mem _ wd_146)) (fun _ h9 => h9) rfl dX8_claims_41 ?_
            refine lv_iload hx hb dX8_claims_44 (lv_at hl 0 rfl) ?_
            refine lv_iconst (v := 0) hx hb dX8_claims_46 (by decide) ?_
            refine va_iast hx hb hE.1 hP hD hS 0 0 rfl rfl (vp_in_nI (n := i33) (by omega) (by decide)) dX8_claims_47 (fun H locs hP hD hS => ?_)
            refine k_re (w := [(aIc cI g39 8 (upd a_g39_33 (Int32.toNatClampNeg (nI i33)) 0)), (oX8 g 0 (nI mn) g2 g3 g4 g5 g6 g7 g8 g9 g10 (nI ml) g12 g13 gi14 g15 g16 g17 z26 g19 g20 g21 g22 g23 g24 g25 g26 g27 g28 z24 z25 (nI z27) (nI z28) g33 g34 g35 g36 g37 g38 g39 gi40 g41 g42 gi43 g44 g45), (aIc cI g2 8 G2), (aIc cI g3 8 G3), (aIc cI g4 8 G4), (aIc cI g5 8 G5), (aIc cI g6 8 G6), (aIc cI g7 8 G7), (aIc cI g8 8 G8), (aIc cI g10 64 G10), (aIc cI g12 10 G12), (aIc cI g13 10 G13), (aIc cI g19 8 z9), (aIc cI g20 8 z10), (aIc cI g21 8 z11), (aIc cI g22 8 z12), (aIc cI g23 8 z13), (aIc cI g24 8 z14), (aIc cI g25 8 z15), (aIc cI g26 8 z16), (aIc cI g27 8 z17), (aIc cI g28 8 z18), (aIc cI g33 8 z19), (aIc cI g34 8 z20), (aIc cI g35 8 z21), (aIc cI g36 8 z22), (aJc cJ g37 8 z23)]) hP hD (fun hP hD => ?_)
            refine lv_iinc (v := (nI (i33 + 1))) (lv' := [(4, .int (nI (i33 + 1))), (0, .ref g), (1, .int (nI lj)), (2, .long p1)]) hx hb dX8_claims_48 hl (k := 0) rfl (nI_1 _) (by decide) rfl (fun ls hl => ?_)
            refine lv_goto (tgt := 33) hx hb dX8_claims_51 (by decide) ?_
            exact ih33 (i33 + 1) (upd a_g39_33 (Int32.toNatClampNeg (nI i33)) 0) (by omega) (cst_up (by omega) hz_33) (by omega) _ _ _ hP hD hS (lv_sub hl [0, 1, 2, 3] rfl)
      exact J33 _ 0 G39 (by omega) (fun k hk => absurd hk (Nat.not_lt_zero k)) (Nat.lt_succ_self _) _ _ _ hP hD hS (lv_sub hl [0, 1, 2, 3] rfl)
    · skip
      refine lv_iconst (v := 0) hx hb dX8_claims_19 (by decide) ?_
      refine k_zret (u := [(oX8 g 0 (nI mn) g2 g3 g4 g5 g6 g7 g8 g9 g10 (nI ml) g12 g13 gi14 g15 g16 g17 gi18 g19 g20 g21 g22 g23 g24 g25 g26 g27 g28 gi29 gi30 (nI mv) (nI tt) g33 g34 g35 g36 g37 g38 g39 gi40 g41 g42 gi43 g44 g45), (aIc cI g2 8 G2), (aIc cI g3 8 G3), (aIc cI g4 8 G4), (aIc cI g5 8 G5), (aIc cI g6 8 G6), (aIc cI g7 8 G7), (aIc cI g8 8 G8), (aIc cI g10 64 G10), (aIc cI g12 10 G12), (aIc cI g13 10 G13), (aIc cI g19 8 G19), (aIc cI g20 8 G20), (aIc cI g21 8 G21), (aIc cI g22 8 G22), (aIc cI g23 8 G23), (aIc cI g24 8 G24), (aIc cI g25 8 G25), (aIc cI g26 8 G26), (aIc cI g27 8 G27), (aIc cI g28 8 G28), (aIc cI g33 8 G33), (aIc cI g34 8 G34), (aIc cI g35 8 G35), (aIc cI g36 8 G36), (aJc cJ g37 8 G37), (aIc cI g39 8 G39)]) hx hb hr (by decide) hlk hP hD hS dX8_claims_20 ?_
      exact ⟨G19, G20, G21, G22, G23, G24, G25, G26, G27, G28, G33, G34, G35, G36, G37, gi29, gi30, gi18, mv, tt, 0, G39, gi40, hLE, hLO, hLW, hSH, htt, hmv, (Or.inl rfl), rfl⟩
theorem dX8_claimed_0 : decode cX8_claimed 0 = .ok (.iload 4, 2) := by decide +kernel
theorem dX8_claimed_2 : decode cX8_claimed 2 = .ok (.iconst (-1), 1) := by decide +kernel
theorem dX8_claimed_3 : decode cX8_claimed 3 = .ok (.if_icmp .eq 12, 3) := by decide +kernel
theorem dX8_claimed_6 : decode cX8_claimed 6 = .ok (.aload_n 0, 1) := by decide +kernel
theorem dX8_claimed_7 : decode cX8_claimed 7 = .ok (.iload 4, 2) := by decide +kernel
theorem dX8_claimed_9 : decode cX8_claimed 9 = .ok (.invokevirtual 140, 3) := by decide +kernel
theorem dX8_claimed_12 : decode cX8_claimed 12 = .ok (.ifCond .eq 12, 3) := by decide +kernel
theorem dX8_claimed_15 : decode cX8_claimed 15 = .ok (.aload_n 0, 1) := by decide +kernel
theorem dX8_claimed_16 : decode cX8_claimed 16 = .ok (.iload_n 1, 1) := by decide +kernel
theorem dX8_claimed_17 : decode cX8_claimed 17 = .ok (.lload_n 2, 1) := by decide +kernel
theorem dX8_claimed_18 : decode cX8_claimed 18 = .ok (.invokevirtual 287, 3) := by decide +kernel
theorem dX8_claimed_21 : decode cX8_claimed 21 = .ok (.ifCond .ne 10, 3) := by decide +kernel
theorem dX8_claimed_24 : decode cX8_claimed 24 = .ok (.aload_n 0, 1) := by decide +kernel
theorem dX8_claimed_25 : decode cX8_claimed 25 = .ok (.iconst 0, 1) := by decide +kernel
theorem dX8_claimed_26 : decode cX8_claimed 26 = .ok (.putfield 116, 3) := by decide +kernel
theorem dX8_claimed_29 : decode cX8_claimed 29 = .ok (.iconst (-1), 1) := by decide +kernel
theorem dX8_claimed_30 : decode cX8_claimed 30 = .ok (.ireturn, 1) := by decide +kernel
theorem dX8_claimed_31 : decode cX8_claimed 31 = .ok (.iload 4, 2) := by decide +kernel
theorem dX8_claimed_33 : decode cX8_claimed 33 = .ok (.iconst (-1), 1) := by decide +kernel
theorem dX8_claimed_34 : decode cX8_claimed 34 = .ok (.if_icmp .ne 10, 3) := by decide +kernel
theorem dX8_claimed_37 : decode cX8_claimed 37 = .ok (.aload_n 0, 1) := by decide +kernel
theorem dX8_claimed_38 : decode cX8_claimed 38 = .ok (.getfield 282, 3) := by decide +kernel
theorem dX8_claimed_41 : decode cX8_claimed 41 = .ok (.goto 10, 3) := by decide +kernel
theorem dX8_claimed_44 : decode cX8_claimed 44 = .ok (.aload_n 0, 1) := by decide +kernel
theorem dX8_claimed_45 : decode cX8_claimed 45 = .ok (.getfield 101, 3) := by decide +kernel
theorem dX8_claimed_48 : decode cX8_claimed 48 = .ok (.iload 4, 2) := by decide +kernel
theorem dX8_claimed_50 : decode cX8_claimed 50 = .ok (.iaload, 1) := by decide +kernel
theorem dX8_claimed_51 : decode cX8_claimed 51 = .ok (.ireturn, 1) := by decide +kernel
theorem gX8_claimed_X8_claims : GoodIn wtX8_claimed (wsV RX8 287 RX8 yX8_claims wtX8_claims) := tb_good (tb_v0 wd_752 wd_753 wd_754 wd_5 wd_755)
theorem gX8_claimed_X8_isPolicy : GoodIn wtX8_claimed (wsV RX8 140 RX8 yX8_isPolicy wtX8_isPolicy) := tb_good (tb_v0 wd_198 wd_199 wd_200 wd_5 wd_201)
set_option maxHeartbeats 4000000 in
set_option maxRecDepth 100000 in
theorem m_X8_claimed (l : Launch) (D : va_G) (cI cJ : ClassId) (sz : Nat) (g g2 g3 g4 g5 g6 g7 g8 g9 g10 g12 g13 g15 g16 g17 g19 g20 g21 g22 g23 g24 g25 g26 g27 g28 g33 g34 g35 g36 g37 g38 g39 g41 g42 g44 g45 mn ml mv tt : Nat) (gi0 gi14 gi18 gi29 gi30 gi40 gi43 p0 p2 : Int32) (p1 : Int64) (G2 G3 G4 G5 G6 G7 G8 G10 G12 G13 G19 G20 G21 G22 G23 G24 G25 G26 G27 G28 G33 G34 G35 G36 : Nat → Int32) (G37 : Nat → Int64) (G39 : Nat → Int32) (li0 wo0 de0 ag0 : Nat → Nat) (hmn : mn ≤ 8) (hmL : ml ≤ 10) (hit : ∀ k, k < 10 → ∃ j : Nat, j < 8 ∧ G12 k = nI j) (hsu : ∀ k, k < 64 → ∃ j : Nat, j ≤ 1000001 ∧ G10 k = nI j) (hliv : nv G2 li0) (hlib : ∀ k, k < 8 → li0 k ≤ 1000000) (hwov : nv G5 wo0) (hwob : ∀ k, k < 8 → wo0 k ≤ 9000000) (hdev : nv G4 de0) (hdeb : ∀ k, k < 8 → de0 k ≤ 99999) (hagv : nv G3 ag0) (hagb : ∀ k, k < 8 → ag0 k ≤ 9000000) (hamt : ∀ k, k < 10 → ∃ j : Nat, j < 1000001 ∧ G13 k = nI j) (hLE : LE G19) (hLO : LO G20) (hLW : LW G25) (hSH : SH G27 tt) (htt : tt ≤ 1000000) (hmv : mv ≤ 8) : Met l yX8_claimed wtX8_claimed { frames := 9, cells := 0, slots := 0, locals := 216 } (cPc D cI cJ [.ref g, .int p0, .long p1, .int p2] sz [(oX8 g gi0 (nI mn) g2 g3 g4 g5 g6 g7 g8 g9 g10 (nI ml) g12 g13 gi14 g15 g16 g17 gi18 g19 g20 g21 g22 g23 g24 g25 g26 g27 g28 gi29 gi30 (nI mv) (nI tt) g33 g34 g35 g36 g37 g38 g39 gi40 g41 g42 gi43 g44 g45), (aIc cI g2 8 G2), (aIc cI g3 8 G3), (aIc cI g4 8 G4), (aIc cI g5 8 G5), (aIc cI g6 8 G6), (aIc cI g7 8 G7), (aIc cI g8 8 G8), (aIc cI g10 64 G10), (aIc cI g12 10 G12), (aIc cI g13 10 G13), (aIc cI g19 8 G19), (aIc cI g20 8 G20), (aIc cI g21 8 G21), (aIc cI g22 8 G22), (aIc cI g23 8 G23), (aIc cI g24 8 G24), (aIc cI g25 8 G25), (aIc cI g26 8 G26), (aIc cI g27 8 G27), (aIc cI g28 8 G28), (aIc cI g33 8 G33), (aIc cI g34 8 G34), (aIc cI g35 8 G35), (aIc cI g36 8 G36), (aJc cJ g37 8 G37), (aIc cI g39 8 G39)]) (cQi D (fun r u => ∃ (G19p G20p G21p G22p G23p G24p G25p G26p G27p G28p G33p G34p G35p G36p : Nat → Int32) (G37p : Nat → Int64) (gi29p gi30p gi18p : Int32) (mvp ttp : Nat) (gi0p : Int32) (G39p : Nat → Int32) (gi40p : Int32), (LE G19p) ∧ (LO G20p) ∧ (LW G25p) ∧ (SH G27p ttp) ∧ (ttp ≤ 1000000) ∧ (mvp ≤ 8) ∧ u = [(oX8 g gi0p (nI mn) g2 g3 g4 g5 g6 g7 g8 g9 g10 (nI ml) g12 g13 gi14 g15 g16 g17 gi18p g19 g20 g21 g22 g23 g24 g25 g26 g27 g28 gi29p gi30p (nI mvp) (nI ttp) g33 g34 g35 g36 g37 g38 g39 gi40p g41 g42 gi43 g44 g45), (aIc cI g2 8 G2), (aIc cI g3 8 G3), (aIc cI g4 8 G4), (aIc cI g5 8 G5), (aIc cI g6 8 G6), (aIc cI g7 8 G7), (aIc cI g8 8 G8), (aIc cI g10 64 G10), (aIc cI g12 10 G12), (aIc cI g13 10 G13), (aIc cI g19 8 G19p), (aIc cI g20 8 G20p), (aIc cI g21 8 G21p), (aIc cI g22 8 G22p), (aIc cI g23 8 G23p), (aIc cI g24 8 G24p), (aIc cI g25 8 G25p), (aIc cI g26 8 G26p), (aIc cI g27 8 G27p), (aIc cI g28 8 G28p), (aIc cI g33 8 G33p), (aIc cI g34 8 G34p), (aIc cI g35 8 G35p), (aIc cI g36 8 G36p), (aJc cJ g37 8 G37p), (aIc cI g39 8 G39p)]) (va_A [(oX8 g gi0 (nI mn) g2 g3 g4 g5 g6 g7 g8 g9 g10 (nI ml) g12 g13 gi14 g15 g16 g17 gi18 g19 g20 g21 g22 g23 g24 g25 g26 g27 g28 gi29 gi30 (nI mv) (nI tt) g33 g34 g35 g36 g37 g38 g39 gi40 g41 g42 gi43 g44 g45), (aIc cI g2 8 G2), (aIc cI g3 8 G3), (aIc cI g4 8 G4), (aIc cI g5 8 G5), (aIc cI g6 8 G6), (aIc cI g7 8 G7), (aIc cI g8 8 G8), (aIc cI g10 64 G10), (aIc cI g12 10 G12), (aIc cI g13 10 G13), (aIc cI g19 8 G19), (aIc cI g20 8 G20), (aIc cI g21 8 G21), (aIc cI g22 8 G22), (aIc cI g23 8 G23), (aIc cI g24 8 G24), (aIc cI g25 8 G25), (aIc cI g26 8 G26), (aIc cI g27 8 G27), (aIc cI g28 8 G28), (aIc cI g33 8 G33), (aIc cI g34 8 G34), (aIc cI g35 8 G35), (aIc cI g36 8 G36), (aJc cJ g37 8 G37), (aIc cI g39 8 G39)] sz)) 0 0 (va_A [(oX8 g gi0 (nI mn) g2 g3 g4 g5 g6 g7 g8 g9 g10 (nI ml) g12 g13 gi14 g15 g16 g17 gi18 g19 g20 g21 g22 g23 g24 g25 g26 g27 g28 gi29 gi30 (nI mv) (nI tt) g33 g34 g35 g36 g37 g38 g39 gi40 g41 g42 gi43 g44 g45), (aIc cI g2 8 G2), (aIc cI g3 8 G3), (aIc cI g4 8 G4), (aIc cI g5 8 G5), (aIc cI g6 8 G6), (aIc cI g7 8 G7), (aIc cI g8 8 G8), (aIc cI g10 64 G10), (aIc cI g12 10 G12), (aIc cI g13 10 G13), (aIc cI g19 8 G19), (aIc cI g20 8 G20), (aIc cI g21 8 G21), (aIc cI g22 8 G22), (aIc cI g23 8 G23), (aIc cI g24 8 G24), (aIc cI g25 8 G25), (aIc cI g26 8 G26), (aIc cI g27 8 G27), (aIc cI g28 8 G28), (aIc cI g33 8 G33), (aIc cI g34 8 G34), (aIc cI g35 8 G35), (aIc cI g36 8 G36), (aJc cJ g37 8 G37), (aIc cI g39 8 G39)] sz) := by
  refine k_ofW (Qc := cQi D (fun r u => ∃ (G19p G20p G21p G22p G23p G24p G25p G26p G27p G28p G33p G34p G35p G36p : Nat → Int32) (G37p : Nat → Int64) (gi29p gi30p gi18p : Int32) (mvp ttp : Nat) (gi0p : Int32) (G39p : Nat → Int32) (gi40p : Int32), (LE G19p) ∧ (LO G20p) ∧ (LW G25p) ∧ (SH G27p ttp) ∧ (ttp ≤ 1000000) ∧ (mvp ≤ 8) ∧ u = [(oX8 g gi0p (nI mn) g2 g3 g4 g5 g6 g7 g8 g9 g10 (nI ml) g12 g13 gi14 g15 g16 g17 gi18p g19 g20 g21 g22 g23 g24 g25 g26 g27 g28 gi29p gi30p (nI mvp) (nI ttp) g33 g34 g35 g36 g37 g38 g39 gi40p g41 g42 gi43 g44 g45), (aIc cI g2 8 G2), (aIc cI g3 8 G3), (aIc cI g4 8 G4), (aIc cI g5 8 G5), (aIc cI g6 8 G6), (aIc cI g7 8 G7), (aIc cI g8 8 G8), (aIc cI g10 64 G10), (aIc cI g12 10 G12), (aIc cI g13 10 G13), (aIc cI g19 8 G19p), (aIc cI g20 8 G20p), (aIc cI g21 8 G21p), (aIc cI g22 8 G22p), (aIc cI g23 8 G23p), (aIc cI g24 8 G24p), (aIc cI g25 8 G25p), (aIc cI g26 8 G26p), (aIc cI g27 8 G27p), (aIc cI g28 8 G28p), (aIc cI g33 8 G33p), (aIc cI g34 8 G34p), (aIc cI g35 8 G35p), (aIc cI g36 8 G36p), (aJc cJ g37 8 G37p), (aIc cI g39 8 G39p)])) (by decide) rfl (Nat.le_of_ble_eq_true rfl) ?_
  intro p e s m below meth c A ls hx hb hr hml hts hown hlk hnm hsz hE hP hD hS hA hl
  have hown : s.vm.findClass RX8 = some m.cls := hown
  have hiX8 : ∀ w ∈ u_ws RX8 TX8 46, w ∈ wtX8_claimed := fun w h => List.mem_cons_of_mem _ (iuX8 w h)
  have hl : lv_has ls 5 [(0, .ref g), (1, .int p0), (2, .long p1), (4, .int p2)] := hl
  refine lv_iload hx hb dX8_claimed_0 (lv_at hl 3 rfl) ?_
  refine lv_iconst (v := (-1)) hx hb dX8_claimed_2 (by decide) ?_
  refine lv_icmp_eq (tgt := 15) hx hb dX8_claimed_3 (by decide) (fun c1 => ?_) (fun c1 => ?_)
  · skip
    refine lv_aload_n hx hb dX8_claimed_15 rfl (lv_at hl 0 rfl) ?_
    refine lv_iload_n hx hb dX8_claimed_16 rfl (lv_at hl 1 rfl) ?_
    refine lv_lload_n hx hb dX8_claimed_17 rfl (lv_at hl 2 rfl) ?_
    refine k_i (va_runV (As := [.int p0, .long p1]) (rest := []) ⟨hx, hb, hml, hown, hts⟩ (m_X8_claims l D cI cJ (s.heap).size g g2 g3 g4 g5 g6 g7 g8 g9 g10 g12 g13 g15 g16 g17 g19 g20 g21 g22 g23 g24 g25 g26 g27 g28 g33 g34 g35 g36 g37 g38 g39 g41 g42 g44 g45 mn ml mv tt gi0 gi14 gi18 gi29 gi30 gi40 gi43 p0 p1 G2 G3 G4 G5 G6 G7 G8 G10 G12 G13 G19 G20 G21 G22 G23 G24 G25 G26 G27 G28 G33 G34 G35 G36 G37 G39 li0 wo0 de0 ag0 hmn hmL hit hsu hliv hlib hwov hwob hdev hdeb hagv hagb hamt hLE hLO hLW hSH htt hmv) (cwV 2 hts gX8_claimed_X8_claims rfl rfl rfl (by decide +kernel) ⟨Nat.le_of_ble_eq_true rfl, Nat.le_of_ble_eq_true rfl⟩) (k_preV hE hP hD [0, 1, 2, 3, 4, 5, 6, 7, 8, 9, 10, 11, 12, 13, 14, 15, 16, 17, 18, 19, 20, 21, 22, 23, 24, 25, 26] (by decide +kernel) rfl 0 rfl rfl) rfl rfl hl.1 rfl (lv_room (Nat.le_of_ble_eq_true rfl)) dX8_claimed_18 ⟨Nat.le_of_ble_eq_true rfl, Nat.le_of_ble_eq_true rfl⟩) hP hD hS hA [0, 1, 2, 3, 4, 5, 6, 7, 8, 9, 10, 11, 12, 13, 14, 15, 16, 17, 18, 19, 20, 21, 22, 23, 24, 25, 26] [] rfl (wr := []) rfl (by decide +kernel) (by decide +kernel) (fun r2 u H locs hw3 hP hD hS => ?_)
    obtain ⟨z4, z5, z6, z7, z8, z9, z10, z11, z12, z13, z14, z15, z16, z17, z18, z19, z20, z21, z22, z23, z24, z25, z26, hz27, hz28, hz29, hz30, hz31, hz32, hz33, rfl⟩ := hw3
    refine k_re (w := [(oX8 g z24 (nI mn) g2 g3 g4 g5 g6 g7 g8 g9 g10 (nI ml) g12 g13 gi14 g15 g16 g17 z21 g19 g20 g21 g22 g23 g24 g25 g26 g27 g28 z19 z20 (nI z22) (nI z23) g33 g34 g35 g36 g37 g38 g39 z26 g41 g42 gi43 g44 g45), (aIc cI g2 8 G2), (aIc cI g3 8 G3), (aIc cI g4 8 G4), (aIc cI g5 8 G5), (aIc cI g6 8 G6), (aIc cI g7 8 G7), (aIc cI g8 8 G8), (aIc cI g10 64 G10), (aIc cI g12 10 G12), (aIc cI g13 10 G13), (aIc cI g19 8 z4), (aIc cI g20 8 z5), (aIc cI g21 8 z6), (aIc cI g22 8 z7), (aIc cI g23 8 z8), (aIc cI g24 8 z9), (aIc cI g25 8 z10), (aIc cI g26 8 z11), (aIc cI g27 8 z12), (aIc cI g28 8 z13), (aIc cI g33 8 z14), (aIc cI g34 8 z15), (aIc cI g35 8 z16), (aIc cI g36 8 z17), (aJc cJ g37 8 z18), (aIc cI g39 8 z25)]) hP hD (fun hP hD => ?_)
    refine lv_if_ne (tgt := 31) hx hb dX8_claimed_21 (by decide) (fun c34 => ?_) (fun c34 => ?_)
    · skip
      refine lv_iload hx hb dX8_claimed_31 (lv_at hl 3 rfl) ?_
      refine lv_iconst (v := (-1)) hx hb dX8_claimed_33 (by decide) ?_
      refine lv_icmp_ne (tgt := 44) hx hb dX8_claimed_34 (by decide) (fun c35 => absurd c1 c35) (fun c35a => ?_)
      refine lv_aload_n hx hb dX8_claimed_37 rfl (lv_at hl 0 rfl) ?_
      refine va_get (D := D) (ci := 8) (v := .int z26) (C := RX8) (T := TX8) (N := 46) hx hb hts hiX8 hown hE.1 hP 0 rfl rfl 40 (by decide) (hts _ (List.mem_cons_of_mem _ wd_751)) (fun _ h9 => h9) rfl dX8_claimed_38 ?_
      refine lv_goto (tgt := 51) hx hb dX8_claimed_41 (by decide) ?_
      refine k_iret (u := [(oX8 g z24 (nI mn) g2 g3 g4 g5 g6 g7 g8 g9 g10 (nI ml) g12 g13 gi14 g15 g16 g17 z21 g19 g20 g21 g22 g23 g24 g25 g26 g27 g28 z19 z20 (nI z22) (nI z23) g33 g34 g35 g36 g37 g38 g39 z26 g41 g42 gi43 g44 g45), (aIc cI g2 8 G2), (aIc cI g3 8 G3), (aIc cI g4 8 G4), (aIc cI g5 8 G5), (aIc cI g6 8 G6), (aIc cI g7 8 G7), (aIc cI g8 8 G8), (aIc cI g10 64 G10), (aIc cI g12 10 G12), (aIc cI g13 10 G13), (aIc cI g19 8 z4), (aIc cI g20 8 z5), (aIc cI g21 8 z6), (aIc cI g22 8 z7), (aIc cI g23 8 z8), (aIc cI g24 8 z9), (aIc cI g25 8 z10), (aIc cI g26 8 z11), (aIc cI g27 8 z12), (aIc cI g28 8 z13), (aIc cI g33 8 z14), (aIc cI g34 8 z15), (aIc cI g35 8 z16), (aIc cI g36 8 z17), (aJc cJ g37 8 z18), (aIc cI g39 8 z25)]) hx hb hr hlk hP hD hS dX8_claimed_51 ?_
      exact ⟨z4, z5, z6, z7, z8, z9, z10, z11, z12, z13, z14, z15, z16, z17, z18, z19, z20, z21, z22, z23, z24, z25, z26, hz27, hz28, hz29, hz30, hz31, hz32, rfl⟩
    · skip
      refine lv_aload_n hx hb dX8_claimed_24 rfl (lv_at hl 0 rfl) ?_
      refine lv_iconst (v := 0) hx hb dX8_claimed_25 (by decide) ?_
      refine va_put (D := D) (ci := 8) (v := .int 0) (ty := .int) (C := RX8) (T := TX8) (N := 46) hx hb hts hiX8 tyX8 tyX8_ok nmX8 hown hE.1 hP hD hS 0 rfl rfl 0 (by decide) (hts _ (List.mem_cons_of_mem _ wd_171)) (fun _ h9 => h9) rfl (by decide +kernel) rfl rfl (Nat.le_of_ble_eq_true rfl) dX8_claimed_26 (fun H locs hP hD hS => ?_)
      refine k_re (w := [(oX8 g 0 (nI mn) g2 g3 g4 g5 g6 g7 g8 g9 g10 (nI ml) g12 g13 gi14 g15 g16 g17 z21 g19 g20 g21 g22 g23 g24 g25 g26 g27 g28 z19 z20 (nI z22) (nI z23) g33 g34 g35 g36 g37 g38 g39 z26 g41 g42 gi43 g44 g45), (aIc cI g2 8 G2), (aIc cI g3 8 G3), (aIc cI g4 8 G4), (aIc cI g5 8 G5), (aIc cI g6 8 G6), (aIc cI g7 8 G7), (aIc cI g8 8 G8), (aIc cI g10 64 G10), (aIc cI g12 10 G12), (aIc cI g13 10 G13), (aIc cI g19 8 z4), (aIc cI g20 8 z5), (aIc cI g21 8 z6), (aIc cI g22 8 z7), (aIc cI g23 8 z8), (aIc cI g24 8 z9), (aIc cI g25 8 z10), (aIc cI g26 8 z11), (aIc cI g27 8 z12), (aIc cI g28 8 z13), (aIc cI g33 8 z14), (aIc cI g34 8 z15), (aIc cI g35 8 z16), (aIc cI g36 8 z17), (aJc cJ g37 8 z18), (aIc cI g39 8 z25)]) hP hD (fun hP hD => ?_)
      refine lv_iconst (v := (-1)) hx hb dX8_claimed_29 (by decide) ?_
      refine k_iret (u := [(oX8 g 0 (nI mn) g2 g3 g4 g5 g6 g7 g8 g9 g10 (nI ml) g12 g13 gi14 g15 g16 g17 z21 g19 g20 g21 g22 g23 g24 g25 g26 g27 g28 z19 z20 (nI z22) (nI z23) g33 g34 g35 g36 g37 g38 g39 z26 g41 g42 gi43 g44 g45), (aIc cI g2 8 G2), (aIc cI g3 8 G3), (aIc cI g4 8 G4), (aIc cI g5 8 G5), (aIc cI g6 8 G6), (aIc cI g7 8 G7), (aIc cI g8 8 G8), (aIc cI g10 64 G10), (aIc cI g12 10 G12), (aIc cI g13 10 G13), (aIc cI g19 8 z4), (aIc cI g20 8 z5), (aIc cI g21 8 z6), (aIc cI g22 8 z7), (aIc cI g23 8 z8), (aIc cI g24 8 z9), (aIc cI g25 8 z10), (aIc cI g26 8 z11), (aIc cI g27 8 z12), (aIc cI g28 8 z13), (aIc cI g33 8 z14), (aIc cI g34 8 z15), (aIc cI g35 8 z16), (aIc cI g36 8 z17), (aJc cJ g37 8 z18), (aIc cI g39 8 z25)]) hx hb hr hlk hP hD hS dX8_claimed_30 ?_
      exact ⟨z4, z5, z6, z7, z8, z9, z10, z11, z12, z13, z14, z15, z16, z17, z18, z19, z20, z21, z22, z23, 0, z25, z26, hz27, hz28, hz29, hz30, hz31, hz32, rfl⟩
  · skip
    refine lv_aload_n hx hb dX8_claimed_6 rfl (lv_at hl 0 rfl) ?_
    refine lv_iload hx hb dX8_claimed_7 (lv_at hl 3 rfl) ?_
    refine k_iS (va_runV (As := [.int p2]) (rest := []) ⟨hx, hb, hml, hown, hts⟩ (m_X8_isPolicy l D cI cJ (s.heap).size g g2 g3 g4 g5 g6 g7 g8 g9 g10 g12 g13 g15 g16 g17 g19 g20 g21 g22 g23 g24 g25 g26 g27 g28 g33 g34 g35 g36 g37 g38 g39 g41 g42 g44 g45 mn ml mv gi0 gi14 gi18 gi29 gi30 (nI tt) gi40 gi43 p2) (cwV 1 hts gX8_claimed_X8_isPolicy rfl rfl rfl (by decide +kernel) ⟨Nat.le_of_ble_eq_true rfl, Nat.le_of_ble_eq_true rfl⟩) (k_preV hE hP hD [0] (by decide +kernel) rfl 0 rfl rfl) rfl rfl hl.1 rfl (lv_room (Nat.le_of_ble_eq_true rfl)) dX8_claimed_9 ⟨Nat.le_of_ble_eq_true rfl, Nat.le_of_ble_eq_true rfl⟩) hP hD hS hA [0] rfl (fun _ _ ⟨_, h9⟩ => h9) (fun r36 H locs hw37 hP hD hS => ?_)
    obtain ⟨hb38, -⟩ := hw37
    refine lv_if_eq (tgt := 24) hx hb dX8_claimed_12 (by decide) (fun c39 => ?_) (fun c39 => ?_)
    · skip
      have hc39 : ¬ (0 ≤ p2 ∧ p2 ≤ nI mn - 1) := bz_0 hb38 c39
      refine lv_aload_n hx hb dX8_claimed_24 rfl (lv_at hl 0 rfl) ?_
      refine lv_iconst (v := 0) hx hb dX8_claimed_25 (by decide) ?_
      refine va_put (D := D) (ci := 8) (v := .int 0) (ty := .int) (C := RX8) (T := TX8) (N := 46) hx hb hts hiX8 tyX8 tyX8_ok nmX8 hown hE.1 hP hD hS 0 rfl rfl 0 (by decide) (hts _ (List.mem_cons_of_mem _ wd_171)) (fun _ h9 => h9) rfl (by decide +kernel) rfl rfl (Nat.le_of_ble_eq_true rfl) dX8_claimed_26 (fun H locs hP hD hS => ?_)
      refine k_re (w := [(oX8 g 0 (nI mn) g2 g3 g4 g5 g6 g7 g8 g9 g10 (nI ml) g12 g13 gi14 g15 g16 g17 gi18 g19 g20 g21 g22 g23 g24 g25 g26 g27 g28 gi29 gi30 (nI mv) (nI tt) g33 g34 g35 g36 g37 g38 g39 gi40 g41 g42 gi43 g44 g45), (aIc cI g2 8 G2), (aIc cI g3 8 G3), (aIc cI g4 8 G4), (aIc cI g5 8 G5), (aIc cI g6 8 G6), (aIc cI g7 8 G7), (aIc cI g8 8 G8), (aIc cI g10 64 G10), (aIc cI g12 10 G12), (aIc cI g13 10 G13), (aIc cI g19 8 G19), (aIc cI g20 8 G20), (aIc cI g21 8 G21), (aIc cI g22 8 G22), (aIc cI g23 8 G23), (aIc cI g24 8 G24), (aIc cI g25 8 G25), (aIc cI g26 8 G26), (aIc cI g27 8 G27), (aIc cI g28 8 G28), (aIc cI g33 8 G33), (aIc cI g34 8 G34), (aIc cI g35 8 G35), (aIc cI g36 8 G36), (aJc cJ g37 8 G37), (aIc cI g39 8 G39)]) hP hD (fun hP hD => ?_)
      refine lv_iconst (v := (-1)) hx hb dX8_claimed_29 (by decide) ?_
      refine k_iret (u := [(oX8 g 0 (nI mn) g2 g3 g4 g5 g6 g7 g8 g9 g10 (nI ml) g12 g13 gi14 g15 g16 g17 gi18 g19 g20 g21 g22 g23 g24 g25 g26 g27 g28 gi29 gi30 (nI mv) (nI tt) g33 g34 g35 g36 g37 g38 g39 gi40 g41 g42 gi43 g44 g45), (aIc cI g2 8 G2), (aIc cI g3 8 G3), (aIc cI g4 8 G4), (aIc cI g5 8 G5), (aIc cI g6 8 G6), (aIc cI g7 8 G7), (aIc cI g8 8 G8), (aIc cI g10 64 G10), (aIc cI g12 10 G12), (aIc cI g13 10 G13), (aIc cI g19 8 G19), (aIc cI g20 8 G20), (aIc cI g21 8 G21), (aIc cI g22 8 G22), (aIc cI g23 8 G23), (aIc cI g24 8 G24), (aIc cI g25 8 G25), (aIc cI g26 8 G26), (aIc cI g27 8 G27), (aIc cI g28 8 G28), (aIc cI g33 8 G33), (aIc cI g34 8 G34), (aIc cI g35 8 G35), (aIc cI g36 8 G36), (aJc cJ g37 8 G37), (aIc cI g39 8 G39)]) hx hb hr hlk hP hD hS dX8_claimed_30 ?_
      exact ⟨G19, G20, G21, G22, G23, G24, G25, G26, G27, G28, G33, G34, G35, G36, G37, gi29, gi30, gi18, mv, tt, 0, G39, gi40, hLE, hLO, hLW, hSH, htt, hmv, rfl⟩
    · skip
      have hc39 : 0 ≤ p2 ∧ p2 ≤ nI mn - 1 := bz_1 hb38 c39
      refine lv_aload_n hx hb dX8_claimed_15 rfl (lv_at hl 0 rfl) ?_
      refine lv_iload_n hx hb dX8_claimed_16 rfl (lv_at hl 1 rfl) ?_
      refine lv_lload_n hx hb dX8_claimed_17 rfl (lv_at hl 2 rfl) ?_
      refine k_i (va_runV (As := [.int p0, .long p1]) (rest := []) ⟨hx, hb, hml, hown, hts⟩ (m_X8_claims l D cI cJ H.size g g2 g3 g4 g5 g6 g7 g8 g9 g10 g12 g13 g15 g16 g17 g19 g20 g21 g22 g23 g24 g25 g26 g27 g28 g33 g34 g35 g36 g37 g38 g39 g41 g42 g44 g45 mn ml mv tt gi0 gi14 gi18 gi29 gi30 gi40 gi43 p0 p1 G2 G3 G4 G5 G6 G7 G8 G10 G12 G13 G19 G20 G21 G22 G23 G24 G25 G26 G27 G28 G33 G34 G35 G36 G37 G39 li0 wo0 de0 ag0 hmn hmL hit hsu hliv hlib hwov hwob hdev hdeb hagv hagb hamt hLE hLO hLW hSH htt hmv) (cwV 2 hts gX8_claimed_X8_claims rfl rfl rfl (by decide +kernel) ⟨Nat.le_of_ble_eq_true rfl, Nat.le_of_ble_eq_true rfl⟩) (k_preV hE hP hD [0, 1, 2, 3, 4, 5, 6, 7, 8, 9, 10, 11, 12, 13, 14, 15, 16, 17, 18, 19, 20, 21, 22, 23, 24, 25, 26] (by decide +kernel) rfl 0 rfl rfl) rfl rfl hl.1 rfl (lv_room (Nat.le_of_ble_eq_true rfl)) dX8_claimed_18 ⟨Nat.le_of_ble_eq_true rfl, Nat.le_of_ble_eq_true rfl⟩) hP hD hS hA [0, 1, 2, 3, 4, 5, 6, 7, 8, 9, 10, 11, 12, 13, 14, 15, 16, 17, 18, 19, 20, 21, 22, 23, 24, 25, 26] [] rfl (wr := []) rfl (by decide +kernel) (by decide +kernel) (fun r40 u H locs hw41 hP hD hS => ?_)
      obtain ⟨z42, z43, z44, z45, z46, z47, z48, z49, z50, z51, z52, z53, z54, z55, z56, z57, z58, z59, z60, z61, z62, z63, z64, hz65, hz66, hz67, hz68, hz69, hz70, hz71, rfl⟩ := hw41
      refine k_re (w := [(oX8 g z62 (nI mn) g2 g3 g4 g5 g6 g7 g8 g9 g10 (nI ml) g12 g13 gi14 g15 g16 g17 z59 g19 g20 g21 g22 g23 g24 g25 g26 g27 g28 z57 z58 (nI z60) (nI z61) g33 g34 g35 g36 g37 g38 g39 z64 g41 g42 gi43 g44 g45), (aIc cI g2 8 G2), (aIc cI g3 8 G3), (aIc cI g4 8 G4), (aIc cI g5 8 G5), (aIc cI g6 8 G6), (aIc cI g7 8 G7), (aIc cI g8 8 G8), (aIc cI g10 64 G10), (aIc cI g12 10 G12), (aIc cI g13 10 G13), (aIc cI g19 8 z42), (aIc cI g20 8 z43), (aIc cI g21 8 z44), (aIc cI g22 8 z45), (aIc cI g23 8 z46), (aIc cI g24 8 z47), (aIc cI g25 8 z48), (aIc cI g26 8 z49), (aIc cI g27 8 z50), (aIc cI g28 8 z51), (aIc cI g33 8 z52), (aIc cI g34 8 z53), (aIc cI g35 8 z54), (aIc cI g36 8 z55), (aJc cJ g37 8 z56), (aIc cI g39 8 z63)]) hP hD (fun hP hD => ?_)
      refine lv_if_ne (tgt := 31) hx hb dX8_claimed_21 (by decide) (fun c72 => ?_) (fun c72 => ?_)
      · skip
        refine lv_iload hx hb dX8_claimed_31 (lv_at hl 3 rfl) ?_
        refine lv_iconst (v := (-1)) hx hb dX8_claimed_33 (by decide) ?_
        refine lv_icmp_ne (tgt := 44) hx hb dX8_claimed_34 (by decide) (fun c73a => ?_) (fun c73 => absurd c73 c1)
        obtain ⟨pj, hpj, epj⟩ := wi_n (by omega) hc39
        rw [epj] at hl
        refine lv_aload_n hx hb dX8_claimed_44 rfl (lv_at hl 0 rfl) ?_
        refine va_get (D := D) (ci := 8) (v := .ref g39) (C := RX8) (T := TX8) (N := 46) hx hb hts hiX8 hown hE.1 hP 0 rfl rfl 39 (by decide) (hts _ (List.mem_cons_of_mem _ wd_146)) (fun _ h9 => h9) rfl dX8_claimed_45 ?_
        refine lv_iload hx hb dX8_claimed_48 (lv_at hl 3 rfl) ?_
        refine va_iald hx hb hE.1 hP 26 0 rfl rfl (vp_in_nI (n := pj) (by omega) (by decide)) dX8_claimed_50 ?_
        refine lv_topi (fun v74 ev74 => ?_)
        refine k_iret (u := [(oX8 g z62 (nI mn) g2 g3 g4 g5 g6 g7 g8 g9 g10 (nI ml) g12 g13 gi14 g15 g16 g17 z59 g19 g20 g21 g22 g23 g24 g25 g26 g27 g28 z57 z58 (nI z60) (nI z61) g33 g34 g35 g36 g37 g38 g39 z64 g41 g42 gi43 g44 g45), (aIc cI g2 8 G2), (aIc cI g3 8 G3), (aIc cI g4 8 G4), (aIc cI g5 8 G5), (aIc cI g6 8 G6), (aIc cI g7 8 G7), (aIc cI g8 8 G8), (aIc cI g10 64 G10), (aIc cI g12 10 G12), (aIc cI g13 10 G13), (aIc cI g19 8 z42), (aIc cI g20 8 z43), (aIc cI g21 8 z44), (aIc cI g22 8 z45), (aIc cI g23 8 z46), (aIc cI g24 8 z47), (aIc cI g25 8 z48), (aIc cI g26 8 z49), (aIc cI g27 8 z50), (aIc cI g28 8 z51), (aIc cI g33 8 z52), (aIc cI g34 8 z53), (aIc cI g35 8 z54), (aIc cI g36 8 z55), (aJc cJ g37 8 z56), (aIc cI g39 8 z63)]) hx hb hr hlk hP hD hS dX8_claimed_51 ?_
        exact ⟨z42, z43, z44, z45, z46, z47, z48, z49, z50, z51, z52, z53, z54, z55, z56, z57, z58, z59, z60, z61, z62, z63, z64, hz65, hz66, hz67, hz68, hz69, hz70, rfl⟩
      · skip
        refine lv_aload_n hx hb dX8_claimed_24 rfl (lv_at hl 0 rfl) ?_
        refine lv_iconst (v := 0) hx hb dX8_claimed_25 (by decide) ?_
        refine va_put (D := D) (ci := 8) (v := .int 0) (ty := .int) (C := RX8) (T := TX8) (N := 46) hx hb hts hiX8 tyX8 tyX8_ok nmX8 hown hE.1 hP hD hS 0 rfl rfl 0 (by decide) (hts _ (List.mem_cons_of_mem _ wd_171)) (fun _ h9 => h9) rfl (by decide +kernel) rfl rfl (Nat.le_of_ble_eq_true rfl) dX8_claimed_26 (fun H locs hP hD hS => ?_)
        refine k_re (w := [(oX8 g 0 (nI mn) g2 g3 g4 g5 g6 g7 g8 g9 g10 (nI ml) g12 g13 gi14 g15 g16 g17 z59 g19 g20 g21 g22 g23 g24 g25 g26 g27 g28 z57 z58 (nI z60) (nI z61) g33 g34 g35 g36 g37 g38 g39 z64 g41 g42 gi43 g44 g45), (aIc cI g2 8 G2), (aIc cI g3 8 G3), (aIc cI g4 8 G4), (aIc cI g5 8 G5), (aIc cI g6 8 G6), (aIc cI g7 8 G7), (aIc cI g8 8 G8), (aIc cI g10 64 G10), (aIc cI g12 10 G12), (aIc cI g13 10 G13), (aIc cI g19 8 z42), (aIc cI g20 8 z43), (aIc cI g21 8 z44), (aIc cI g22 8 z45), (aIc cI g23 8 z46), (aIc cI g24 8 z47), (aIc cI g25 8 z48), (aIc cI g26 8 z49), (aIc cI g27 8 z50), (aIc cI g28 8 z51), (aIc cI g33 8 z52), (aIc cI g34 8 z53), (aIc cI g35 8 z54), (aIc cI g36 8 z55), (aJc cJ g37 8 z56), (aIc cI g39 8 z63)]) hP hD (fun hP hD => ?_)
        refine lv_iconst (v := (-1)) hx hb dX8_claimed_29 (by decide) ?_
        refine k_iret (u := [(oX8 g 0 (nI mn) g2 g3 g4 g5 g6 g7 g8 g9 g10 (nI ml) g12 g13 gi14 g15 g16 g17 z59 g19 g20 g21 g22 g23 g24 g25 g26 g27 g28 z57 z58 (nI z60) (nI z61) g33 g34 g35 g36 g37 g38 g39 z64 g41 g42 gi43 g44 g45), (aIc cI g2 8 G2), (aIc cI g3 8 G3), (aIc cI g4 8 G4), (aIc cI g5 8 G5), (aIc cI g6 8 G6), (aIc cI g7 8 G7), (aIc cI g8 8 G8), (aIc cI g10 64 G10), (aIc cI g12 10 G12), (aIc cI g13 10 G13), (aIc cI g19 8 z42), (aIc cI g20 8 z43), (aIc cI g21 8 z44), (aIc cI g22 8 z45), (aIc cI g23 8 z46), (aIc cI g24 8 z47), (aIc cI g25 8 z48), (aIc cI g26 8 z49), (aIc cI g27 8 z50), (aIc cI g28 8 z51), (aIc cI g33 8 z52), (aIc cI g34 8 z53), (aIc cI g35 8 z54), (aIc cI g36 8 z55), (aJc cJ g37 8 z56), (aIc cI g39 8 z63)]) hx hb hr hlk hP hD hS dX8_claimed_30 ?_
        exact ⟨z42, z43, z44, z45, z46, z47, z48, z49, z50, z51, z52, z53, z54, z55, z56, z57, z58, z59, z60, z61, 0, z63, z64, hz65, hz66, hz67, hz68, hz69, hz70, rfl⟩

