/-- the caps of a level: of those that stand on it, within what is left -/
def CP (f lev : Nat → Int32) (le0 : Nat → Nat) (a0 i : Nat) : Prop := ∃ c0 : Nat → Nat, ∀ k, k < i → f k = nI (c0 k) ∧ c0 k ≤ 1000000 ∧ (c0 k = 0 ∨ (lev k = nI a0 ∧ c0 k ≤ le0 k))
theorem cp_0 {f lev : Nat → Int32} {le0 : Nat → Nat} {a0 : Nat} : CP f lev le0 a0 0 := ⟨fun _ => 0, fun k hk => absurd hk (Nat.not_lt_zero k)⟩
theorem cp_up {f lev : Nat → Int32} {le0 : Nat → Nat} {a0 i x : Nat} (hi : i < 8) (H : CP f lev le0 a0 i) (hx : x ≤ 1000000) (h : x = 0 ∨ (lev i = nI a0 ∧ x ≤ le0 i)) : CP (upd f (Int32.toNatClampNeg (nI i)) (nI x)) lev le0 a0 (i + 1) := by
  obtain ⟨c0, hc⟩ := H
  refine ⟨fun k => if k = i then x else c0 k, fun k hk => ?_⟩
  rw [nI_clamp (by omega)]
  dsimp only
  by_cases e : k = i
  · subst e; rw [pk_us, if_pos rfl]; exact ⟨rfl, hx, h⟩
  · rw [pk_un e, if_neg e]; exact hc k (by omega)
theorem cp_end {f lev : Nat → Int32} {le0 : Nat → Nat} {a0 : Nat} (H : CP f lev le0 a0 8) : ∃ c0 : Nat → Nat, nv f c0 ∧ (∀ k, k < 8 → c0 k ≤ 1000000) ∧ (∀ k, k < 8 → c0 k = 0 ∨ (lev k = nI a0 ∧ c0 k ≤ le0 k)) := by
  obtain ⟨c0, hc⟩ := H
  exact ⟨c0, fun k hk => (hc k hk).1, fun k hk => (hc k hk).2.1, fun k hk => (hc k hk).2.2⟩
/-- a row to which another is being added -/
def AD (f : Nat → Int32) (s0 pt : Nat → Nat) (i : Nat) : Prop := ∀ k, k < 8 → f k = nI (if k < i then s0 k + pt k else s0 k)
theorem ad_0 {f : Nat → Int32} {s0 pt : Nat → Nat} (h : nv f s0) : AD f s0 pt 0 := fun k hk => by rw [if_neg (by omega)]; exact h k hk
theorem ad_at {f : Nat → Int32} {s0 pt : Nat → Nat} {i : Nat} (h : AD f s0 pt i) (hi : i < 8) : f (Int32.toNatClampNeg (nI i)) = nI (s0 i) := by
  rw [nI_clamp (by omega), h i hi, if_neg (by omega)]
theorem ad_up {f : Nat → Int32} {s0 pt : Nat → Nat} {i : Nat} (h : AD f s0 pt i) (hi : i < 8) : AD (upd f (Int32.toNatClampNeg (nI i)) (nI (s0 i + pt i))) s0 pt (i + 1) := by
  intro k hk
  rw [nI_clamp (by omega)]
  by_cases e : k = i
  · subst e; rw [pk_us, if_pos (by omega)]
  · rw [pk_un e, h k hk]
    by_cases q : k < i
    · rw [if_pos q, if_pos (by omega)]
    · rw [if_neg q, if_neg (by omega)]
theorem ad_end {f : Nat → Int32} {s0 pt : Nat → Nat} (h : AD f s0 pt 8) : nv f (fun k => s0 k + pt k) := fun k hk => by
  have := h k hk
  rwa [if_pos hk] at this
theorem sl_fin {f lev : Nat → Int32} {s0 pt c0 le0 : Nat → Nat} {a0 du : Nat} (h : AD f s0 pt 8) (hsum : sm pt 8 = du) (hpc : ∀ k, k < 8 → pt k ≤ c0 k) (hcx : ∀ k, k < 8 → c0 k = 0 ∨ (lev k = nI a0 ∧ c0 k ≤ le0 k)) : ∃ s1 : Nat → Nat, nv f s1 ∧ sm s1 8 = sm s0 8 + du ∧ (∀ k, k < 8 → s1 k = s0 k ∨ (lev k = nI a0 ∧ s1 k ≤ s0 k + le0 k)) := by
  refine ⟨_, ad_end h, by rw [sm_add, hsum], fun k hk => ?_⟩
  have h1 := hpc k hk
  rcases hcx k hk with q | ⟨q, q2⟩
  · exact Or.inl (by omega)
  · exact Or.inr ⟨q, by omega⟩
theorem dX8_settlesLevel_0 : decode cX8_settlesLevel 0 = .ok (.aload_n 0, 1) := by decide +kernel
theorem dX8_settlesLevel_1 : decode cX8_settlesLevel 1 = .ok (.getfield 82, 3) := by decide +kernel
theorem dX8_settlesLevel_4 : decode cX8_settlesLevel 4 = .ok (.iload_n 2, 1) := by decide +kernel
theorem dX8_settlesLevel_5 : decode cX8_settlesLevel 5 = .ok (.iload_n 3, 1) := by decide +kernel
theorem dX8_settlesLevel_6 : decode cX8_settlesLevel 6 = .ok (.iastore, 1) := by decide +kernel
theorem dX8_settlesLevel_7 : decode cX8_settlesLevel 7 = .ok (.iconst 0, 1) := by decide +kernel
theorem dX8_settlesLevel_8 : decode cX8_settlesLevel 8 = .ok (.istore 4, 2) := by decide +kernel
theorem dX8_settlesLevel_10 : decode cX8_settlesLevel 10 = .ok (.iload 4, 2) := by decide +kernel
theorem dX8_settlesLevel_12 : decode cX8_settlesLevel 12 = .ok (.bipush 8, 2) := by decide +kernel
theorem dX8_settlesLevel_14 : decode cX8_settlesLevel 14 = .ok (.if_icmp .ge 99, 3) := by decide +kernel
theorem dX8_settlesLevel_17 : decode cX8_settlesLevel 17 = .ok (.aload_n 0, 1) := by decide +kernel
theorem dX8_settlesLevel_18 : decode cX8_settlesLevel 18 = .ok (.getfield 162, 3) := by decide +kernel
theorem dX8_settlesLevel_21 : decode cX8_settlesLevel 21 = .ok (.aload_n 0, 1) := by decide +kernel
theorem dX8_settlesLevel_22 : decode cX8_settlesLevel 22 = .ok (.getfield 168, 3) := by decide +kernel
theorem dX8_settlesLevel_25 : decode cX8_settlesLevel 25 = .ok (.iconst (-1), 1) := by decide +kernel
theorem dX8_settlesLevel_26 : decode cX8_settlesLevel 26 = .ok (.ixor, 1) := by decide +kernel
theorem dX8_settlesLevel_27 : decode cX8_settlesLevel 27 = .ok (.iand, 1) := by decide +kernel
theorem dX8_settlesLevel_28 : decode cX8_settlesLevel 28 = .ok (.iload 4, 2) := by decide +kernel
theorem dX8_settlesLevel_30 : decode cX8_settlesLevel 30 = .ok (.invokestatic 154, 3) := by decide +kernel
theorem dX8_settlesLevel_33 : decode cX8_settlesLevel 33 = .ok (.ifCond .eq 18, 3) := by decide +kernel
theorem dX8_settlesLevel_36 : decode cX8_settlesLevel 36 = .ok (.aload_n 0, 1) := by decide +kernel
theorem dX8_settlesLevel_37 : decode cX8_settlesLevel 37 = .ok (.getfield 70, 3) := by decide +kernel
theorem dX8_settlesLevel_40 : decode cX8_settlesLevel 40 = .ok (.iload 4, 2) := by decide +kernel
theorem dX8_settlesLevel_42 : decode cX8_settlesLevel 42 = .ok (.iaload, 1) := by decide +kernel
theorem dX8_settlesLevel_43 : decode cX8_settlesLevel 43 = .ok (.iload_n 2, 1) := by decide +kernel
theorem dX8_settlesLevel_44 : decode cX8_settlesLevel 44 = .ok (.if_icmp .ne 7, 3) := by decide +kernel
theorem dX8_settlesLevel_47 : decode cX8_settlesLevel 47 = .ok (.iconst 1, 1) := by decide +kernel
theorem dX8_settlesLevel_48 : decode cX8_settlesLevel 48 = .ok (.goto 4, 3) := by decide +kernel
theorem dX8_settlesLevel_51 : decode cX8_settlesLevel 51 = .ok (.iconst 0, 1) := by decide +kernel
theorem dX8_settlesLevel_52 : decode cX8_settlesLevel 52 = .ok (.istore 5, 2) := by decide +kernel
theorem dX8_settlesLevel_54 : decode cX8_settlesLevel 54 = .ok (.aload_n 0, 1) := by decide +kernel
theorem dX8_settlesLevel_55 : decode cX8_settlesLevel 55 = .ok (.getfield 88, 3) := by decide +kernel
theorem dX8_settlesLevel_58 : decode cX8_settlesLevel 58 = .ok (.iload 4, 2) := by decide +kernel
theorem dX8_settlesLevel_60 : decode cX8_settlesLevel 60 = .ok (.iload 5, 2) := by decide +kernel
theorem dX8_settlesLevel_62 : decode cX8_settlesLevel 62 = .ok (.ifCond .eq 14, 3) := by decide +kernel
theorem dX8_settlesLevel_65 : decode cX8_settlesLevel 65 = .ok (.aload_n 0, 1) := by decide +kernel
theorem dX8_settlesLevel_66 : decode cX8_settlesLevel 66 = .ok (.iload 4, 2) := by decide +kernel
theorem dX8_settlesLevel_68 : decode cX8_settlesLevel 68 = .ok (.iload_n 1, 1) := by decide +kernel
theorem dX8_settlesLevel_69 : decode cX8_settlesLevel 69 = .ok (.iload_n 3, 1) := by decide +kernel
theorem dX8_settlesLevel_70 : decode cX8_settlesLevel 70 = .ok (.invokevirtual 191, 3) := by decide +kernel
theorem dX8_settlesLevel_73 : decode cX8_settlesLevel 73 = .ok (.goto 4, 3) := by decide +kernel
theorem dX8_settlesLevel_76 : decode cX8_settlesLevel 76 = .ok (.iconst 0, 1) := by decide +kernel
theorem dX8_settlesLevel_77 : decode cX8_settlesLevel 77 = .ok (.iastore, 1) := by decide +kernel
theorem dX8_settlesLevel_78 : decode cX8_settlesLevel 78 = .ok (.aload_n 0, 1) := by decide +kernel
theorem dX8_settlesLevel_79 : decode cX8_settlesLevel 79 = .ok (.getfield 73, 3) := by decide +kernel
theorem dX8_settlesLevel_82 : decode cX8_settlesLevel 82 = .ok (.iload 4, 2) := by decide +kernel
theorem dX8_settlesLevel_84 : decode cX8_settlesLevel 84 = .ok (.iload 5, 2) := by decide +kernel
theorem dX8_settlesLevel_86 : decode cX8_settlesLevel 86 = .ok (.ifCond .eq 13, 3) := by decide +kernel
theorem dX8_settlesLevel_89 : decode cX8_settlesLevel 89 = .ok (.aload_n 0, 1) := by decide +kernel
theorem dX8_settlesLevel_90 : decode cX8_settlesLevel 90 = .ok (.getfield 88, 3) := by decide +kernel
theorem dX8_settlesLevel_93 : decode cX8_settlesLevel 93 = .ok (.iload 4, 2) := by decide +kernel
theorem dX8_settlesLevel_95 : decode cX8_settlesLevel 95 = .ok (.iaload, 1) := by decide +kernel
theorem dX8_settlesLevel_96 : decode cX8_settlesLevel 96 = .ok (.goto 10, 3) := by decide +kernel
theorem dX8_settlesLevel_99 : decode cX8_settlesLevel 99 = .ok (.aload_n 0, 1) := by decide +kernel
theorem dX8_settlesLevel_100 : decode cX8_settlesLevel 100 = .ok (.getfield 73, 3) := by decide +kernel
theorem dX8_settlesLevel_103 : decode cX8_settlesLevel 103 = .ok (.iload 4, 2) := by decide +kernel
theorem dX8_settlesLevel_105 : decode cX8_settlesLevel 105 = .ok (.iaload, 1) := by decide +kernel
theorem dX8_settlesLevel_106 : decode cX8_settlesLevel 106 = .ok (.iastore, 1) := by decide +kernel
theorem dX8_settlesLevel_107 : decode cX8_settlesLevel 107 = .ok (.iinc 4 1, 3) := by decide +kernel
theorem dX8_settlesLevel_110 : decode cX8_settlesLevel 110 = .ok (.goto (-100), 3) := by decide +kernel
theorem dX8_settlesLevel_113 : decode cX8_settlesLevel 113 = .ok (.aload_n 0, 1) := by decide +kernel
theorem dX8_settlesLevel_114 : decode cX8_settlesLevel 114 = .ok (.iload_n 3, 1) := by decide +kernel
theorem dX8_settlesLevel_115 : decode cX8_settlesLevel 115 = .ok (.invokevirtual 195, 3) := by decide +kernel
theorem dX8_settlesLevel_118 : decode cX8_settlesLevel 118 = .ok (.istore 4, 2) := by decide +kernel
theorem dX8_settlesLevel_120 : decode cX8_settlesLevel 120 = .ok (.aload_n 0, 1) := by decide +kernel
theorem dX8_settlesLevel_121 : decode cX8_settlesLevel 121 = .ok (.getfield 85, 3) := by decide +kernel
theorem dX8_settlesLevel_124 : decode cX8_settlesLevel 124 = .ok (.iload_n 2, 1) := by decide +kernel
theorem dX8_settlesLevel_125 : decode cX8_settlesLevel 125 = .ok (.aload_n 0, 1) := by decide +kernel
theorem dX8_settlesLevel_126 : decode cX8_settlesLevel 126 = .ok (.iload 4, 2) := by decide +kernel
theorem dX8_settlesLevel_128 : decode cX8_settlesLevel 128 = .ok (.invokevirtual 175, 3) := by decide +kernel
theorem dX8_settlesLevel_131 : decode cX8_settlesLevel 131 = .ok (.iastore, 1) := by decide +kernel
theorem dX8_settlesLevel_132 : decode cX8_settlesLevel 132 = .ok (.iconst 0, 1) := by decide +kernel
theorem dX8_settlesLevel_133 : decode cX8_settlesLevel 133 = .ok (.istore 5, 2) := by decide +kernel
theorem dX8_settlesLevel_135 : decode cX8_settlesLevel 135 = .ok (.iload 5, 2) := by decide +kernel
theorem dX8_settlesLevel_137 : decode cX8_settlesLevel 137 = .ok (.bipush 8, 2) := by decide +kernel
theorem dX8_settlesLevel_139 : decode cX8_settlesLevel 139 = .ok (.if_icmp .ge 26, 3) := by decide +kernel
theorem dX8_settlesLevel_142 : decode cX8_settlesLevel 142 = .ok (.aload_n 0, 1) := by decide +kernel
theorem dX8_settlesLevel_143 : decode cX8_settlesLevel 143 = .ok (.getfield 76, 3) := by decide +kernel
theorem dX8_settlesLevel_146 : decode cX8_settlesLevel 146 = .ok (.iload 5, 2) := by decide +kernel
theorem dX8_settlesLevel_148 : decode cX8_settlesLevel 148 = .ok (.dup2, 1) := by decide +kernel
theorem dX8_settlesLevel_149 : decode cX8_settlesLevel 149 = .ok (.iaload, 1) := by decide +kernel
theorem dX8_settlesLevel_150 : decode cX8_settlesLevel 150 = .ok (.aload_n 0, 1) := by decide +kernel
theorem dX8_settlesLevel_151 : decode cX8_settlesLevel 151 = .ok (.getfield 91, 3) := by decide +kernel
theorem dX8_settlesLevel_154 : decode cX8_settlesLevel 154 = .ok (.iload 5, 2) := by decide +kernel
theorem dX8_settlesLevel_156 : decode cX8_settlesLevel 156 = .ok (.iaload, 1) := by decide +kernel
theorem dX8_settlesLevel_157 : decode cX8_settlesLevel 157 = .ok (.iadd, 1) := by decide +kernel
theorem dX8_settlesLevel_158 : decode cX8_settlesLevel 158 = .ok (.iastore, 1) := by decide +kernel
theorem dX8_settlesLevel_159 : decode cX8_settlesLevel 159 = .ok (.iinc 5 1, 3) := by decide +kernel
theorem dX8_settlesLevel_162 : decode cX8_settlesLevel 162 = .ok (.goto (-27), 3) := by decide +kernel
theorem dX8_settlesLevel_165 : decode cX8_settlesLevel 165 = .ok (.aload_n 0, 1) := by decide +kernel
theorem dX8_settlesLevel_166 : decode cX8_settlesLevel 166 = .ok (.dup, 1) := by decide +kernel
theorem dX8_settlesLevel_167 : decode cX8_settlesLevel 167 = .ok (.getfield 198, 3) := by decide +kernel
theorem dX8_settlesLevel_170 : decode cX8_settlesLevel 170 = .ok (.iload 4, 2) := by decide +kernel
theorem dX8_settlesLevel_172 : decode cX8_settlesLevel 172 = .ok (.iadd, 1) := by decide +kernel
theorem dX8_settlesLevel_173 : decode cX8_settlesLevel 173 = .ok (.putfield 198, 3) := by decide +kernel
theorem dX8_settlesLevel_176 : decode cX8_settlesLevel 176 = .ok (.return_, 1) := by decide +kernel
theorem gX8_settlesLevel_X8_heightFor : GoodIn wtX8_settlesLevel (wsV RX8 175 RX8 yX8_heightFor wtX8_heightFor) := tb_good (tb_v0 wd_466 wd_467 wd_468 wd_5 wd_469)
theorem gX8_settlesLevel_X8_isOn : GoodIn wtX8_settlesLevel (va_wsS RX8 154 yX8_isOn wtX8_isOn) := tb_good (tb_s0 wd_423 wd_424 wd_5 wd_425)
theorem gX8_settlesLevel_X8_owes : GoodIn wtX8_settlesLevel (wsV RX8 191 RX8 yX8_owes wtX8_owes) := tb_good (tb_v0 wd_426 wd_427 wd_428 wd_5 wd_429)
theorem gX8_settlesLevel_X8_shares : GoodIn wtX8_settlesLevel (wsV RX8 195 RX8 yX8_shares wtX8_shares) := tb_good (tb_v0 wd_450 wd_451 wd_452 wd_5 wd_453)
set_option maxHeartbeats 4000000 in
set_option maxRecDepth 100000 in
theorem m_X8_settlesLevel (l : Launch) (D : va_G) (cI cJ : ClassId) (sz : Nat) (g g2 g3 g4 g5 g6 g7 g8 g9 g10 g12 g13 g15 g16 g17 g19 g20 g21 g22 g23 g24 g25 g26 g27 g28 g33 g34 g35 g36 g37 g38 g39 g41 g42 g44 g45 l0 a0 be mn ml mv t0 : Nat) (gi0 gi14 gi18 gi29 gi30 gi40 gi43 : Int32) (G2 G4 G5 G6 G10 G12 G19 G25 G26 G27 G33 G34 G35 G36 : Nat → Int32) (G37 : Nat → Int64) (li0 wo0 de0 le0 s0 : Nat → Nat) (hl0 : l0 < 10) (ha0 : a0 < 8) (hbe : be ≤ 1000000) (hsv : nv G27 s0) (hit : ∀ k, k < 10 → ∃ j : Nat, j < 8 ∧ G12 k = nI j) (hsu : ∀ k, k < 64 → ∃ j : Nat, j ≤ 1000001 ∧ G10 k = nI j) (hliv : nv G2 li0) (hlib : ∀ k, k < 8 → li0 k ≤ 1000000) (hwov : nv G5 wo0) (hwob : ∀ k, k < 8 → wo0 k ≤ 9000000) (hdev : nv G4 de0) (hdeb : ∀ k, k < 8 → de0 k ≤ 99999) (hlev : nv G19 le0) (hleb : ∀ k, k < 8 → le0 k ≤ 9000000) : Met l yX8_settlesLevel wtX8_settlesLevel { frames := 5, cells := 0, slots := 0, locals := 119 } (cPc D cI cJ [.ref g, .int (nI l0), .int (nI a0), .int (nI be)] sz [(oX8 g gi0 (nI mn) g2 g3 g4 g5 g6 g7 g8 g9 g10 (nI ml) g12 g13 gi14 g15 g16 g17 gi18 g19 g20 g21 g22 g23 g24 g25 g26 g27 g28 gi29 gi30 (nI mv) (nI t0) g33 g34 g35 g36 g37 g38 g39 gi40 g41 g42 gi43 g44 g45), (aIc cI g2 8 G2), (aIc cI g4 8 G4), (aIc cI g5 8 G5), (aIc cI g6 8 G6), (aIc cI g10 64 G10), (aIc cI g12 10 G12), (aIc cI g19 8 G19), (aIc cI g25 8 G25), (aIc cI g26 8 G26), (aIc cI g27 8 G27), (aIc cI g33 8 G33), (aIc cI g34 8 G34), (aIc cI g35 8 G35), (aIc cI g36 8 G36), (aJc cJ g37 8 G37)]) (cQv D (fun u => ∃ (du : Nat) (G26p G27p G33p G34p G35p G36p : Nat → Int32) (G37p : Nat → Int64), (∃ s1 : Nat → Nat, nv G27p s1 ∧ sm s1 8 = sm s0 8 + du ∧ (∀ k, k < 8 → s1 k = s0 k ∨ (G25 k = nI a0 ∧ s1 k ≤ s0 k + le0 k))) ∧ (du ≤ be) ∧ u = [(oX8 g gi0 (nI mn) g2 g3 g4 g5 g6 g7 g8 g9 g10 (nI ml) g12 g13 gi14 g15 g16 g17 gi18 g19 g20 g21 g22 g23 g24 g25 g26 g27 g28 gi29 gi30 (nI mv) (nI (t0 + du)) g33 g34 g35 g36 g37 g38 g39 gi40 g41 g42 gi43 g44 g45), (aIc cI g2 8 G2), (aIc cI g4 8 G4), (aIc cI g5 8 G5), (aIc cI g6 8 G6), (aIc cI g10 64 G10), (aIc cI g12 10 G12), (aIc cI g19 8 G19), (aIc cI g25 8 G25), (aIc cI g26 8 G26p), (aIc cI g27 8 G27p), (aIc cI g33 8 G33p), (aIc cI g34 8 G34p), (aIc cI g35 8 G35p), (aIc cI g36 8 G36p), (aJc cJ g37 8 G37p)]) (va_A [(oX8 g gi0 (nI mn) g2 g3 g4 g5 g6 g7 g8 g9 g10 (nI ml) g12 g13 gi14 g15 g16 g17 gi18 g19 g20 g21 g22 g23 g24 g25 g26 g27 g28 gi29 gi30 (nI mv) (nI t0) g33 g34 g35 g36 g37 g38 g39 gi40 g41 g42 gi43 g44 g45), (aIc cI g2 8 G2), (aIc cI g4 8 G4), (aIc cI g5 8 G5), (aIc cI g6 8 G6), (aIc cI g10 64 G10), (aIc cI g12 10 G12), (aIc cI g19 8 G19), (aIc cI g25 8 G25), (aIc cI g26 8 G26), (aIc cI g27 8 G27), (aIc cI g33 8 G33), (aIc cI g34 8 G34), (aIc cI g35 8 G35), (aIc cI g36 8 G36), (aJc cJ g37 8 G37)] sz)) 0 0 (va_A [(oX8 g gi0 (nI mn) g2 g3 g4 g5 g6 g7 g8 g9 g10 (nI ml) g12 g13 gi14 g15 g16 g17 gi18 g19 g20 g21 g22 g23 g24 g25 g26 g27 g28 gi29 gi30 (nI mv) (nI t0) g33 g34 g35 g36 g37 g38 g39 gi40 g41 g42 gi43 g44 g45), (aIc cI g2 8 G2), (aIc cI g4 8 G4), (aIc cI g5 8 G5), (aIc cI g6 8 G6), (aIc cI g10 64 G10), (aIc cI g12 10 G12), (aIc cI g19 8 G19), (aIc cI g25 8 G25), (aIc cI g26 8 G26), (aIc cI g27 8 G27), (aIc cI g33 8 G33), (aIc cI g34 8 G34), (aIc cI g35 8 G35), (aIc cI g36 8 G36), (aJc cJ g37 8 G37)] sz) := by
  refine k_ofW (Qc := cQv D (fun u => ∃ (du : Nat) (G26p G27p G33p G34p G35p G36p : Nat → Int32) (G37p : Nat → Int64), (∃ s1 : Nat → Nat, nv G27p s1 ∧ sm s1 8 = sm s0 8 + du ∧ (∀ k, k < 8 → s1 k = s0 k ∨ (G25 k = nI a0 ∧ s1 k ≤ s0 k + le0 k))) ∧ (du ≤ be) ∧ u = [(oX8 g gi0 (nI mn) g2 g3 g4 g5 g6 g7 g8 g9 g10 (nI ml) g12 g13 gi14 g15 g16 g17 gi18 g19 g20 g21 g22 g23 g24 g25 g26 g27 g28 gi29 gi30 (nI mv) (nI (t0 + du)) g33 g34 g35 g36 g37 g38 g39 gi40 g41 g42 gi43 g44 g45), (aIc cI g2 8 G2), (aIc cI g4 8 G4), (aIc cI g5 8 G5), (aIc cI g6 8 G6), (aIc cI g10 64 G10), (aIc cI g12 10 G12), (aIc cI g19 8 G19), (aIc cI g25 8 G25), (aIc cI g26 8 G26p), (aIc cI g27 8 G27p), (aIc cI g33 8 G33p), (aIc cI g34 8 G34p), (aIc cI g35 8 G35p), (aIc cI g36 8 G36p), (aJc cJ g37 8 G37p)])) (by decide) rfl (Nat.le_of_ble_eq_true rfl) ?_
  intro p e s m below meth c A ls hx hb hr hml hts hown hlk hnm hsz hE hP hD hS hA hl
  have hown : s.vm.findClass RX8 = some m.cls := hown
  have hiX8 : ∀ w ∈ u_ws RX8 TX8 46, w ∈ wtX8_settlesLevel := fun w h => List.mem_cons_of_mem _ (iuX8 w h)
  have hl : lv_has ls 6 [(0, .ref g), (1, .int (nI l0)), (2, .int (nI a0)), (3, .int (nI be))] := hl
  refine lv_aload_n hx hb dX8_settlesLevel_0 rfl (lv_at hl 0 rfl) ?_
  refine va_get (D := D) (ci := 8) (v := .ref g33) (C := RX8) (T := TX8) (N := 46) hx hb hts hiX8 hown hE.1 hP 0 rfl rfl 33 (by decide) (hts _ (List.mem_cons_of_mem _ wd_140)) (fun _ h9 => h9) rfl dX8_settlesLevel_1 ?_
  refine lv_iload_n hx hb dX8_settlesLevel_4 rfl (lv_at hl 2 rfl) ?_
  refine lv_iload_n hx hb dX8_settlesLevel_5 rfl (lv_at hl 3 rfl) ?_
  refine va_iast hx hb hE.1 hP hD hS 11 0 rfl rfl (vp_in_nI (n := a0) (by omega) (by decide)) dX8_settlesLevel_6 (fun H locs hP hD hS => ?_)
  refine k_re (w := [(oX8 g gi0 (nI mn) g2 g3 g4 g5 g6 g7 g8 g9 g10 (nI ml) g12 g13 gi14 g15 g16 g17 gi18 g19 g20 g21 g22 g23 g24 g25 g26 g27 g28 gi29 gi30 (nI mv) (nI t0) g33 g34 g35 g36 g37 g38 g39 gi40 g41 g42 gi43 g44 g45), (aIc cI g2 8 G2), (aIc cI g4 8 G4), (aIc cI g5 8 G5), (aIc cI g6 8 G6), (aIc cI g10 64 G10), (aIc cI g12 10 G12), (aIc cI g19 8 G19), (aIc cI g25 8 G25), (aIc cI g26 8 G26), (aIc cI g27 8 G27), (aIc cI g33 8 (upd G33 (Int32.toNatClampNeg (nI a0)) (nI be))), (aIc cI g34 8 G34), (aIc cI g35 8 G35), (aIc cI g36 8 G36), (aJc cJ g37 8 G37)]) hP hD (fun hP hD => ?_)
  refine lv_iconst (v := 0) hx hb dX8_settlesLevel_7 (by decide) ?_
  refine lv_istore (lv' := [(4, .int 0), (0, .ref g), (1, .int (nI l0)), (2, .int (nI a0)), (3, .int (nI be))]) hx hb dX8_settlesLevel_8 hl (by decide) rfl (fun ls hl => ?_)
  have J10 : ∀ (zz : Nat) (i10 : Nat) (a_g35_10 a_g26_10 : Nat → Int32), (i10 ≤ 8) → (CP a_g35_10 G25 le0 a0 i10) → (8 - i10) < zz → ∀ (H : Heap) (locs : List Loc) (ls : Array Slot), va_P D vwCl [(oX8 g gi0 (nI mn) g2 g3 g4 g5 g6 g7 g8 g9 g10 (nI ml) g12 g13 gi14 g15 g16 g17 gi18 g19 g20 g21 g22 g23 g24 g25 g26 g27 g28 gi29 gi30 (nI mv) (nI t0) g33 g34 g35 g36 g37 g38 g39 gi40 g41 g42 gi43 g44 g45), (aIc cI g2 8 G2), (aIc cI g4 8 G4), (aIc cI g5 8 G5), (aIc cI g6 8 G6), (aIc cI g10 64 G10), (aIc cI g12 10 G12), (aIc cI g19 8 G19), (aIc cI g25 8 G25), (aIc cI g26 8 a_g26_10), (aIc cI g27 8 G27), (aIc cI g33 8 (upd G33 (Int32.toNatClampNeg (nI a0)) (nI be))), (aIc cI g34 8 G34), (aIc cI g35 8 a_g35_10), (aIc cI g36 8 G36), (aJc cJ g37 8 G37)] H → va_D A [(oX8 g gi0 (nI mn) g2 g3 g4 g5 g6 g7 g8 g9 g10 (nI ml) g12 g13 gi14 g15 g16 g17 gi18 g19 g20 g21 g22 g23 g24 g25 g26 g27 g28 gi29 gi30 (nI mv) (nI t0) g33 g34 g35 g36 g37 g38 g39 gi40 g41 g42 gi43 g44 g45), (aIc cI g2 8 G2), (aIc cI g4 8 G4), (aIc cI g5 8 G5), (aIc cI g6 8 G6), (aIc cI g10 64 G10), (aIc cI g12 10 G12), (aIc cI g19 8 G19), (aIc cI g25 8 G25), (aIc cI g26 8 a_g26_10), (aIc cI g27 8 G27), (aIc cI g33 8 (upd G33 (Int32.toNatClampNeg (nI a0)) (nI be))), (aIc cI g34 8 G34), (aIc cI g35 8 a_g35_10), (aIc cI g36 8 G36), (aJc cJ g37 8 G37)] → va_S A s.heap H locs → lv_has ls 6 [(4, .int (nI i10)), (0, .ref g), (1, .int (nI l0)), (2, .int (nI a0)), (3, .int (nI be))] → W p l e { frames := 5, cells := 0, slots := 0, locals := 119 } s m [.ref g, .int (nI l0), .int (nI a0), .int (nI be)].toArray below meth c H locs 0 0 (MQ below (cQv D (fun u => ∃ (du : Nat) (G26p G27p G33p G34p G35p G36p : Nat → Int32) (G37p : Nat → Int64), (∃ s1 : Nat → Nat, nv G27p s1 ∧ sm s1 8 = sm s0 8 + du ∧ (∀ k, k < 8 → s1 k = s0 k ∨ (G25 k = nI a0 ∧ s1 k ≤ s0 k + le0 k))) ∧ (du ≤ be) ∧ u = [(oX8 g gi0 (nI mn) g2 g3 g4 g5 g6 g7 g8 g9 g10 (nI ml) g12 g13 gi14 g15 g16 g17 gi18 g19 g20 g21 g22 g23 g24 g25 g26 g27 g28 gi29 gi30 (nI mv) (nI (t0 + du)) g33 g34 g35 g36 g37 g38 g39 gi40 g41 g42 gi43 g44 g45), (aIc cI g2 8 G2), (aIc cI g4 8 G4), (aIc cI g5 8 G5), (aIc cI g6 8 G6), (aIc cI g10 64 G10), (aIc cI g12 10 G12), (aIc cI g19 8 G19), (aIc cI g25 8 G25), (aIc cI g26 8 G26p), (aIc cI g27 8 G27p), (aIc cI g33 8 G33p), (aIc cI g34 8 G34p), (aIc cI g35 8 G35p), (aIc cI g36 8 G36p), (aJc cJ g37 8 G37p)]) A) [.ref g, .int (nI l0), .int (nI a0), .int (nI be)].toArray s 0 0 A) (F0 m 10 ls []) := by
    intro zz
    induction zz with
    | zero => intro i10 a_g35_10 a_g26_10 _ _; exact fun h => absurd h (Nat.not_lt_zero _)
    | succ zz ih10 =>
      intro i10 a_g35_10 a_g26_10 hc4_10 hcp_10 hmu10 H locs ls hP hD hS hl
      refine lv_iload hx hb dX8_settlesLevel_10 (lv_at hl 0 rfl) ?_
      refine lv_bipush (v := 8) hx hb dX8_settlesLevel_12 (by decide) ?_
      refine lv_icmp_ge (tgt := 113) hx hb dX8_settlesLevel_14 (by decide) (fun c1 => ?_) (fun c1 => ?_)
      · skip
        have nc1 : 8 ≤ i10 := (nI_leI (a := 8) (b := i10) (by omega) (by omega)).mp c1
        obtain rfl : i10 = 8 := (by omega)
        obtain ⟨c0, hcv, hcb, hcx⟩ := cp_end hcp_10
        refine lv_aload_n hx hb dX8_settlesLevel_113 rfl (lv_at hl 1 rfl) ?_
        refine lv_iload_n hx hb dX8_settlesLevel_114 rfl (lv_at hl 4 rfl) ?_
        refine k_i (va_runV (As := [.int (nI be)]) (rest := []) ⟨hx, hb, hml, hown, hts⟩ (m_X8_shares l D cI cJ H.size g g2 g3 g4 g5 g6 g7 g8 g9 g10 g12 g13 g15 g16 g17 g19 g20 g21 g22 g23 g24 g25 g26 g27 g28 g33 g34 g35 g36 g37 g38 g39 g41 g42 g44 g45 be mn ml mv gi0 gi14 gi18 gi29 gi30 (nI t0) gi40 gi43 a_g35_10 G36 G37 c0 hcv hcb (by omega)) (cwV 1 hts gX8_settlesLevel_X8_shares rfl rfl rfl (by decide +kernel) ⟨Nat.le_of_ble_eq_true rfl, Nat.le_of_ble_eq_true rfl⟩) (k_preV hE hP hD [0, 13, 14, 15] (by decide +kernel) rfl 0 rfl rfl) rfl rfl hl.1 rfl (lv_room (Nat.le_of_ble_eq_true rfl)) dX8_settlesLevel_115 ⟨Nat.le_of_ble_eq_true rfl, Nat.le_of_ble_eq_true rfl⟩) hP hD hS hA [0, 13, 14, 15] [1, 2, 3, 4, 5, 6, 7, 8, 9, 10, 11, 12] rfl (wr := [(aIc cI g2 8 G2), (aIc cI g4 8 G4), (aIc cI g5 8 G5), (aIc cI g6 8 G6), (aIc cI g10 64 G10), (aIc cI g12 10 G12), (aIc cI g19 8 G19), (aIc cI g25 8 G25), (aIc cI g26 8 a_g26_10), (aIc cI g27 8 G27), (aIc cI g33 8 (upd G33 (Int32.toNatClampNeg (nI a0)) (nI be))), (aIc cI g34 8 G34)]) rfl (by decide +kernel) (by decide +kernel) (fun r2 u H locs hw3 hP hD hS => ?_)
        obtain ⟨z4, z5, hz6, rfl, rfl⟩ := hw3
        refine k_re (w := [(aIc cI g2 8 G2), (aIc cI g4 8 G4), (aIc cI g5 8 G5), (aIc cI g6 8 G6), (aIc cI g10 64 G10), (aIc cI g12 10 G12), (aIc cI g19 8 G19), (aIc cI g25 8 G25), (aIc cI g26 8 a_g26_10), (aIc cI g27 8 G27), (aIc cI g33 8 (upd G33 (Int32.toNatClampNeg (nI a0)) (nI be))), (aIc cI g34 8 G34), (oX8 g gi0 (nI mn) g2 g3 g4 g5 g6 g7 g8 g9 g10 (nI ml) g12 g13 gi14 g15 g16 g17 gi18 g19 g20 g21 g22 g23 g24 g25 g26 g27 g28 gi29 gi30 (nI mv) (nI t0) g33 g34 g35 g36 g37 g38 g39 gi40 g41 g42 gi43 g44 g45), (aIc cI g35 8 a_g35_10), (aIc cI g36 8 z4), (aJc cJ g37 8 z5)]) hP hD (fun hP hD => ?_)
        obtain ⟨pt, hpv, hps, hpc⟩ := hz6
        have hsmb : sm c0 8 ≤ 8000000 := sm_bound (c := 1000000) hcb
        refine lv_istore (lv' := [(4, .int (nI (min (sm c0 8) be))), (0, .ref g), (1, .int (nI l0)), (2, .int (nI a0)), (3, .int (nI be))]) hx hb dX8_settlesLevel_118 hl (by decide) rfl (fun ls hl => ?_)
        refine lv_aload_n hx hb dX8_settlesLevel_120 rfl (lv_at hl 1 rfl) ?_
        refine va_get (D := D) (ci := 8) (v := .ref g34) (C := RX8) (T := TX8) (N := 46) hx hb hts hiX8 hown hE.1 hP 12 rfl rfl 34 (by decide) (hts _ (List.mem_cons_of_mem _ wd_141)) (fun _ h9 => h9) rfl dX8_settlesLevel_121 ?_
        refine lv_iload_n hx hb dX8_settlesLevel_124 rfl (lv_at hl 3 rfl) ?_
        refine lv_aload_n hx hb dX8_settlesLevel_125 rfl (lv_at hl 1 rfl) ?_
        refine lv_iload hx hb dX8_settlesLevel_126 (lv_at hl 0 rfl) ?_
        refine k_iS (va_runV (As := [.int (nI (min (sm c0 8) be))]) (rest := [.int (nI a0), .ref g34]) ⟨hx, hb, hml, hown, hts⟩ (m_X8_heightFor l D cI cJ H.size g g2 g3 g4 g5 g6 g7 g8 g9 g10 g12 g13 g15 g16 g17 g19 g20 g21 g22 g23 g24 g25 g26 g27 g28 g33 g34 g35 g36 g37 g38 g39 g41 g42 g44 g45 (min (sm c0 8) be) mn ml mv gi0 gi14 gi18 gi29 gi30 (nI t0) gi40 gi43 a_g35_10 c0 hcv hcb (by omega)) (cwV 1 hts gX8_settlesLevel_X8_heightFor rfl rfl rfl (by decide +kernel) ⟨Nat.le_of_ble_eq_true rfl, Nat.le_of_ble_eq_true rfl⟩) (k_preV hE hP hD [12, 13] (by decide +kernel) rfl 12 rfl rfl) rfl rfl hl.1 rfl (lv_room (Nat.le_of_ble_eq_true rfl)) dX8_settlesLevel_128 ⟨Nat.le_of_ble_eq_true rfl, Nat.le_of_ble_eq_true rfl⟩) hP hD hS hA [12, 13] rfl (fun _ _ ⟨_, _, _, _, _, h9⟩ => h9) (fun r7 H locs hw8 hP hD hS => ?_)
        obtain ⟨z9, hz10, hz11, hz12, rfl, -⟩ := hw8
        refine va_iast hx hb hE.1 hP hD hS 11 0 rfl rfl (vp_in_nI (n := a0) (by omega) (by decide)) dX8_settlesLevel_131 (fun H locs hP hD hS => ?_)
        refine k_re (w := [(aIc cI g2 8 G2), (aIc cI g4 8 G4), (aIc cI g5 8 G5), (aIc cI g6 8 G6), (aIc cI g10 64 G10), (aIc cI g12 10 G12), (aIc cI g19 8 G19), (aIc cI g25 8 G25), (aIc cI g26 8 a_g26_10), (aIc cI g27 8 G27), (aIc cI g33 8 (upd G33 (Int32.toNatClampNeg (nI a0)) (nI be))), (aIc cI g34 8 (upd G34 (Int32.toNatClampNeg (nI a0)) (nI z9))), (oX8 g gi0 (nI mn) g2 g3 g4 g5 g6 g7 g8 g9 g10 (nI ml) g12 g13 gi14 g15 g16 g17 gi18 g19 g20 g21 g22 g23 g24 g25 g26 g27 g28 gi29 gi30 (nI mv) (nI t0) g33 g34 g35 g36 g37 g38 g39 gi40 g41 g42 gi43 g44 g45), (aIc cI g35 8 a_g35_10), (aIc cI g36 8 z4), (aJc cJ g37 8 z5)]) hP hD (fun hP hD => ?_)
        refine lv_iconst (v := 0) hx hb dX8_settlesLevel_132 (by decide) ?_
        refine lv_istore (lv' := [(5, .int 0), (4, .int (nI (min (sm c0 8) be))), (0, .ref g), (1, .int (nI l0)), (2, .int (nI a0)), (3, .int (nI be))]) hx hb dX8_settlesLevel_133 hl (by decide) rfl (fun ls hl => ?_)
        have J135 : ∀ (zz : Nat) (i135 : Nat) (a_g27_135 : Nat → Int32), (i135 ≤ 8) → (AD a_g27_135 s0 pt i135) → (8 - i135) < zz → ∀ (H : Heap) (locs : List Loc) (ls : Array Slot), va_P D vwCl [(aIc cI g2 8 G2), (aIc cI g4 8 G4), (aIc cI g5 8 G5), (aIc cI g6 8 G6), (aIc cI g10 64 G10), (aIc cI g12 10 G12), (aIc cI g19 8 G19), (aIc cI g25 8 G25), (aIc cI g26 8 a_g26_10), (aIc cI g27 8 a_g27_135), (aIc cI g33 8 (upd G33 (Int32.toNatClampNeg (nI a0)) (nI be))), (aIc cI g34 8 (upd G34 (Int32.toNatClampNeg (nI a0)) (nI z9))), (oX8 g gi0 (nI mn) g2 g3 g4 g5 g6 g7 g8 g9 g10 (nI ml) g12 g13 gi14 g15 g16 g17 gi18 g19 g20 g21 g22 g23 g24 g25 g26 g27 g28 gi29 gi30 (nI mv) (nI t0) g33 g34 g35 g36 g37 g38 g39 gi40 g41 g42 gi43 g44 g45), (aIc cI g35 8 a_g35_10), (aIc cI g36 8 z4), (aJc cJ g37 8 z5)] H → va_D A [(aIc cI g2 8 G2), (aIc cI g4 8 G4), (aIc cI g5 8 G5), (aIc cI g6 8 G6), (aIc cI g10 64 G10), (aIc cI g12 10 G12), (aIc cI g19 8 G19), (aIc cI g25 8 G25), (aIc cI g26 8 a_g26_10), (aIc cI g27 8 a_g27_135), (aIc cI g33 8 (upd G33 (Int32.toNatClampNeg (nI a0)) (nI be))), (aIc cI g34 8 (upd G34 (Int32.toNatClampNeg (nI a0)) (nI z9))), (oX8 g gi0 (nI mn) g2 g3 g4 g5 g6 g7 g8 g9 g10 (nI ml) g12 g13 gi14 g15 g16 g17 gi18 g19 g20 g21 g22 g23 g24 g25 g26 g27 g28 gi29 gi30 (nI mv) (nI t0) g33 g34 g35 g36 g37 g38 g39 gi40 g41 g42 gi43 g44 g45), (aIc cI g35 8 a_g35_10), (aIc cI g36 8 z4), (aJc cJ g37 8 z5)] → va_S A s.heap H locs → lv_has ls 6 [(5, .int (nI i135)), (4, .int (nI (min (sm c0 8) be))), (0, .ref g), (1, .int (nI l0)), (2, .int (nI a0)), (3, .int (nI be))] → W p l e { frames := 5, cells := 0, slots := 0, locals := 119 } s m [.ref g, .int (nI l0), .int (nI a0), .int (nI be)].toArray below meth c H locs 0 0 (MQ below (cQv D (fun u => ∃ (du : Nat) (G26p G27p G33p G34p G35p G36p : Nat → Int32) (G37p : Nat → Int64), (∃ s1 : Nat → Nat, nv G27p s1 ∧ sm s1 8 = sm s0 8 + du ∧ (∀ k, k < 8 → s1 k = s0 k ∨ (G25 k = nI a0 ∧ s1 k ≤ s0 k + le0 k))) ∧ (du ≤ be) ∧ u = [(oX8 g gi0 (nI mn) g2 g3 g4 g5 g6 g7 g8 g9 g10 (nI ml) g12 g13 gi14 g15 g16 g17 gi18 g19 g20 g21 g22 g23 g24 g25 g26 g27 g28 gi29 gi30 (nI mv) (nI (t0 + du)) g33 g34 g35 g36 g37 g38 g39 gi40 g41 g42 gi43 g44 g45), (aIc cI g2 8 G2), (aIc cI g4 8 G4), (aIc cI g5 8 G5), (aIc cI g6 8 G6), (aIc cI g10 64 G10), (aIc cI g12 10 G12), (aIc cI g19 8 G19), (aIc cI g25 8 G25), (aIc cI g26 8 G26p), (aIc cI g27 8 G27p), (aIc cI g33 8 G33p), (aIc cI g34 8 G34p), (aIc cI g35 8 G35p), (aIc cI g36 8 G36p), (aJc cJ g37 8 G37p)]) A) [.ref g, .int (nI l0), .int (nI a0), .int (nI be)].toArray s 0 0 A) (F0 m 135 ls []) := by
          intro zz
          induction zz with
          | zero => intro i135 a_g27_135 _ _; exact fun h => absurd h (Nat.not_lt_zero _)
          | succ zz ih135 =>
            intro i135 a_g27_135 hc5_135 hAD_135 hmu135 H locs ls hP hD hS hl
            refine lv_iload hx hb dX8_settlesLevel_135 (lv_at hl 0 rfl) ?_
            refine lv_bipush (v := 8) hx hb dX8_settlesLevel_137 (by decide) ?_
            refine lv_icmp_ge (tgt := 165) hx hb dX8_settlesLevel_139 (by decide) (fun c13 => ?_) (fun c13 => ?_)
            · skip
              have nc13 : 8 ≤ i135 := (nI_leI (a := 8) (b := i135) (by omega) (by omega)).mp c13
              refine lv_aload_n hx hb dX8_settlesLevel_165 rfl (lv_at hl 2 rfl) ?_
              refine lv_dup hx hb dX8_settlesLevel_166 rfl ?_
              refine va_get (D := D) (ci := 8) (v := .int (nI t0)) (C := RX8) (T := TX8) (N := 46) hx hb hts hiX8 hown hE.1 hP 12 rfl rfl 32 (by decide) (hts _ (List.mem_cons_of_mem _ wd_412)) (fun _ h9 => h9) rfl dX8_settlesLevel_167 ?_
              refine lv_iload hx hb dX8_settlesLevel_170 (lv_at hl 1 rfl) ?_
              refine lv_iadd hx hb dX8_settlesLevel_172 ?_
              refine lv_topi (fun v14 ev14 => ?_)
              obtain rfl : v14 = (nI (t0 + (min (sm c0 8) be))) := by rw [ev14]; exact nI_add t0 (min (sm c0 8) be)
              refine va_put (D := D) (ci := 8) (v := .int (nI (t0 + (min (sm c0 8) be)))) (ty := .int) (C := RX8) (T := TX8) (N := 46) hx hb hts hiX8 tyX8 tyX8_ok nmX8 hown hE.1 hP hD hS 12 rfl rfl 32 (by decide) (hts _ (List.mem_cons_of_mem _ wd_412)) (fun _ h9 => h9) rfl (by decide +kernel) rfl rfl (Nat.le_of_ble_eq_true rfl) dX8_settlesLevel_173 (fun H locs hP hD hS => ?_)
              refine k_re (w := [(aIc cI g2 8 G2), (aIc cI g4 8 G4), (aIc cI g5 8 G5), (aIc cI g6 8 G6), (aIc cI g10 64 G10), (aIc cI g12 10 G12), (aIc cI g19 8 G19), (aIc cI g25 8 G25), (aIc cI g26 8 a_g26_10), (aIc cI g27 8 a_g27_135), (aIc cI g33 8 (upd G33 (Int32.toNatClampNeg (nI a0)) (nI be))), (aIc cI g34 8 (upd G34 (Int32.toNatClampNeg (nI a0)) (nI z9))), (oX8 g gi0 (nI mn) g2 g3 g4 g5 g6 g7 g8 g9 g10 (nI ml) g12 g13 gi14 g15 g16 g17 gi18 g19 g20 g21 g22 g23 g24 g25 g26 g27 g28 gi29 gi30 (nI mv) (nI (t0 + (min (sm c0 8) be))) g33 g34 g35 g36 g37 g38 g39 gi40 g41 g42 gi43 g44 g45), (aIc cI g35 8 a_g35_10), (aIc cI g36 8 z4), (aJc cJ g37 8 z5)]) hP hD (fun hP hD => ?_)
              refine k_vret (u := [(oX8 g gi0 (nI mn) g2 g3 g4 g5 g6 g7 g8 g9 g10 (nI ml) g12 g13 gi14 g15 g16 g17 gi18 g19 g20 g21 g22 g23 g24 g25 g26 g27 g28 gi29 gi30 (nI mv) (nI (t0 + (min (sm c0 8) be))) g33 g34 g35 g36 g37 g38 g39 gi40 g41 g42 gi43 g44 g45), (aIc cI g2 8 G2), (aIc cI g4 8 G4), (aIc cI g5 8 G5), (aIc cI g6 8 G6), (aIc cI g10 64 G10), (aIc cI g12 10 G12), (aIc cI g19 8 G19), (aIc cI g25 8 G25), (aIc cI g26 8 a_g26_10), (aIc cI g27 8 a_g27_135), (aIc cI g33 8 (upd G33 (Int32.toNatClampNeg (nI a0)) (nI be))), (aIc cI g34 8 (upd G34 (Int32.toNatClampNeg (nI a0)) (nI z9))), (aIc cI g35 8 a_g35_10), (aIc cI g36 8 z4), (aJc cJ g37 8 z5)]) hx hb hr hlk (k_sub hP [12, 0, 1, 2, 3, 4, 5, 6, 7, 8, 9, 10, 11, 13, 14, 15] rfl) (hD.sub [12, 0, 1, 2, 3, 4, 5, 6, 7, 8, 9, 10, 11, 13, 14, 15] (by decide +kernel) rfl) hS dX8_settlesLevel_176 ?_
              exact ⟨(min (sm c0 8) be), a_g26_10, a_g27_135, (upd G33 (Int32.toNatClampNeg (nI a0)) (nI be)), (upd G34 (Int32.toNatClampNeg (nI a0)) (nI z9)), a_g35_10, z4, z5, (sl_fin (by obtain rfl : i135 = 8 := (by omega); exact hAD_135) hps hpc hcx), (Nat.min_le_right _ _), rfl⟩
            · skip
              have nc13 : ¬ 8 ≤ i135 := fun q9 => c13 ((nI_leI (a := 8) (b := i135) (by omega) (by omega)).mpr q9)
              refine lv_aload_n hx hb dX8_settlesLevel_142 rfl (lv_at hl 2 rfl) ?_
              refine va_get (D := D) (ci := 8) (v := .ref g27) (C := RX8) (T := TX8) (N := 46) hx hb hts hiX8 hown hE.1 hP 12 rfl rfl 27 (by decide) (hts _ (List.mem_cons_of_mem _ wd_138)) (fun _ h9 => h9) rfl dX8_settlesLevel_143 ?_
              refine lv_iload hx hb dX8_settlesLevel_146 (lv_at hl 0 rfl) ?_
              refine lv_dup2_11 hx hb dX8_settlesLevel_148 rfl rfl ?_
              refine va_iald hx hb hE.1 hP 9 0 rfl rfl (vp_in_nI (n := i135) (by omega) (by decide)) dX8_settlesLevel_149 ?_
              refine lv_topi (fun v15 ev15 => ?_)
              obtain rfl : v15 = nI (s0 i135) := ev15.trans (ad_at hAD_135 (by omega))
              refine lv_aload_n hx hb dX8_settlesLevel_150 rfl (lv_at hl 2 rfl) ?_
              refine va_get (D := D) (ci := 8) (v := .ref g36) (C := RX8) (T := TX8) (N := 46) hx hb hts hiX8 hown hE.1 hP 12 rfl rfl 36 (by decide) (hts _ (List.mem_cons_of_mem _ wd_143)) (fun _ h9 => h9) rfl dX8_settlesLevel_151 ?_
              refine lv_iload hx hb dX8_settlesLevel_154 (lv_at hl 0 rfl) ?_
              refine va_iald hx hb hE.1 hP 14 0 rfl rfl (vp_in_nI (n := i135) (by omega) (by decide)) dX8_settlesLevel_156 ?_
              refine lv_topi (fun v16 ev16 => ?_)
              obtain rfl : v16 = nI (pt i135) := ev16.trans (nv_at hpv (by omega))
              refine lv_iadd hx hb dX8_settlesLevel_157 ?_
              refine lv_topi (fun v17 ev17 => ?_)
              obtain rfl : v17 = (nI ((s0 i135) + (pt i135))) := by rw [ev17]; exact nI_add (s0 i135) (pt i135)
              refine va_iast hx hb hE.1 hP hD hS 9 0 rfl rfl (vp_in_nI (n := i135) (by omega) (by decide)) dX8_settlesLevel_158 (fun H locs hP hD hS => ?_)
              refine k_re (w := [(aIc cI g2 8 G2), (aIc cI g4 8 G4), (aIc cI g5 8 G5), (aIc cI g6 8 G6), (aIc cI g10 64 G10), (aIc cI g12 10 G12), (aIc cI g19 8 G19), (aIc cI g25 8 G25), (aIc cI g26 8 a_g26_10), (aIc cI g27 8 (upd a_g27_135 (Int32.toNatClampNeg (nI i135)) (nI ((s0 i135) + (pt i135))))), (aIc cI g33 8 (upd G33 (Int32.toNatClampNeg (nI a0)) (nI be))), (aIc cI g34 8 (upd G34 (Int32.toNatClampNeg (nI a0)) (nI z9))), (oX8 g gi0 (nI mn) g2 g3 g4 g5 g6 g7 g8 g9 g10 (nI ml) g12 g13 gi14 g15 g16 g17 gi18 g19 g20 g21 g22 g23 g24 g25 g26 g27 g28 gi29 gi30 (nI mv) (nI t0) g33 g34 g35 g36 g37 g38 g39 gi40 g41 g42 gi43 g44 g45), (aIc cI g35 8 a_g35_10), (aIc cI g36 8 z4), (aJc cJ g37 8 z5)]) hP hD (fun hP hD => ?_)
              refine lv_iinc (v := (nI (i135 + 1))) (lv' := [(5, .int (nI (i135 + 1))), (4, .int (nI (min (sm c0 8) be))), (0, .ref g), (1, .int (nI l0)), (2, .int (nI a0)), (3, .int (nI be))]) hx hb dX8_settlesLevel_159 hl (k := 0) rfl (nI_1 _) (by decide) rfl (fun ls hl => ?_)
              refine lv_goto (tgt := 135) hx hb dX8_settlesLevel_162 (by decide) ?_
              exact ih135 (i135 + 1) (upd a_g27_135 (Int32.toNatClampNeg (nI i135)) (nI ((s0 i135) + (pt i135)))) (by omega) (ad_up hAD_135 (by omega)) (by omega) _ _ _ hP hD hS (lv_sub hl [0, 1, 2, 3, 4, 5] rfl)
        exact J135 _ 0 G27 (by omega) (ad_0 hsv) (Nat.lt_succ_self _) _ _ _ hP hD hS (lv_sub hl [0, 1, 2, 3, 4, 5] rfl)
      · skip
        have nc1 : ¬ 8 ≤ i10 := fun q9 => c1 ((nI_leI (a := 8) (b := i10) (by omega) (by omega)).mpr q9)
        refine lv_aload_n hx hb dX8_settlesLevel_17 rfl (lv_at hl 1 rfl) ?_
        refine va_get (D := D) (ci := 8) (v := .int gi29) (C := RX8) (T := TX8) (N := 46) hx hb hts hiX8 hown hE.1 hP 0 rfl rfl 29 (by decide) (hts _ (List.mem_cons_of_mem _ wd_421)) (fun _ h9 => h9) rfl dX8_settlesLevel_18 ?_
        refine lv_aload_n hx hb dX8_settlesLevel_21 rfl (lv_at hl 1 rfl) ?_
        refine va_get (D := D) (ci := 8) (v := .int gi30) (C := RX8) (T := TX8) (N := 46) hx hb hts hiX8 hown hE.1 hP 0 rfl rfl 30 (by decide) (hts _ (List.mem_cons_of_mem _ wd_445)) (fun _ h9 => h9) rfl dX8_settlesLevel_22 ?_
        refine lv_iconst (v := (-1)) hx hb dX8_settlesLevel_25 (by decide) ?_
        refine lv_ixor hx hb dX8_settlesLevel_26 ?_
        refine lv_topi (fun v18 ev18 => ?_)
        refine lv_iand hx hb dX8_settlesLevel_27 ?_
        refine lv_topi (fun v19 ev19 => ?_)
        refine lv_iload hx hb dX8_settlesLevel_28 (lv_at hl 0 rfl) ?_
        refine k_iS (va_runS (As := [.int v19, .int (nI i10)]) (rest := []) ⟨hx, hb, hml, hown, hts⟩ (m_X8_isOn l D cI cJ H.size v19 (nI i10)) (va_cwS 2 hts gX8_settlesLevel_X8_isOn rfl rfl rfl (by decide +kernel) ⟨Nat.le_of_ble_eq_true rfl, Nat.le_of_ble_eq_true rfl⟩) (k_pre hE hP hD [] (by decide +kernel) rfl) rfl rfl hl.1 rfl (lv_room (Nat.le_of_ble_eq_true rfl)) dX8_settlesLevel_30 ⟨Nat.le_of_ble_eq_true rfl, Nat.le_of_ble_eq_true rfl⟩) hP hD hS hA [] rfl (fun _ _ h9 => h9.2) (fun r20 H locs hw21 hP hD hS => ?_)
        obtain ⟨hw21, -⟩ := hw21
        refine lv_if_eq (tgt := 51) hx hb dX8_settlesLevel_33 (by decide) (fun c22 => ?_) (fun c22 => ?_)
        · skip
          have hc22 : ¬ ((v19 >>> ((nI i10) &&& 31)) &&& 1 = 1) := bz_0 hw21 c22
          refine lv_iconst (v := 0) hx hb dX8_settlesLevel_51 (by decide) ?_
          refine lv_istore (lv' := [(5, .int 0), (4, .int (nI i10)), (0, .ref g), (1, .int (nI l0)), (2, .int (nI a0)), (3, .int (nI be))]) hx hb dX8_settlesLevel_52 hl (by decide) rfl (fun ls hl => ?_)
          refine lv_aload_n hx hb dX8_settlesLevel_54 rfl (lv_at hl 2 rfl) ?_
          refine va_get (D := D) (ci := 8) (v := .ref g35) (C := RX8) (T := TX8) (N := 46) hx hb hts hiX8 hown hE.1 hP 0 rfl rfl 35 (by decide) (hts _ (List.mem_cons_of_mem _ wd_142)) (fun _ h9 => h9) rfl dX8_settlesLevel_55 ?_
          refine lv_iload hx hb dX8_settlesLevel_58 (lv_at hl 1 rfl) ?_
          refine lv_iload hx hb dX8_settlesLevel_60 (lv_at hl 0 rfl) ?_
          refine lv_if_eq (tgt := 76) hx hb dX8_settlesLevel_62 (by decide) (fun _ => ?_) (fun c23 => absurd (by decide) c23)
          refine lv_iconst (v := 0) hx hb dX8_settlesLevel_76 (by decide) ?_
          refine va_iast hx hb hE.1 hP hD hS 13 0 rfl rfl (vp_in_nI (n := i10) (by omega) (by decide)) dX8_settlesLevel_77 (fun H locs hP hD hS => ?_)
          refine k_re (w := [(oX8 g gi0 (nI mn) g2 g3 g4 g5 g6 g7 g8 g9 g10 (nI ml) g12 g13 gi14 g15 g16 g17 gi18 g19 g20 g21 g22 g23 g24 g25 g26 g27 g28 gi29 gi30 (nI mv) (nI t0) g33 g34 g35 g36 g37 g38 g39 gi40 g41 g42 gi43 g44 g45), (aIc cI g2 8 G2), (aIc cI g4 8 G4), (aIc cI g5 8 G5), (aIc cI g6 8 G6), (aIc cI g10 64 G10), (aIc cI g12 10 G12), (aIc cI g19 8 G19), (aIc cI g25 8 G25), (aIc cI g26 8 a_g26_10), (aIc cI g27 8 G27), (aIc cI g33 8 (upd G33 (Int32.toNatClampNeg (nI a0)) (nI be))), (aIc cI g34 8 G34), (aIc cI g35 8 (upd a_g35_10 (Int32.toNatClampNeg (nI i10)) 0)), (aIc cI g36 8 G36), (aJc cJ g37 8 G37)]) hP hD (fun hP hD => ?_)
          refine lv_aload_n hx hb dX8_settlesLevel_78 rfl (lv_at hl 2 rfl) ?_
          refine va_get (D := D) (ci := 8) (v := .ref g26) (C := RX8) (T := TX8) (N := 46) hx hb hts hiX8 hown hE.1 hP 0 rfl rfl 26 (by decide) (hts _ (List.mem_cons_of_mem _ wd_137)) (fun _ h9 => h9) rfl dX8_settlesLevel_79 ?_
          refine lv_iload hx hb dX8_settlesLevel_82 (lv_at hl 1 rfl) ?_
          refine lv_iload hx hb dX8_settlesLevel_84 (lv_at hl 0 rfl) ?_
          refine lv_if_eq (tgt := 99) hx hb dX8_settlesLevel_86 (by decide) (fun _ => ?_) (fun c24 => absurd (by decide) c24)
          refine lv_aload_n hx hb dX8_settlesLevel_99 rfl (lv_at hl 2 rfl) ?_
          refine va_get (D := D) (ci := 8) (v := .ref g26) (C := RX8) (T := TX8) (N := 46) hx hb hts hiX8 hown hE.1 hP 0 rfl rfl 26 (by decide) (hts _ (List.mem_cons_of_mem _ wd_137)) (fun _ h9 => h9) rfl dX8_settlesLevel_100 ?_
          refine lv_iload hx hb dX8_settlesLevel_103 (lv_at hl 1 rfl) ?_
          refine va_iald hx hb hE.1 hP 9 0 rfl rfl (vp_in_nI (n := i10) (by omega) (by decide)) dX8_settlesLevel_105 ?_
          refine lv_topi (fun v25 ev25 => ?_)
          refine va_iast hx hb hE.1 hP hD hS 9 0 rfl rfl (vp_in_nI (n := i10) (by omega) (by decide)) dX8_settlesLevel_106 (fun H locs hP hD hS => ?_)
          refine k_re (w := [(oX8 g gi0 (nI mn) g2 g3 g4 g5 g6 g7 g8 g9 g10 (nI ml) g12 g13 gi14 g15 g16 g17 gi18 g19 g20 g21 g22 g23 g24 g25 g26 g27 g28 gi29 gi30 (nI mv) (nI t0) g33 g34 g35 g36 g37 g38 g39 gi40 g41 g42 gi43 g44 g45), (aIc cI g2 8 G2), (aIc cI g4 8 G4), (aIc cI g5 8 G5), (aIc cI g6 8 G6), (aIc cI g10 64 G10), (aIc cI g12 10 G12), (aIc cI g19 8 G19), (aIc cI g25 8 G25), (aIc cI g26 8 (upd a_g26_10 (Int32.toNatClampNeg (nI i10)) v25)), (aIc cI g27 8 G27), (aIc cI g33 8 (upd G33 (Int32.toNatClampNeg (nI a0)) (nI be))), (aIc cI g34 8 G34), (aIc cI g35 8 (upd a_g35_10 (Int32.toNatClampNeg (nI i10)) 0)), (aIc cI g36 8 G36), (aJc cJ g37 8 G37)]) hP hD (fun hP hD => ?_)
          refine lv_iinc (v := (nI (i10 + 1))) (lv' := [(4, .int (nI (i10 + 1))), (5, .int 0), (0, .ref g), (1, .int (nI l0)), (2, .int (nI a0)), (3, .int (nI be))]) hx hb dX8_settlesLevel_107 hl (k := 1) rfl (nI_1 _) (by decide) rfl (fun ls hl => ?_)
          refine lv_goto (tgt := 10) hx hb dX8_settlesLevel_110 (by decide) ?_
          exact ih10 (i10 + 1) (upd a_g35_10 (Int32.toNatClampNeg (nI i10)) 0) (upd a_g26_10 (Int32.toNatClampNeg (nI i10)) v25) (by omega) (cp_up (x := 0) (by omega) hcp_10 (by decide) (Or.inl rfl)) (by omega) _ _ _ hP hD hS (lv_sub hl [0, 2, 3, 4, 5] rfl)
        · skip
          have hc22 : (v19 >>> ((nI i10) &&& 31)) &&& 1 = 1 := bz_1 hw21 c22
          refine lv_aload_n hx hb dX8_settlesLevel_36 rfl (lv_at hl 1 rfl) ?_
          refine va_get (D := D) (ci := 8) (v := .ref g25) (C := RX8) (T := TX8) (N := 46) hx hb hts hiX8 hown hE.1 hP 0 rfl rfl 25 (by decide) (hts _ (List.mem_cons_of_mem _ wd_136)) (fun _ h9 => h9) rfl dX8_settlesLevel_37 ?_
          refine lv_iload hx hb dX8_settlesLevel_40 (lv_at hl 0 rfl) ?_
          refine va_iald hx hb hE.1 hP 8 0 rfl rfl (vp_in_nI (n := i10) (by omega) (by decide)) dX8_settlesLevel_42 ?_
          refine lv_topi (fun v26 ev26 => ?_)
          refine lv_iload_n hx hb dX8_settlesLevel_43 rfl (lv_at hl 3 rfl) ?_
          refine lv_icmp_ne (tgt := 51) hx hb dX8_settlesLevel_44 (by decide) (fun c27 => ?_) (fun c27 => ?_)
          · skip
            refine lv_iconst (v := 0) hx hb dX8_settlesLevel_51 (by decide) ?_
            refine lv_istore (lv' := [(5, .int 0), (4, .int (nI i10)), (0, .ref g), (1, .int (nI l0)), (2, .int (nI a0)), (3, .int (nI be))]) hx hb dX8_settlesLevel_52 hl (by decide) rfl (fun ls hl => ?_)
            refine lv_aload_n hx hb dX8_settlesLevel_54 rfl (lv_at hl 2 rfl) ?_
            refine va_get (D := D) (ci := 8) (v := .ref g35) (C := RX8) (T := TX8) (N := 46) hx hb hts hiX8 hown hE.1 hP 0 rfl rfl 35 (by decide) (hts _ (List.mem_cons_of_mem _ wd_142)) (fun _ h9 => h9) rfl dX8_settlesLevel_55 ?_
            refine lv_iload hx hb dX8_settlesLevel_58 (lv_at hl 1 rfl) ?_
            refine lv_iload hx hb dX8_settlesLevel_60 (lv_at hl 0 rfl) ?_
            refine lv_if_eq (tgt := 76) hx hb dX8_settlesLevel_62 (by decide) (fun _ => ?_) (fun c28 => absurd (by decide) c28)
            refine lv_iconst (v := 0) hx hb dX8_settlesLevel_76 (by decide) ?_
            refine va_iast hx hb hE.1 hP hD hS 13 0 rfl rfl (vp_in_nI (n := i10) (by omega) (by decide)) dX8_settlesLevel_77 (fun H locs hP hD hS => ?_)
            refine k_re (w := [(oX8 g gi0 (nI mn) g2 g3 g4 g5 g6 g7 g8 g9 g10 (nI ml) g12 g13 gi14 g15 g16 g17 gi18 g19 g20 g21 g22 g23 g24 g25 g26 g27 g28 gi29 gi30 (nI mv) (nI t0) g33 g34 g35 g36 g37 g38 g39 gi40 g41 g42 gi43 g44 g45), (aIc cI g2 8 G2), (aIc cI g4 8 G4), (aIc cI g5 8 G5), (aIc cI g6 8 G6), (aIc cI g10 64 G10), (aIc cI g12 10 G12), (aIc cI g19 8 G19), (aIc cI g25 8 G25), (aIc cI g26 8 a_g26_10), (aIc cI g27 8 G27), (aIc cI g33 8 (upd G33 (Int32.toNatClampNeg (nI a0)) (nI be))), (aIc cI g34 8 G34), (aIc cI g35 8 (upd a_g35_10 (Int32.toNatClampNeg (nI i10)) 0)), (aIc cI g36 8 G36), (aJc cJ g37 8 G37)]) hP hD (fun hP hD => ?_)
            refine lv_aload_n hx hb dX8_settlesLevel_78 rfl (lv_at hl 2 rfl) ?_
            refine va_get (D := D) (ci := 8) (v := .ref g26) (C := RX8) (T := TX8) (N := 46) hx hb hts hiX8 hown hE.1 hP 0 rfl rfl 26 (by decide) (hts _ (List.mem_cons_of_mem _ wd_137)) (fun _ h9 => h9) rfl dX8_settlesLevel_79 ?_
            refine lv_iload hx hb dX8_settlesLevel_82 (lv_at hl 1 rfl) ?_
            refine lv_iload hx hb dX8_settlesLevel_84 (lv_at hl 0 rfl) ?_
            refine lv_if_eq (tgt := 99) hx hb dX8_settlesLevel_86 (by decide) (fun _ => ?_) (fun c29 => absurd (by decide) c29)
            refine lv_aload_n hx hb dX8_settlesLevel_99 rfl (lv_at hl 2 rfl) ?_
            refine va_get (D := D) (ci := 8) (v := .ref g26) (C := RX8) (T := TX8) (N := 46) hx hb hts hiX8 hown hE.1 hP 0 rfl rfl 26 (by decide) (hts _ (List.mem_cons_of_mem _ wd_137)) (fun _ h9 => h9) rfl dX8_settlesLevel_100 ?_
            refine lv_iload hx hb dX8_settlesLevel_103 (lv_at hl 1 rfl) ?_
            refine va_iald hx hb hE.1 hP 9 0 rfl rfl (vp_in_nI (n := i10) (by omega) (by decide)) dX8_settlesLevel_105 ?_
            refine lv_topi (fun v30 ev30 => ?_)
            refine va_iast hx hb hE.1 hP hD hS 9 0 rfl rfl (vp_in_nI (n := i10) (by omega) (by decide)) dX8_settlesLevel_106 (fun H locs hP hD hS => ?_)
            refine k_re (w := [(oX8 g gi0 (nI mn) g2 g3 g4 g5 g6 g7 g8 g9 g10 (nI ml) g12 g13 gi14 g15 g16 g17 gi18 g19 g20 g21 g22 g23 g24 g25 g26 g27 g28 gi29 gi30 (nI mv) (nI t0) g33 g34 g35 g36 g37 g38 g39 gi40 g41 g42 gi43 g44 g45), (aIc cI g2 8 G2), (aIc cI g4 8 G4), (aIc cI g5 8 G5), (aIc cI g6 8 G6), (aIc cI g10 64 G10), (aIc cI g12 10 G12), (aIc cI g19 8 G19), (aIc cI g25 8 G25), (aIc cI g26 8 (upd a_g26_10 (Int32.toNatClampNeg (nI i10)) v30)), (aIc cI g27 8 G27), (aIc cI g33 8 (upd G33 (Int32.toNatClampNeg (nI a0)) (nI be))), (aIc cI g34 8 G34), (aIc cI g35 8 (upd a_g35_10 (Int32.toNatClampNeg (nI i10)) 0)), (aIc cI g36 8 G36), (aJc cJ g37 8 G37)]) hP hD (fun hP hD => ?_)
            refine lv_iinc (v := (nI (i10 + 1))) (lv' := [(4, .int (nI (i10 + 1))), (5, .int 0), (0, .ref g), (1, .int (nI l0)), (2, .int (nI a0)), (3, .int (nI be))]) hx hb dX8_settlesLevel_107 hl (k := 1) rfl (nI_1 _) (by decide) rfl (fun ls hl => ?_)
            refine lv_goto (tgt := 10) hx hb dX8_settlesLevel_110 (by decide) ?_
            exact ih10 (i10 + 1) (upd a_g35_10 (Int32.toNatClampNeg (nI i10)) 0) (upd a_g26_10 (Int32.toNatClampNeg (nI i10)) v30) (by omega) (cp_up (x := 0) (by omega) hcp_10 (by decide) (Or.inl rfl)) (by omega) _ _ _ hP hD hS (lv_sub hl [0, 2, 3, 4, 5] rfl)
          · skip
            refine lv_iconst (v := 1) hx hb dX8_settlesLevel_47 (by decide) ?_
            refine lv_goto (tgt := 52) hx hb dX8_settlesLevel_48 (by decide) ?_
            refine lv_istore (lv' := [(5, .int 1), (4, .int (nI i10)), (0, .ref g), (1, .int (nI l0)), (2, .int (nI a0)), (3, .int (nI be))]) hx hb dX8_settlesLevel_52 hl (by decide) rfl (fun ls hl => ?_)
            refine lv_aload_n hx hb dX8_settlesLevel_54 rfl (lv_at hl 2 rfl) ?_
            refine va_get (D := D) (ci := 8) (v := .ref g35) (C := RX8) (T := TX8) (N := 46) hx hb hts hiX8 hown hE.1 hP 0 rfl rfl 35 (by decide) (hts _ (List.mem_cons_of_mem _ wd_142)) (fun _ h9 => h9) rfl dX8_settlesLevel_55 ?_
            refine lv_iload hx hb dX8_settlesLevel_58 (lv_at hl 1 rfl) ?_
            refine lv_iload hx hb dX8_settlesLevel_60 (lv_at hl 0 rfl) ?_
            refine lv_if_eq (tgt := 76) hx hb dX8_settlesLevel_62 (by decide) (fun c31 => absurd c31 (by decide)) (fun _ => ?_)
            refine lv_aload_n hx hb dX8_settlesLevel_65 rfl (lv_at hl 2 rfl) ?_
            refine lv_iload hx hb dX8_settlesLevel_66 (lv_at hl 1 rfl) ?_
            refine lv_iload_n hx hb dX8_settlesLevel_68 rfl (lv_at hl 3 rfl) ?_
            refine lv_iload_n hx hb dX8_settlesLevel_69 rfl (lv_at hl 5 rfl) ?_
            refine k_iS (va_runV (As := [.int (nI i10), .int (nI l0), .int (nI be)]) (rest := [.int (nI i10), .ref g35]) ⟨hx, hb, hml, hown, hts⟩ (m_X8_owes l D cI cJ H.size g g2 g3 g4 g5 g6 g7 g8 g9 g10 g12 g13 g15 g16 g17 g19 g20 g21 g22 g23 g24 g25 g26 g27 g28 g33 g34 g35 g36 g37 g38 g39 g41 g42 g44 g45 i10 l0 be mn ml mv gi0 gi14 gi18 gi29 gi30 (nI t0) gi40 gi43 G2 G4 G5 G6 G10 G12 G19 li0 wo0 de0 le0 (by omega) (by omega) (by omega) hit hsu hliv hlib hwov hwob hdev hdeb hlev hleb) (cwV 3 hts gX8_settlesLevel_X8_owes rfl rfl rfl (by decide +kernel) ⟨Nat.le_of_ble_eq_true rfl, Nat.le_of_ble_eq_true rfl⟩) (k_preV hE hP hD [0, 1, 2, 3, 4, 5, 6, 7] (by decide +kernel) rfl 0 rfl rfl) rfl rfl hl.1 rfl (lv_room (Nat.le_of_ble_eq_true rfl)) dX8_settlesLevel_70 ⟨Nat.le_of_ble_eq_true rfl, Nat.le_of_ble_eq_true rfl⟩) hP hD hS hA [0, 1, 2, 3, 4, 5, 6, 7] rfl (fun _ _ ⟨_, _, _, _, h9⟩ => h9) (fun r32 H locs hw33 hP hD hS => ?_)
            obtain ⟨z34, hz35, hz36, rfl, -⟩ := hw33
            refine lv_goto (tgt := 77) hx hb dX8_settlesLevel_73 (by decide) ?_
            refine va_iast hx hb hE.1 hP hD hS 13 0 rfl rfl (vp_in_nI (n := i10) (by omega) (by decide)) dX8_settlesLevel_77 (fun H locs hP hD hS => ?_)
            refine k_re (w := [(oX8 g gi0 (nI mn) g2 g3 g4 g5 g6 g7 g8 g9 g10 (nI ml) g12 g13 gi14 g15 g16 g17 gi18 g19 g20 g21 g22 g23 g24 g25 g26 g27 g28 gi29 gi30 (nI mv) (nI t0) g33 g34 g35 g36 g37 g38 g39 gi40 g41 g42 gi43 g44 g45), (aIc cI g2 8 G2), (aIc cI g4 8 G4), (aIc cI g5 8 G5), (aIc cI g6 8 G6), (aIc cI g10 64 G10), (aIc cI g12 10 G12), (aIc cI g19 8 G19), (aIc cI g25 8 G25), (aIc cI g26 8 a_g26_10), (aIc cI g27 8 G27), (aIc cI g33 8 (upd G33 (Int32.toNatClampNeg (nI a0)) (nI be))), (aIc cI g34 8 G34), (aIc cI g35 8 (upd a_g35_10 (Int32.toNatClampNeg (nI i10)) (nI z34))), (aIc cI g36 8 G36), (aJc cJ g37 8 G37)]) hP hD (fun hP hD => ?_)
            refine lv_aload_n hx hb dX8_settlesLevel_78 rfl (lv_at hl 2 rfl) ?_
            refine va_get (D := D) (ci := 8) (v := .ref g26) (C := RX8) (T := TX8) (N := 46) hx hb hts hiX8 hown hE.1 hP 0 rfl rfl 26 (by decide) (hts _ (List.mem_cons_of_mem _ wd_137)) (fun _ h9 => h9) rfl dX8_settlesLevel_79 ?_
            refine lv_iload hx hb dX8_settlesLevel_82 (lv_at hl 1 rfl) ?_
            refine lv_iload hx hb dX8_settlesLevel_84 (lv_at hl 0 rfl) ?_
            refine lv_if_eq (tgt := 99) hx hb dX8_settlesLevel_86 (by decide) (fun c37 => absurd c37 (by decide)) (fun _ => ?_)
            refine lv_aload_n hx hb dX8_settlesLevel_89 rfl (lv_at hl 2 rfl) ?_
            refine va_get (D := D) (ci := 8) (v := .ref g35) (C := RX8) (T := TX8) (N := 46) hx hb hts hiX8 hown hE.1 hP 0 rfl rfl 35 (by decide) (hts _ (List.mem_cons_of_mem _ wd_142)) (fun _ h9 => h9) rfl dX8_settlesLevel_90 ?_
            refine lv_iload hx hb dX8_settlesLevel_93 (lv_at hl 1 rfl) ?_
            refine va_iald hx hb hE.1 hP 13 0 rfl rfl (vp_in_nI (n := i10) (by omega) (by decide)) dX8_settlesLevel_95 ?_
            refine lv_topi (fun v38 ev38 => ?_)
            refine lv_goto (tgt := 106) hx hb dX8_settlesLevel_96 (by decide) ?_
            refine va_iast hx hb hE.1 hP hD hS 9 0 rfl rfl (vp_in_nI (n := i10) (by omega) (by decide)) dX8_settlesLevel_106 (fun H locs hP hD hS => ?_)
            refine k_re (w := [(oX8 g gi0 (nI mn) g2 g3 g4 g5 g6 g7 g8 g9 g10 (nI ml) g12 g13 gi14 g15 g16 g17 gi18 g19 g20 g21 g22 g23 g24 g25 g26 g27 g28 gi29 gi30 (nI mv) (nI t0) g33 g34 g35 g36 g37 g38 g39 gi40 g41 g42 gi43 g44 g45), (aIc cI g2 8 G2), (aIc cI g4 8 G4), (aIc cI g5 8 G5), (aIc cI g6 8 G6), (aIc cI g10 64 G10), (aIc cI g12 10 G12), (aIc cI g19 8 G19), (aIc cI g25 8 G25), (aIc cI g26 8 (upd a_g26_10 (Int32.toNatClampNeg (nI i10)) v38)), (aIc cI g27 8 G27), (aIc cI g33 8 (upd G33 (Int32.toNatClampNeg (nI a0)) (nI be))), (aIc cI g34 8 G34), (aIc cI g35 8 (upd a_g35_10 (Int32.toNatClampNeg (nI i10)) (nI z34))), (aIc cI g36 8 G36), (aJc cJ g37 8 G37)]) hP hD (fun hP hD => ?_)
            refine lv_iinc (v := (nI (i10 + 1))) (lv' := [(4, .int (nI (i10 + 1))), (5, .int 1), (0, .ref g), (1, .int (nI l0)), (2, .int (nI a0)), (3, .int (nI be))]) hx hb dX8_settlesLevel_107 hl (k := 1) rfl (nI_1 _) (by decide) rfl (fun ls hl => ?_)
            refine lv_goto (tgt := 10) hx hb dX8_settlesLevel_110 (by decide) ?_
            have hlq : G25 i10 = nI a0 := by have h9 := ev26.symm.trans c27; rwa [nI_clamp (by omega)] at h9
            have hli9 := hlib i10 (by omega)
            exact ih10 (i10 + 1) (upd a_g35_10 (Int32.toNatClampNeg (nI i10)) (nI z34)) (upd a_g26_10 (Int32.toNatClampNeg (nI i10)) v38) (by omega) (cp_up (by omega) hcp_10 (by omega) (Or.inr ⟨hlq, hz36⟩)) (by omega) _ _ _ hP hD hS (lv_sub hl [0, 2, 3, 4, 5] rfl)
  exact J10 _ 0 G35 G26 (by omega) cp_0 (Nat.lt_succ_self _) _ _ _ hP hD hS (lv_sub hl [0, 1, 2, 3, 4] rfl)

