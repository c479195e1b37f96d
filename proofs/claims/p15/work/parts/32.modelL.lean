def LE (f : Nat → Int32) : Prop := ∃ le : Nat → Nat, nv f le ∧ ∀ k, k < 8 → le k ≤ 9000000
def LO (f : Nat → Int32) : Prop := ∃ lo : Nat → Nat, nv f lo ∧ ∀ k, k < 8 → lo k ≤ 1000000
def SH (f : Nat → Int32) (tt : Nat) : Prop := ∃ sh : Nat → Nat, nv f sh ∧ sm sh 8 = tt
def SP (f : Nat → Int32) (ag : Nat → Nat) : Prop := ∃ sp : Nat → Nat, nv f sp ∧ ∀ k, k < 8 → sp k ≤ ag k
def S19 (f : Nat → Int32) (ag sp : Nat → Nat) (i : Nat) : Prop := ∃ le : Nat → Nat, nv f le ∧ (∀ k, k < 8 → le k ≤ 9000000) ∧ ∀ k, k < i → le k = ag k - sp k
theorem s19_up {f : Nat → Int32} {ag sp : Nat → Nat} {i : Nat} (hi : i < 8) (ha : ag i ≤ 9000000) (H : S19 f ag sp i) : S19 (upd f (Int32.toNatClampNeg (nI i)) (nI (ag i - sp i))) ag sp (i + 1) := by
  obtain ⟨le, h1, h2, h3⟩ := H
  refine ⟨_, nv_up h1 hi (ag i - sp i), fun k hk => ?_, fun k hk => ?_⟩
  · by_cases e : k = i
    · rw [if_pos e]; omega
    · rw [if_neg e]; exact h2 k hk
  · by_cases e : k = i
    · subst e; rw [if_pos rfl]
    · rw [if_neg e]; exact h3 k (by omega)
theorem lo_up {f : Nat → Int32} {i x : Nat} (hi : i < 8) (H : LO f) (hx : x ≤ 1000000) : LO (upd f (Int32.toNatClampNeg (nI i)) (nI x)) := by
  obtain ⟨lo, h1, h2⟩ := H
  refine ⟨_, nv_up h1 hi x, fun k hk => ?_⟩
  by_cases e : k = i
  · rw [if_pos e]; exact hx
  · rw [if_neg e]; exact h2 k hk
theorem cst_up {f : Nat → Int32} {i : Nat} {c : Int32} (hi : i < 8) (h : ∀ k, k < i → f k = c) : ∀ k, k < i + 1 → upd f (Int32.toNatClampNeg (nI i)) c k = c := by
  intro k hk
  rw [nI_clamp (by omega)]
  by_cases e : k = i
  · subst e; rw [pk_us]
  · rw [pk_un e]; exact h k (by omega)
def SL (f lev : Nat → Int32) (le0 : Nat → Nat) (k tt : Nat) : Prop := ∃ sh : Nat → Nat, nv f sh ∧ sm sh 8 = tt ∧ ∀ p, p < 8 → sh p = 0 ∨ (sh p ≤ le0 p ∧ ∃ j : Nat, j < k ∧ lev p = nI j)
theorem sl_0 {f lev : Nat → Int32} {le0 : Nat → Nat} (h : ∀ k, k < 8 → f k = 0) : SL f lev le0 0 0 := ⟨fun _ => 0, h, sm_zero 8, fun _ _ => Or.inl rfl⟩
theorem sl_step {f lev : Nat → Int32} {le0 sh : Nat → Nat} {k tt du : Nat} (hk : k < 8) (hs : sm sh 8 = tt) (hx : ∀ p, p < 8 → sh p = 0 ∨ (sh p ≤ le0 p ∧ ∃ j : Nat, j < k ∧ lev p = nI j)) (h : ∃ s1 : Nat → Nat, nv f s1 ∧ sm s1 8 = sm sh 8 + du ∧ (∀ q, q < 8 → s1 q = sh q ∨ (lev q = nI k ∧ s1 q ≤ sh q + le0 q))) : SL f lev le0 (k + 1) (tt + du) := by
  obtain ⟨s1, h1, h2, h3⟩ := h
  refine ⟨s1, h1, by omega, fun p hp => ?_⟩
  rcases h3 p hp with e | ⟨e, e2⟩
  · rcases hx p hp with q | ⟨q, j, hj, q2⟩
    · exact Or.inl (by omega)
    · exact Or.inr ⟨by omega, j, by omega, q2⟩
  · rcases hx p hp with q | ⟨q, j, hj, q2⟩
    · exact Or.inr ⟨by omega, k, by omega, e⟩
    · have := (nI_eq (a := k) (b := j) (by omega) (by omega)).mp (e.symm.trans q2)
      omega
theorem sp_fin {f lev : Nat → Int32} {ag le0 sp sh : Nat → Nat} {k : Nat} (h : AD f sp sh 8) (hle : ∀ k, k < 8 → le0 k = ag k - sp k) (hsp : ∀ k, k < 8 → sp k ≤ ag k) (hx : ∀ p, p < 8 → sh p = 0 ∨ (sh p ≤ le0 p ∧ ∃ j : Nat, j < k ∧ lev p = nI j)) : SP f ag := by
  refine ⟨_, ad_end h, fun p hp => ?_⟩
  have h1 := hle p hp
  have h2 := hsp p hp
  rcases hx p hp with q | ⟨q, _⟩
  · show sp p + sh p ≤ ag p
    omega
  · show sp p + sh p ≤ ag p
    omega
theorem dX8_settles_0 : decode cX8_settles 0 = .ok (.aload_n 0, 1) := by decide +kernel
theorem dX8_settles_1 : decode cX8_settles 1 = .ok (.iconst 0, 1) := by decide +kernel
theorem dX8_settles_2 : decode cX8_settles 2 = .ok (.putfield 162, 3) := by decide +kernel
theorem dX8_settles_5 : decode cX8_settles 5 = .ok (.aload_n 0, 1) := by decide +kernel
theorem dX8_settles_6 : decode cX8_settles 6 = .ok (.iconst 0, 1) := by decide +kernel
theorem dX8_settles_7 : decode cX8_settles 7 = .ok (.putfield 198, 3) := by decide +kernel
theorem dX8_settles_10 : decode cX8_settles 10 = .ok (.iconst 0, 1) := by decide +kernel
theorem dX8_settles_11 : decode cX8_settles 11 = .ok (.istore_n 2, 1) := by decide +kernel
theorem dX8_settles_12 : decode cX8_settles 12 = .ok (.iload_n 2, 1) := by decide +kernel
theorem dX8_settles_13 : decode cX8_settles 13 = .ok (.bipush 8, 2) := by decide +kernel
theorem dX8_settles_15 : decode cX8_settles 15 = .ok (.if_icmp .ge 107, 3) := by decide +kernel
theorem dX8_settles_18 : decode cX8_settles 18 = .ok (.aload_n 0, 1) := by decide +kernel
theorem dX8_settles_19 : decode cX8_settles 19 = .ok (.getfield 52, 3) := by decide +kernel
theorem dX8_settles_22 : decode cX8_settles 22 = .ok (.iload_n 2, 1) := by decide +kernel
theorem dX8_settles_23 : decode cX8_settles 23 = .ok (.aload_n 0, 1) := by decide +kernel
theorem dX8_settles_24 : decode cX8_settles 24 = .ok (.getfield 13, 3) := by decide +kernel
theorem dX8_settles_27 : decode cX8_settles 27 = .ok (.iload_n 2, 1) := by decide +kernel
theorem dX8_settles_28 : decode cX8_settles 28 = .ok (.iaload, 1) := by decide +kernel
theorem dX8_settles_29 : decode cX8_settles 29 = .ok (.aload_n 0, 1) := by decide +kernel
theorem dX8_settles_30 : decode cX8_settles 30 = .ok (.getfield 79, 3) := by decide +kernel
theorem dX8_settles_33 : decode cX8_settles 33 = .ok (.iload_n 2, 1) := by decide +kernel
theorem dX8_settles_34 : decode cX8_settles 34 = .ok (.iaload, 1) := by decide +kernel
theorem dX8_settles_35 : decode cX8_settles 35 = .ok (.isub, 1) := by decide +kernel
theorem dX8_settles_36 : decode cX8_settles 36 = .ok (.iastore, 1) := by decide +kernel
theorem dX8_settles_37 : decode cX8_settles 37 = .ok (.aload_n 0, 1) := by decide +kernel
theorem dX8_settles_38 : decode cX8_settles 38 = .ok (.getfield 55, 3) := by decide +kernel
theorem dX8_settles_41 : decode cX8_settles 41 = .ok (.iload_n 2, 1) := by decide +kernel
theorem dX8_settles_42 : decode cX8_settles 42 = .ok (.aload_n 0, 1) := by decide +kernel
theorem dX8_settles_43 : decode cX8_settles 43 = .ok (.getfield 201, 3) := by decide +kernel
theorem dX8_settles_46 : decode cX8_settles 46 = .ok (.iload_n 2, 1) := by decide +kernel
theorem dX8_settles_47 : decode cX8_settles 47 = .ok (.invokestatic 154, 3) := by decide +kernel
theorem dX8_settles_50 : decode cX8_settles 50 = .ok (.ifCond .eq 18, 3) := by decide +kernel
theorem dX8_settles_53 : decode cX8_settles 53 = .ok (.aload_n 0, 1) := by decide +kernel
theorem dX8_settles_54 : decode cX8_settles 54 = .ok (.iload_n 2, 1) := by decide +kernel
theorem dX8_settles_55 : decode cX8_settles 55 = .ok (.iload_n 1, 1) := by decide +kernel
theorem dX8_settles_56 : decode cX8_settles 56 = .ok (.aload_n 0, 1) := by decide +kernel
theorem dX8_settles_57 : decode cX8_settles 57 = .ok (.getfield 40, 3) := by decide +kernel
theorem dX8_settles_60 : decode cX8_settles 60 = .ok (.iload_n 1, 1) := by decide +kernel
theorem dX8_settles_61 : decode cX8_settles 61 = .ok (.iaload, 1) := by decide +kernel
theorem dX8_settles_62 : decode cX8_settles 62 = .ok (.invokevirtual 191, 3) := by decide +kernel
theorem dX8_settles_65 : decode cX8_settles 65 = .ok (.goto 4, 3) := by decide +kernel
theorem dX8_settles_68 : decode cX8_settles 68 = .ok (.iconst 0, 1) := by decide +kernel
theorem dX8_settles_69 : decode cX8_settles 69 = .ok (.iastore, 1) := by decide +kernel
theorem dX8_settles_70 : decode cX8_settles 70 = .ok (.aload_n 0, 1) := by decide +kernel
theorem dX8_settles_71 : decode cX8_settles 71 = .ok (.dup, 1) := by decide +kernel
theorem dX8_settles_72 : decode cX8_settles 72 = .ok (.getfield 162, 3) := by decide +kernel
theorem dX8_settles_75 : decode cX8_settles 75 = .ok (.aload_n 0, 1) := by decide +kernel
theorem dX8_settles_76 : decode cX8_settles 76 = .ok (.getfield 55, 3) := by decide +kernel
theorem dX8_settles_79 : decode cX8_settles 79 = .ok (.iload_n 2, 1) := by decide +kernel
theorem dX8_settles_80 : decode cX8_settles 80 = .ok (.iaload, 1) := by decide +kernel
theorem dX8_settles_81 : decode cX8_settles 81 = .ok (.ifCond .le 9, 3) := by decide +kernel
theorem dX8_settles_84 : decode cX8_settles 84 = .ok (.iconst 1, 1) := by decide +kernel
theorem dX8_settles_85 : decode cX8_settles 85 = .ok (.iload_n 2, 1) := by decide +kernel
theorem dX8_settles_86 : decode cX8_settles 86 = .ok (.ishl, 1) := by decide +kernel
theorem dX8_settles_87 : decode cX8_settles 87 = .ok (.goto 4, 3) := by decide +kernel
theorem dX8_settles_90 : decode cX8_settles 90 = .ok (.iconst 0, 1) := by decide +kernel
theorem dX8_settles_91 : decode cX8_settles 91 = .ok (.ior, 1) := by decide +kernel
theorem dX8_settles_92 : decode cX8_settles 92 = .ok (.putfield 162, 3) := by decide +kernel
theorem dX8_settles_95 : decode cX8_settles 95 = .ok (.aload_n 0, 1) := by decide +kernel
theorem dX8_settles_96 : decode cX8_settles 96 = .ok (.getfield 70, 3) := by decide +kernel
theorem dX8_settles_99 : decode cX8_settles 99 = .ok (.iload_n 2, 1) := by decide +kernel
theorem dX8_settles_100 : decode cX8_settles 100 = .ok (.iconst (-1), 1) := by decide +kernel
theorem dX8_settles_101 : decode cX8_settles 101 = .ok (.iastore, 1) := by decide +kernel
theorem dX8_settles_102 : decode cX8_settles 102 = .ok (.aload_n 0, 1) := by decide +kernel
theorem dX8_settles_103 : decode cX8_settles 103 = .ok (.getfield 73, 3) := by decide +kernel
theorem dX8_settles_106 : decode cX8_settles 106 = .ok (.iload_n 2, 1) := by decide +kernel
theorem dX8_settles_107 : decode cX8_settles 107 = .ok (.iconst 0, 1) := by decide +kernel
theorem dX8_settles_108 : decode cX8_settles 108 = .ok (.iastore, 1) := by decide +kernel
theorem dX8_settles_109 : decode cX8_settles 109 = .ok (.aload_n 0, 1) := by decide +kernel
theorem dX8_settles_110 : decode cX8_settles 110 = .ok (.getfield 76, 3) := by decide +kernel
theorem dX8_settles_113 : decode cX8_settles 113 = .ok (.iload_n 2, 1) := by decide +kernel
theorem dX8_settles_114 : decode cX8_settles 114 = .ok (.iconst 0, 1) := by decide +kernel
theorem dX8_settles_115 : decode cX8_settles 115 = .ok (.iastore, 1) := by decide +kernel
theorem dX8_settles_116 : decode cX8_settles 116 = .ok (.iinc 2 1, 3) := by decide +kernel
theorem dX8_settles_119 : decode cX8_settles 119 = .ok (.goto (-107), 3) := by decide +kernel
theorem dX8_settles_122 : decode cX8_settles 122 = .ok (.iconst 0, 1) := by decide +kernel
theorem dX8_settles_123 : decode cX8_settles 123 = .ok (.istore_n 2, 1) := by decide +kernel
theorem dX8_settles_124 : decode cX8_settles 124 = .ok (.iload_n 2, 1) := by decide +kernel
theorem dX8_settles_125 : decode cX8_settles 125 = .ok (.bipush 8, 2) := by decide +kernel
theorem dX8_settles_127 : decode cX8_settles 127 = .ok (.if_icmp .ge 20, 3) := by decide +kernel
theorem dX8_settles_130 : decode cX8_settles 130 = .ok (.aload_n 0, 1) := by decide +kernel
theorem dX8_settles_131 : decode cX8_settles 131 = .ok (.getfield 58, 3) := by decide +kernel
theorem dX8_settles_134 : decode cX8_settles 134 = .ok (.iload_n 2, 1) := by decide +kernel
theorem dX8_settles_135 : decode cX8_settles 135 = .ok (.aload_n 0, 1) := by decide +kernel
theorem dX8_settles_136 : decode cX8_settles 136 = .ok (.iload_n 2, 1) := by decide +kernel
theorem dX8_settles_137 : decode cX8_settles 137 = .ok (.invokevirtual 204, 3) := by decide +kernel
theorem dX8_settles_140 : decode cX8_settles 140 = .ok (.iastore, 1) := by decide +kernel
theorem dX8_settles_141 : decode cX8_settles 141 = .ok (.iinc 2 1, 3) := by decide +kernel
theorem dX8_settles_144 : decode cX8_settles 144 = .ok (.goto (-20), 3) := by decide +kernel
theorem dX8_settles_147 : decode cX8_settles 147 = .ok (.aload_n 0, 1) := by decide +kernel
theorem dX8_settles_148 : decode cX8_settles 148 = .ok (.invokevirtual 207, 3) := by decide +kernel
theorem dX8_settles_151 : decode cX8_settles 151 = .ok (.iconst 0, 1) := by decide +kernel
theorem dX8_settles_152 : decode cX8_settles 152 = .ok (.istore_n 2, 1) := by decide +kernel
theorem dX8_settles_153 : decode cX8_settles 153 = .ok (.iload_n 2, 1) := by decide +kernel
theorem dX8_settles_154 : decode cX8_settles 154 = .ok (.bipush 8, 2) := by decide +kernel
theorem dX8_settles_156 : decode cX8_settles 156 = .ok (.if_icmp .ge 30, 3) := by decide +kernel
theorem dX8_settles_159 : decode cX8_settles 159 = .ok (.aload_n 0, 1) := by decide +kernel
theorem dX8_settles_160 : decode cX8_settles 160 = .ok (.getfield 67, 3) := by decide +kernel
theorem dX8_settles_163 : decode cX8_settles 163 = .ok (.iload_n 2, 1) := by decide +kernel
theorem dX8_settles_164 : decode cX8_settles 164 = .ok (.aload_n 0, 1) := by decide +kernel
theorem dX8_settles_165 : decode cX8_settles 165 = .ok (.getfield 58, 3) := by decide +kernel
theorem dX8_settles_168 : decode cX8_settles 168 = .ok (.iload_n 2, 1) := by decide +kernel
theorem dX8_settles_169 : decode cX8_settles 169 = .ok (.iaload, 1) := by decide +kernel
theorem dX8_settles_170 : decode cX8_settles 170 = .ok (.aload_n 0, 1) := by decide +kernel
theorem dX8_settles_171 : decode cX8_settles 171 = .ok (.getfield 64, 3) := by decide +kernel
theorem dX8_settles_174 : decode cX8_settles 174 = .ok (.iload_n 2, 1) := by decide +kernel
theorem dX8_settles_175 : decode cX8_settles 175 = .ok (.iaload, 1) := by decide +kernel
theorem dX8_settles_176 : decode cX8_settles 176 = .ok (.iconst (-1), 1) := by decide +kernel
theorem dX8_settles_177 : decode cX8_settles 177 = .ok (.ixor, 1) := by decide +kernel
theorem dX8_settles_178 : decode cX8_settles 178 = .ok (.iand, 1) := by decide +kernel
theorem dX8_settles_179 : decode cX8_settles 179 = .ok (.iastore, 1) := by decide +kernel
theorem dX8_settles_180 : decode cX8_settles 180 = .ok (.iinc 2 1, 3) := by decide +kernel
theorem dX8_settles_183 : decode cX8_settles 183 = .ok (.goto (-30), 3) := by decide +kernel
theorem dX8_settles_186 : decode cX8_settles 186 = .ok (.aload_n 0, 1) := by decide +kernel
theorem dX8_settles_187 : decode cX8_settles 187 = .ok (.invokevirtual 210, 3) := by decide +kernel
theorem dX8_settles_190 : decode cX8_settles 190 = .ok (.iconst 0, 1) := by decide +kernel
theorem dX8_settles_191 : decode cX8_settles 191 = .ok (.istore_n 2, 1) := by decide +kernel
theorem dX8_settles_192 : decode cX8_settles 192 = .ok (.iload_n 2, 1) := by decide +kernel
theorem dX8_settles_193 : decode cX8_settles 193 = .ok (.aload_n 0, 1) := by decide +kernel
theorem dX8_settles_194 : decode cX8_settles 194 = .ok (.getfield 165, 3) := by decide +kernel
theorem dX8_settles_197 : decode cX8_settles 197 = .ok (.if_icmp .ge 26, 3) := by decide +kernel
theorem dX8_settles_200 : decode cX8_settles 200 = .ok (.aload_n 0, 1) := by decide +kernel
theorem dX8_settles_201 : decode cX8_settles 201 = .ok (.iload_n 1, 1) := by decide +kernel
theorem dX8_settles_202 : decode cX8_settles 202 = .ok (.iload_n 2, 1) := by decide +kernel
theorem dX8_settles_203 : decode cX8_settles 203 = .ok (.aload_n 0, 1) := by decide +kernel
theorem dX8_settles_204 : decode cX8_settles 204 = .ok (.getfield 40, 3) := by decide +kernel
theorem dX8_settles_207 : decode cX8_settles 207 = .ok (.iload_n 1, 1) := by decide +kernel
theorem dX8_settles_208 : decode cX8_settles 208 = .ok (.iaload, 1) := by decide +kernel
theorem dX8_settles_209 : decode cX8_settles 209 = .ok (.aload_n 0, 1) := by decide +kernel
theorem dX8_settles_210 : decode cX8_settles 210 = .ok (.getfield 198, 3) := by decide +kernel
theorem dX8_settles_213 : decode cX8_settles 213 = .ok (.isub, 1) := by decide +kernel
theorem dX8_settles_214 : decode cX8_settles 214 = .ok (.invokevirtual 213, 3) := by decide +kernel
theorem dX8_settles_217 : decode cX8_settles 217 = .ok (.iinc 2 1, 3) := by decide +kernel
theorem dX8_settles_220 : decode cX8_settles 220 = .ok (.goto (-28), 3) := by decide +kernel
theorem dX8_settles_223 : decode cX8_settles 223 = .ok (.iconst 0, 1) := by decide +kernel
theorem dX8_settles_224 : decode cX8_settles 224 = .ok (.istore_n 2, 1) := by decide +kernel
theorem dX8_settles_225 : decode cX8_settles 225 = .ok (.iload_n 2, 1) := by decide +kernel
theorem dX8_settles_226 : decode cX8_settles 226 = .ok (.bipush 8, 2) := by decide +kernel
theorem dX8_settles_228 : decode cX8_settles 228 = .ok (.if_icmp .ge 24, 3) := by decide +kernel
theorem dX8_settles_231 : decode cX8_settles 231 = .ok (.aload_n 0, 1) := by decide +kernel
theorem dX8_settles_232 : decode cX8_settles 232 = .ok (.getfield 79, 3) := by decide +kernel
theorem dX8_settles_235 : decode cX8_settles 235 = .ok (.iload_n 2, 1) := by decide +kernel
theorem dX8_settles_236 : decode cX8_settles 236 = .ok (.dup2, 1) := by decide +kernel
theorem dX8_settles_237 : decode cX8_settles 237 = .ok (.iaload, 1) := by decide +kernel
theorem dX8_settles_238 : decode cX8_settles 238 = .ok (.aload_n 0, 1) := by decide +kernel
theorem dX8_settles_239 : decode cX8_settles 239 = .ok (.getfield 76, 3) := by decide +kernel
theorem dX8_settles_242 : decode cX8_settles 242 = .ok (.iload_n 2, 1) := by decide +kernel
theorem dX8_settles_243 : decode cX8_settles 243 = .ok (.iaload, 1) := by decide +kernel
theorem dX8_settles_244 : decode cX8_settles 244 = .ok (.iadd, 1) := by decide +kernel
theorem dX8_settles_245 : decode cX8_settles 245 = .ok (.iastore, 1) := by decide +kernel
theorem dX8_settles_246 : decode cX8_settles 246 = .ok (.iinc 2 1, 3) := by decide +kernel
theorem dX8_settles_249 : decode cX8_settles 249 = .ok (.goto (-24), 3) := by decide +kernel
theorem dX8_settles_252 : decode cX8_settles 252 = .ok (.return_, 1) := by decide +kernel
theorem gX8_settles_X8_closes : GoodIn wtX8_settles (wsV RX8 207 RX8 yX8_closes wtX8_closes) := tb_good (tb_v0 wd_437 wd_438 wd_439 wd_5 wd_440)
theorem gX8_settles_X8_isOn : GoodIn wtX8_settles (va_wsS RX8 154 yX8_isOn wtX8_isOn) := tb_good (tb_s0 wd_423 wd_424 wd_5 wd_425)
theorem gX8_settles_X8_laysLevels : GoodIn wtX8_settles (wsV RX8 210 RX8 yX8_laysLevels wtX8_laysLevels) := tb_good (tb_v0 wd_441 wd_442 wd_443 wd_5 wd_444)
theorem gX8_settles_X8_owes : GoodIn wtX8_settles (wsV RX8 191 RX8 yX8_owes wtX8_owes) := tb_good (tb_v0 wd_426 wd_427 wd_428 wd_5 wd_429)
theorem gX8_settles_X8_settlesLevel : GoodIn wtX8_settles (wsV RX8 213 RX8 yX8_settlesLevel wtX8_settlesLevel) := tb_good (tb_v0 wd_446 wd_447 wd_448 wd_5 wd_449)
theorem gX8_settles_X8_yieldsOf : GoodIn wtX8_settles (wsV RX8 204 RX8 yX8_yieldsOf wtX8_yieldsOf) := tb_good (tb_v0 wd_433 wd_434 wd_435 wd_5 wd_436)
set_option maxHeartbeats 4000000 in
set_option maxRecDepth 100000 in
theorem m_X8_settles (l : Launch) (D : va_G) (cI cJ : ClassId) (sz : Nat) (g g2 g3 g4 g5 g6 g7 g8 g9 g10 g12 g13 g15 g16 g17 g19 g20 g21 g22 g23 g24 g25 g26 g27 g28 g33 g34 g35 g36 g37 g38 g39 g41 g42 g44 g45 l0 mn ml mv : Nat) (gi0 gi14 gi18 gi29 gi30 gi32 gi40 gi43 : Int32) (G2 G3 G4 G5 G6 G7 G8 G10 G12 G13 G19 G20 G21 G22 G23 G24 G25 G26 G27 G28 G33 G34 G35 G36 : Nat → Int32) (G37 : Nat → Int64) (li0 wo0 de0 ag0 : Nat → Nat) (hl0 : l0 < 10) (hit : ∀ k, k < 10 → ∃ j : Nat, j < 8 ∧ G12 k = nI j) (hsu : ∀ k, k < 64 → ∃ j : Nat, j ≤ 1000001 ∧ G10 k = nI j) (hliv : nv G2 li0) (hlib : ∀ k, k < 8 → li0 k ≤ 1000000) (hwov : nv G5 wo0) (hwob : ∀ k, k < 8 → wo0 k ≤ 9000000) (hdev : nv G4 de0) (hdeb : ∀ k, k < 8 → de0 k ≤ 99999) (hagv : nv G3 ag0) (hagb : ∀ k, k < 8 → ag0 k ≤ 9000000) (hamt : ∀ k, k < 10 → ∃ j : Nat, j < 1000001 ∧ G13 k = nI j) (hLE : LE G19) (hLO : LO G20) (hsp : SP G28 ag0) : Met l yX8_settles wtX8_settles { frames := 6, cells := 0, slots := 0, locals := 144 } (cPc D cI cJ [.ref g, .int (nI l0)] sz [(oX8 g gi0 (nI mn) g2 g3 g4 g5 g6 g7 g8 g9 g10 (nI ml) g12 g13 gi14 g15 g16 g17 gi18 g19 g20 g21 g22 g23 g24 g25 g26 g27 g28 gi29 gi30 (nI mv) gi32 g33 g34 g35 g36 g37 g38 g39 gi40 g41 g42 gi43 g44 g45), (aIc cI g2 8 G2), (aIc cI g3 8 G3), (aIc cI g4 8 G4), (aIc cI g5 8 G5), (aIc cI g6 8 G6), (aIc cI g7 8 G7), (aIc cI g8 8 G8), (aIc cI g10 64 G10), (aIc cI g12 10 G12), (aIc cI g13 10 G13), (aIc cI g19 8 G19), (aIc cI g20 8 G20), (aIc cI g21 8 G21), (aIc cI g22 8 G22), (aIc cI g23 8 G23), (aIc cI g24 8 G24), (aIc cI g25 8 G25), (aIc cI g26 8 G26), (aIc cI g27 8 G27), (aIc cI g28 8 G28), (aIc cI g33 8 G33), (aIc cI g34 8 G34), (aIc cI g35 8 G35), (aIc cI g36 8 G36), (aJc cJ g37 8 G37)]) (cQv D (fun u => ∃ (G19p G20p G21p G22p G23p G24p G25p G26p G27p G28p G33p G34p G35p G36p : Nat → Int32) (G37p : Nat → Int64) (gi29p gi30p : Int32) (mvp ttp : Nat), (LE G19p) ∧ (LO G20p) ∧ (LW G25p) ∧ (SH G27p ttp) ∧ (ttp ≤ 1000000) ∧ (mvp ≤ 8) ∧ (SP G28p ag0) ∧ u = [(oX8 g gi0 (nI mn) g2 g3 g4 g5 g6 g7 g8 g9 g10 (nI ml) g12 g13 gi14 g15 g16 g17 gi18 g19 g20 g21 g22 g23 g24 g25 g26 g27 g28 gi29p gi30p (nI mvp) (nI ttp) g33 g34 g35 g36 g37 g38 g39 gi40 g41 g42 gi43 g44 g45), (aIc cI g2 8 G2), (aIc cI g3 8 G3), (aIc cI g4 8 G4), (aIc cI g5 8 G5), (aIc cI g6 8 G6), (aIc cI g7 8 G7), (aIc cI g8 8 G8), (aIc cI g10 64 G10), (aIc cI g12 10 G12), (aIc cI g13 10 G13), (aIc cI g19 8 G19p), (aIc cI g20 8 G20p), (aIc cI g21 8 G21p), (aIc cI g22 8 G22p), (aIc cI g23 8 G23p), (aIc cI g24 8 G24p), (aIc cI g25 8 G25p), (aIc cI g26 8 G26p), (aIc cI g27 8 G27p), (aIc cI g28 8 G28p), (aIc cI g33 8 G33p), (aIc cI g34 8 G34p), (aIc cI g35 8 G35p), (aIc cI g36 8 G36p), (aJc cJ g37 8 G37p)]) (va_A [(oX8 g gi0 (nI mn) g2 g3 g4 g5 g6 g7 g8 g9 g10 (nI ml) g12 g13 gi14 g15 g16 g17 gi18 g19 g20 g21 g22 g23 g24 g25 g26 g27 g28 gi29 gi30 (nI mv) gi32 g33 g34 g35 g36 g37 g38 g39 gi40 g41 g42 gi43 g44 g45), (aIc cI g2 8 G2), (aIc cI g3 8 G3), (aIc cI g4 8 G4), (aIc cI g5 8 G5), (aIc cI g6 8 G6), (aIc cI g7 8 G7), (aIc cI g8 8 G8), (aIc cI g10 64 G10), (aIc cI g12 10 G12), (aIc cI g13 10 G13), (aIc cI g19 8 G19), (aIc cI g20 8 G20), (aIc cI g21 8 G21), (aIc cI g22 8 G22), (aIc cI g23 8 G23), (aIc cI g24 8 G24), (aIc cI g25 8 G25), (aIc cI g26 8 G26), (aIc cI g27 8 G27), (aIc cI g28 8 G28), (aIc cI g33 8 G33), (aIc cI g34 8 G34), (aIc cI g35 8 G35), (aIc cI g36 8 G36), (aJc cJ g37 8 G37)] sz)) 0 0 (va_A [(oX8 g gi0 (nI mn) g2 g3 g4 g5 g6 g7 g8 g9 g10 (nI ml) g12 g13 gi14 g15 g16 g17 gi18 g19 g20 g21 g22 g23 g24 g25 g26 g27 g28 gi29 gi30 (nI mv) gi32 g33 g34 g35 g36 g37 g38 g39 gi40 g41 g42 gi43 g44 g45), (aIc cI g2 8 G2), (aIc cI g3 8 G3), (aIc cI g4 8 G4), (aIc cI g5 8 G5), (aIc cI g6 8 G6), (aIc cI g7 8 G7), (aIc cI g8 8 G8), (aIc cI g10 64 G10), (aIc cI g12 10 G12), (aIc cI g13 10 G13), (aIc cI g19 8 G19), (aIc cI g20 8 G20), (aIc cI g21 8 G21), (aIc cI g22 8 G22), (aIc cI g23 8 G23), (aIc cI g24 8 G24), (aIc cI g25 8 G25), (aIc cI g26 8 G26), (aIc cI g27 8 G27), (aIc cI g28 8 G28), (aIc cI g33 8 G33), (aIc cI g34 8 G34), (aIc cI g35 8 G35), (aIc cI g36 8 G36), (aJc cJ g37 8 G37)] sz) := by
  refine k_ofW (Qc := cQv D (fun u => ∃ (G19p G20p G21p G22p G23p G24p G25p G26p G27p G28p G33p G34p G35p G36p : Nat → Int32) (G37p : Nat → Int64) (gi29p gi30p : Int32) (mvp ttp : Nat), (LE G19p) ∧ (LO G20p) ∧ (LW G25p) ∧ (SH G27p ttp) ∧ (ttp ≤ 1000000) ∧ (mvp ≤ 8) ∧ (SP G28p ag0) ∧ u = [(oX8 g gi0 (nI mn) g2 g3 g4 g5 g6 g7 g8 g9 g10 (nI ml) g12 g13 gi14 g15 g16 g17 gi18 g19 g20 g21 g22 g23 g24 g25 g26 g27 g28 gi29p gi30p (nI mvp) (nI ttp) g33 g34 g35 g36 g37 g38 g39 gi40 g41 g42 gi43 g44 g45), (aIc cI g2 8 G2), (aIc cI g3 8 G3), (aIc cI g4 8 G4), (aIc cI g5 8 G5), (aIc cI g6 8 G6), (aIc cI g7 8 G7), (aIc cI g8 8 G8), (aIc cI g10 64 G10), (aIc cI g12 10 G12), (aIc cI g13 10 G13), (aIc cI g19 8 G19p), (aIc cI g20 8 G20p), (aIc cI g21 8 G21p), (aIc cI g22 8 G22p), (aIc cI g23 8 G23p), (aIc cI g24 8 G24p), (aIc cI g25 8 G25p), (aIc cI g26 8 G26p), (aIc cI g27 8 G27p), (aIc cI g28 8 G28p), (aIc cI g33 8 G33p), (aIc cI g34 8 G34p), (aIc cI g35 8 G35p), (aIc cI g36 8 G36p), (aJc cJ g37 8 G37p)])) (by decide) rfl (Nat.le_of_ble_eq_true rfl) ?_
  intro p e s m below meth c A ls hx hb hr hml hts hown hlk hnm hsz hE hP hD hS hA hl
  have hown : s.vm.findClass RX8 = some m.cls := hown
  have hiX8 : ∀ w ∈ u_ws RX8 TX8 46, w ∈ wtX8_settles := fun w h => List.mem_cons_of_mem _ (iuX8 w h)
  have hl : lv_has ls 3 [(0, .ref g), (1, .int (nI l0))] := hl
  obtain ⟨am, ham, eam⟩ := li_at (n := l0) hamt (by omega) (by decide)
  obtain ⟨sp0, hspv, hspb⟩ := hsp
  refine lv_aload_n hx hb dX8_settles_0 rfl (lv_at hl 0 rfl) ?_
  refine lv_iconst (v := 0) hx hb dX8_settles_1 (by decide) ?_
  refine va_put (D := D) (ci := 8) (v := .int 0) (ty := .int) (C := RX8) (T := TX8) (N := 46) hx hb hts hiX8 tyX8 tyX8_ok nmX8 hown hE.1 hP hD hS 0 rfl rfl 29 (by decide) (hts _ (List.mem_cons_of_mem _ wd_421)) (fun _ h9 => h9) rfl (by decide +kernel) rfl rfl (Nat.le_of_ble_eq_true rfl) dX8_settles_2 (fun H locs hP hD hS => ?_)
  refine k_re (w := [(oX8 g gi0 (nI mn) g2 g3 g4 g5 g6 g7 g8 g9 g10 (nI ml) g12 g13 gi14 g15 g16 g17 gi18 g19 g20 g21 g22 g23 g24 g25 g26 g27 g28 0 gi30 (nI mv) gi32 g33 g34 g35 g36 g37 g38 g39 gi40 g41 g42 gi43 g44 g45), (aIc cI g2 8 G2), (aIc cI g3 8 G3), (aIc cI g4 8 G4), (aIc cI g5 8 G5), (aIc cI g6 8 G6), (aIc cI g7 8 G7), (aIc cI g8 8 G8), (aIc cI g10 64 G10), (aIc cI g12 10 G12), (aIc cI g13 10 G13), (aIc cI g19 8 G19), (aIc cI g20 8 G20), (aIc cI g21 8 G21), (aIc cI g22 8 G22), (aIc cI g23 8 G23), (aIc cI g24 8 G24), (aIc cI g25 8 G25), (aIc cI g26 8 G26), (aIc cI g27 8 G27), (aIc cI g28 8 G28), (aIc cI g33 8 G33), (aIc cI g34 8 G34), (aIc cI g35 8 G35), (aIc cI g36 8 G36), (aJc cJ g37 8 G37)]) hP hD (fun hP hD => ?_)
  refine lv_aload_n hx hb dX8_settles_5 rfl (lv_at hl 0 rfl) ?_
  refine lv_iconst (v := 0) hx hb dX8_settles_6 (by decide) ?_
  refine va_put (D := D) (ci := 8) (v := .int 0) (ty := .int) (C := RX8) (T := TX8) (N := 46) hx hb hts hiX8 tyX8 tyX8_ok nmX8 hown hE.1 hP hD hS 0 rfl rfl 32 (by decide) (hts _ (List.mem_cons_of_mem _ wd_412)) (fun _ h9 => h9) rfl (by decide +kernel) rfl rfl (Nat.le_of_ble_eq_true rfl) dX8_settles_7 (fun H locs hP hD hS => ?_)
  refine k_re (w := [(oX8 g gi0 (nI mn) g2 g3 g4 g5 g6 g7 g8 g9 g10 (nI ml) g12 g13 gi14 g15 g16 g17 gi18 g19 g20 g21 g22 g23 g24 g25 g26 g27 g28 0 gi30 (nI mv) 0 g33 g34 g35 g36 g37 g38 g39 gi40 g41 g42 gi43 g44 g45), (aIc cI g2 8 G2), (aIc cI g3 8 G3), (aIc cI g4 8 G4), (aIc cI g5 8 G5), (aIc cI g6 8 G6), (aIc cI g7 8 G7), (aIc cI g8 8 G8), (aIc cI g10 64 G10), (aIc cI g12 10 G12), (aIc cI g13 10 G13), (aIc cI g19 8 G19), (aIc cI g20 8 G20), (aIc cI g21 8 G21), (aIc cI g22 8 G22), (aIc cI g23 8 G23), (aIc cI g24 8 G24), (aIc cI g25 8 G25), (aIc cI g26 8 G26), (aIc cI g27 8 G27), (aIc cI g28 8 G28), (aIc cI g33 8 G33), (aIc cI g34 8 G34), (aIc cI g35 8 G35), (aIc cI g36 8 G36), (aJc cJ g37 8 G37)]) hP hD (fun hP hD => ?_)
  refine lv_iconst (v := 0) hx hb dX8_settles_10 (by decide) ?_
  refine lv_istore_n (lv' := [(2, .int 0), (0, .ref g), (1, .int (nI l0))]) hx hb dX8_settles_11 rfl hl (by decide) rfl (fun ls hl => ?_)
  have J12 : ∀ (zz : Nat) (i12 : Nat) (a_g19_12 a_g20_12 a_g25_12 a_g26_12 a_g27_12 : Nat → Int32) (f8_29_12 : Int32), (i12 ≤ 8) → (S19 a_g19_12 ag0 sp0 i12) → (LO a_g20_12) → (∀ k, k < i12 → a_g27_12 k = 0) → (∀ k, k < i12 → a_g25_12 k = -1) → (8 - i12) < zz → ∀ (H : Heap) (locs : List Loc) (ls : Array Slot), va_P D vwCl [(oX8 g gi0 (nI mn) g2 g3 g4 g5 g6 g7 g8 g9 g10 (nI ml) g12 g13 gi14 g15 g16 g17 gi18 g19 g20 g21 g22 g23 g24 g25 g26 g27 g28 f8_29_12 gi30 (nI mv) 0 g33 g34 g35 g36 g37 g38 g39 gi40 g41 g42 gi43 g44 g45), (aIc cI g2 8 G2), (aIc cI g3 8 G3), (aIc cI g4 8 G4), (aIc cI g5 8 G5), (aIc cI g6 8 G6), (aIc cI g7 8 G7), (aIc cI g8 8 G8), (aIc cI g10 64 G10), (aIc cI g12 10 G12), (aIc cI g13 10 G13), (aIc cI g19 8 a_g19_12), (aIc cI g20 8 a_g20_12), (aIc cI g21 8 G21), (aIc cI g22 8 G22), (aIc cI g23 8 G23), (aIc cI g24 8 G24), (aIc cI g25 8 a_g25_12), (aIc cI g26 8 a_g26_12), (aIc cI g27 8 a_g27_12), (aIc cI g28 8 G28), (aIc cI g33 8 G33), (aIc cI g34 8 G34), (aIc cI g35 8 G35), (aIc cI g36 8 G36), (aJc cJ g37 8 G37)] H → va_D A [(oX8 g gi0 (nI mn) g2 g3 g4 g5 g6 g7 g8 g9 g10 (nI ml) g12 g13 gi14 g15 g16 g17 gi18 g19 g20 g21 g22 g23 g24 g25 g26 g27 g28 f8_29_12 gi30 (nI mv) 0 g33 g34 g35 g36 g37 g38 g39 gi40 g41 g42 gi43 g44 g45), (aIc cI g2 8 G2), (aIc cI g3 8 G3), (aIc cI g4 8 G4), (aIc cI g5 8 G5), (aIc cI g6 8 G6), (aIc cI g7 8 G7), (aIc cI g8 8 G8), (aIc cI g10 64 G10), (aIc cI g12 10 G12), (aIc cI g13 10 G13), (aIc cI g19 8 a_g19_12), (aIc cI g20 8 a_g20_12), (aIc cI g21 8 G21), (aIc cI g22 8 G22), (aIc cI g23 8 G23), (aIc cI g24 8 G24), (aIc cI g25 8 a_g25_12), (aIc cI g26 8 a_g26_12), (aIc cI g27 8 a_g27_12), (aIc cI g28 8 G28), (aIc cI g33 8 G33), (aIc cI g34 8 G34), (aIc cI g35 8 G35), (aIc cI g36 8 G36), (aJc cJ g37 8 G37)] → va_S A s.heap H locs → lv_has ls 3 [(2, .int (nI i12)), (0, .ref g), (1, .int (nI l0))] → W p l e { frames := 6, cells := 0, slots := 0, locals := 144 } s m [.ref g, .int (nI l0)].toArray below meth c H locs 0 0 (MQ below (cQv D (fun u => ∃ (G19p G20p G21p G22p G23p G24p G25p G26p G27p G28p G33p G34p G35p G36p : Nat → Int32) (G37p : Nat → Int64) (gi29p gi30p : Int32) (mvp ttp : Nat), (LE G19p) ∧ (LO G20p) ∧ (LW G25p) ∧ (SH G27p ttp) ∧ (ttp ≤ 1000000) ∧ (mvp ≤ 8) ∧ (SP G28p ag0) ∧ u = [(oX8 g gi0 (nI mn) g2 g3 g4 g5 g6 g7 g8 g9 g10 (nI ml) g12 g13 gi14 g15 g16 g17 gi18 g19 g20 g21 g22 g23 g24 g25 g26 g27 g28 gi29p gi30p (nI mvp) (nI ttp) g33 g34 g35 g36 g37 g38 g39 gi40 g41 g42 gi43 g44 g45), (aIc cI g2 8 G2), (aIc cI g3 8 G3), (aIc cI g4 8 G4), (aIc cI g5 8 G5), (aIc cI g6 8 G6), (aIc cI g7 8 G7), (aIc cI g8 8 G8), (aIc cI g10 64 G10), (aIc cI g12 10 G12), (aIc cI g13 10 G13), (aIc cI g19 8 G19p), (aIc cI g20 8 G20p), (aIc cI g21 8 G21p), (aIc cI g22 8 G22p), (aIc cI g23 8 G23p), (aIc cI g24 8 G24p), (aIc cI g25 8 G25p), (aIc cI g26 8 G26p), (aIc cI g27 8 G27p), (aIc cI g28 8 G28p), (aIc cI g33 8 G33p), (aIc cI g34 8 G34p), (aIc cI g35 8 G35p), (aIc cI g36 8 G36p), (aJc cJ g37 8 G37p)]) A) [.ref g, .int (nI l0)].toArray s 0 0 A) (F0 m 12 ls []) := by
    intro zz
    induction zz with
    | zero => intro i12 a_g19_12 a_g20_12 a_g25_12 a_g26_12 a_g27_12 f8_29_12 _ _ _ _ _; exact fun h => absurd h (Nat.not_lt_zero _)
    | succ zz ih12 =>
      intro i12 a_g19_12 a_g20_12 a_g25_12 a_g26_12 a_g27_12 f8_29_12 hc2_12 hle_12 hlo_12 hz27_12 hm25_12 hmu12 H locs ls hP hD hS hl
      refine lv_iload_n hx hb dX8_settles_12 rfl (lv_at hl 0 rfl) ?_
      refine lv_bipush (v := 8) hx hb dX8_settles_13 (by decide) ?_
      refine lv_icmp_ge (tgt := 122) hx hb dX8_settles_15 (by decide) (fun c1 => ?_) (fun c1 => ?_)
      · skip
        have nc1 : 8 ≤ i12 := (nI_leI (a := 8) (b := i12) (by omega) (by omega)).mp c1
        obtain rfl : i12 = 8 := (by omega)
        obtain ⟨le0, hlev, hleb, hlee⟩ := hle_12
        refine lv_iconst (v := 0) hx hb dX8_settles_122 (by decide) ?_
        refine lv_istore_n (lv' := [(2, .int 0), (0, .ref g), (1, .int (nI l0))]) hx hb dX8_settles_123 rfl hl (by decide) rfl (fun ls hl => ?_)
        have J124 : ∀ (zz : Nat) (i124 : Nat) (a_g21_124 : Nat → Int32), (i124 ≤ 8) → (8 - i124) < zz → ∀ (H : Heap) (locs : List Loc) (ls : Array Slot), va_P D vwCl [(oX8 g gi0 (nI mn) g2 g3 g4 g5 g6 g7 g8 g9 g10 (nI ml) g12 g13 gi14 g15 g16 g17 gi18 g19 g20 g21 g22 g23 g24 g25 g26 g27 g28 f8_29_12 gi30 (nI mv) 0 g33 g34 g35 g36 g37 g38 g39 gi40 g41 g42 gi43 g44 g45), (aIc cI g2 8 G2), (aIc cI g3 8 G3), (aIc cI g4 8 G4), (aIc cI g5 8 G5), (aIc cI g6 8 G6), (aIc cI g7 8 G7), (aIc cI g8 8 G8), (aIc cI g10 64 G10), (aIc cI g12 10 G12), (aIc cI g13 10 G13), (aIc cI g19 8 a_g19_12), (aIc cI g20 8 a_g20_12), (aIc cI g21 8 a_g21_124), (aIc cI g22 8 G22), (aIc cI g23 8 G23), (aIc cI g24 8 G24), (aIc cI g25 8 a_g25_12), (aIc cI g26 8 a_g26_12), (aIc cI g27 8 a_g27_12), (aIc cI g28 8 G28), (aIc cI g33 8 G33), (aIc cI g34 8 G34), (aIc cI g35 8 G35), (aIc cI g36 8 G36), (aJc cJ g37 8 G37)] H → va_D A [(oX8 g gi0 (nI mn) g2 g3 g4 g5 g6 g7 g8 g9 g10 (nI ml) g12 g13 gi14 g15 g16 g17 gi18 g19 g20 g21 g22 g23 g24 g25 g26 g27 g28 f8_29_12 gi30 (nI mv) 0 g33 g34 g35 g36 g37 g38 g39 gi40 g41 g42 gi43 g44 g45), (aIc cI g2 8 G2), (aIc cI g3 8 G3), (aIc cI g4 8 G4), (aIc cI g5 8 G5), (aIc cI g6 8 G6), (aIc cI g7 8 G7), (aIc cI g8 8 G8), (aIc cI g10 64 G10), (aIc cI g12 10 G12), (aIc cI g13 10 G13), (aIc cI g19 8 a_g19_12), (aIc cI g20 8 a_g20_12), (aIc cI g21 8 a_g21_124), (aIc cI g22 8 G22), (aIc cI g23 8 G23), (aIc cI g24 8 G24), (aIc cI g25 8 a_g25_12), (aIc cI g26 8 a_g26_12), (aIc cI g27 8 a_g27_12), (aIc cI g28 8 G28), (aIc cI g33 8 G33), (aIc cI g34 8 G34), (aIc cI g35 8 G35), (aIc cI g36 8 G36), (aJc cJ g37 8 G37)] → va_S A s.heap H locs → lv_has ls 3 [(2, .int (nI i124)), (0, .ref g), (1, .int (nI l0))] → W p l e { frames := 6, cells := 0, slots := 0, locals := 144 } s m [.ref g, .int (nI l0)].toArray below meth c H locs 0 0 (MQ below (cQv D (fun u => ∃ (G19p G20p G21p G22p G23p G24p G25p G26p G27p G28p G33p G34p G35p G36p : Nat → Int32) (G37p : Nat → Int64) (gi29p gi30p : Int32) (mvp ttp : Nat), (LE G19p) ∧ (LO G20p) ∧ (LW G25p) ∧ (SH G27p ttp) ∧ (ttp ≤ 1000000) ∧ (mvp ≤ 8) ∧ (SP G28p ag0) ∧ u = [(oX8 g gi0 (nI mn) g2 g3 g4 g5 g6 g7 g8 g9 g10 (nI ml) g12 g13 gi14 g15 g16 g17 gi18 g19 g20 g21 g22 g23 g24 g25 g26 g27 g28 gi29p gi30p (nI mvp) (nI ttp) g33 g34 g35 g36 g37 g38 g39 gi40 g41 g42 gi43 g44 g45), (aIc cI g2 8 G2), (aIc cI g3 8 G3), (aIc cI g4 8 G4), (aIc cI g5 8 G5), (aIc cI g6 8 G6), (aIc cI g7 8 G7), (aIc cI g8 8 G8), (aIc cI g10 64 G10), (aIc cI g12 10 G12), (aIc cI g13 10 G13), (aIc cI g19 8 G19p), (aIc cI g20 8 G20p), (aIc cI g21 8 G21p), (aIc cI g22 8 G22p), (aIc cI g23 8 G23p), (aIc cI g24 8 G24p), (aIc cI g25 8 G25p), (aIc cI g26 8 G26p), (aIc cI g27 8 G27p), (aIc cI g28 8 G28p), (aIc cI g33 8 G33p), (aIc cI g34 8 G34p), (aIc cI g35 8 G35p), (aIc cI g36 8 G36p), (aJc cJ g37 8 G37p)]) A) [.ref g, .int (nI l0)].toArray s 0 0 A) (F0 m 124 ls []) := by
          intro zz
          induction zz with
          | zero => intro i124 a_g21_124 _; exact fun h => absurd h (Nat.not_lt_zero _)
          | succ zz ih124 =>
            intro i124 a_g21_124 hc2_124 hmu124 H locs ls hP hD hS hl
            refine lv_iload_n hx hb dX8_settles_124 rfl (lv_at hl 0 rfl) ?_
            refine lv_bipush (v := 8) hx hb dX8_settles_125 (by decide) ?_
            refine lv_icmp_ge (tgt := 147) hx hb dX8_settles_127 (by decide) (fun c2 => ?_) (fun c2 => ?_)
            · skip
              have nc2 : 8 ≤ i124 := (nI_leI (a := 8) (b := i124) (by omega) (by omega)).mp c2
              refine lv_aload_n hx hb dX8_settles_147 rfl (lv_at hl 1 rfl) ?_
              refine k_v (va_runV (As := []) (rest := []) ⟨hx, hb, hml, hown, hts⟩ (m_X8_closes l D cI cJ H.size g g2 g3 g4 g5 g6 g7 g8 g9 g10 g12 g13 g15 g16 g17 g19 g20 g21 g22 g23 g24 g25 g26 g27 g28 g33 g34 g35 g36 g37 g38 g39 g41 g42 g44 g45 mn ml mv gi0 gi14 gi18 f8_29_12 gi30 0 gi40 gi43 a_g21_124 G22 G23) (cwV 0 hts gX8_settles_X8_closes rfl rfl rfl (by decide +kernel) ⟨Nat.le_of_ble_eq_true rfl, Nat.le_of_ble_eq_true rfl⟩) (k_preV hE hP hD [0, 13, 14, 15] (by decide +kernel) rfl 0 rfl rfl) rfl rfl hl.1 rfl (lv_room (Nat.le_of_ble_eq_true rfl)) dX8_settles_148 ⟨Nat.le_of_ble_eq_true rfl, Nat.le_of_ble_eq_true rfl⟩) hP hD hS hA [0, 13, 14, 15] [1, 2, 3, 4, 5, 6, 7, 8, 9, 10, 11, 12, 16, 17, 18, 19, 20, 21, 22, 23, 24, 25] rfl (wr := [(aIc cI g2 8 G2), (aIc cI g3 8 G3), (aIc cI g4 8 G4), (aIc cI g5 8 G5), (aIc cI g6 8 G6), (aIc cI g7 8 G7), (aIc cI g8 8 G8), (aIc cI g10 64 G10), (aIc cI g12 10 G12), (aIc cI g13 10 G13), (aIc cI g19 8 a_g19_12), (aIc cI g20 8 a_g20_12), (aIc cI g24 8 G24), (aIc cI g25 8 a_g25_12), (aIc cI g26 8 a_g26_12), (aIc cI g27 8 a_g27_12), (aIc cI g28 8 G28), (aIc cI g33 8 G33), (aIc cI g34 8 G34), (aIc cI g35 8 G35), (aIc cI g36 8 G36), (aJc cJ g37 8 G37)]) rfl (by decide +kernel) (by decide +kernel) (fun u H locs hw3 hP hD hS => ?_)
              obtain ⟨z4, z5, rfl⟩ := hw3
              refine k_re (w := [(aIc cI g2 8 G2), (aIc cI g3 8 G3), (aIc cI g4 8 G4), (aIc cI g5 8 G5), (aIc cI g6 8 G6), (aIc cI g7 8 G7), (aIc cI g8 8 G8), (aIc cI g10 64 G10), (aIc cI g12 10 G12), (aIc cI g13 10 G13), (aIc cI g19 8 a_g19_12), (aIc cI g20 8 a_g20_12), (aIc cI g24 8 G24), (aIc cI g25 8 a_g25_12), (aIc cI g26 8 a_g26_12), (aIc cI g27 8 a_g27_12), (aIc cI g28 8 G28), (aIc cI g33 8 G33), (aIc cI g34 8 G34), (aIc cI g35 8 G35), (aIc cI g36 8 G36), (aJc cJ g37 8 G37), (oX8 g gi0 (nI mn) g2 g3 g4 g5 g6 g7 g8 g9 g10 (nI ml) g12 g13 gi14 g15 g16 g17 gi18 g19 g20 g21 g22 g23 g24 g25 g26 g27 g28 f8_29_12 gi30 (nI mv) 0 g33 g34 g35 g36 g37 g38 g39 gi40 g41 g42 gi43 g44 g45), (aIc cI g21 8 a_g21_124), (aIc cI g22 8 z4), (aIc cI g23 8 z5)]) hP hD (fun hP hD => ?_)
              refine lv_iconst (v := 0) hx hb dX8_settles_151 (by decide) ?_
              refine lv_istore_n (lv' := [(2, .int 0), (0, .ref g), (1, .int (nI l0))]) hx hb dX8_settles_152 rfl hl (by decide) rfl (fun ls hl => ?_)
              have J153 : ∀ (zz : Nat) (i153 : Nat) (a_g24_153 : Nat → Int32), (i153 ≤ 8) → (8 - i153) < zz → ∀ (H : Heap) (locs : List Loc) (ls : Array Slot), va_P D vwCl [(aIc cI g2 8 G2), (aIc cI g3 8 G3), (aIc cI g4 8 G4), (aIc cI g5 8 G5), (aIc cI g6 8 G6), (aIc cI g7 8 G7), (aIc cI g8 8 G8), (aIc cI g10 64 G10), (aIc cI g12 10 G12), (aIc cI g13 10 G13), (aIc cI g19 8 a_g19_12), (aIc cI g20 8 a_g20_12), (aIc cI g24 8 a_g24_153), (aIc cI g25 8 a_g25_12), (aIc cI g26 8 a_g26_12), (aIc cI g27 8 a_g27_12), (aIc cI g28 8 G28), (aIc cI g33 8 G33), (aIc cI g34 8 G34), (aIc cI g35 8 G35), (aIc cI g36 8 G36), (aJc cJ g37 8 G37), (oX8 g gi0 (nI mn) g2 g3 g4 g5 g6 g7 g8 g9 g10 (nI ml) g12 g13 gi14 g15 g16 g17 gi18 g19 g20 g21 g22 g23 g24 g25 g26 g27 g28 f8_29_12 gi30 (nI mv) 0 g33 g34 g35 g36 g37 g38 g39 gi40 g41 g42 gi43 g44 g45), (aIc cI g21 8 a_g21_124), (aIc cI g22 8 z4), (aIc cI g23 8 z5)] H → va_D A [(aIc cI g2 8 G2), (aIc cI g3 8 G3), (aIc cI g4 8 G4), (aIc cI g5 8 G5), (aIc cI g6 8 G6), (aIc cI g7 8 G7), (aIc cI g8 8 G8), (aIc cI g10 64 G10), (aIc cI g12 10 G12), (aIc cI g13 10 G13), (aIc cI g19 8 a_g19_12), (aIc cI g20 8 a_g20_12), (aIc cI g24 8 a_g24_153), (aIc cI g25 8 a_g25_12), (aIc cI g26 8 a_g26_12), (aIc cI g27 8 a_g27_12), (aIc cI g28 8 G28), (aIc cI g33 8 G33), (aIc cI g34 8 G34), (aIc cI g35 8 G35), (aIc cI g36 8 G36), (aJc cJ g37 8 G37), (oX8 g gi0 (nI mn) g2 g3 g4 g5 g6 g7 g8 g9 g10 (nI ml) g12 g13 gi14 g15 g16 g17 gi18 g19 g20 g21 g22 g23 g24 g25 g26 g27 g28 f8_29_12 gi30 (nI mv) 0 g33 g34 g35 g36 g37 g38 g39 gi40 g41 g42 gi43 g44 g45), (aIc cI g21 8 a_g21_124), (aIc cI g22 8 z4), (aIc cI g23 8 z5)] → va_S A s.heap H locs → lv_has ls 3 [(2, .int (nI i153)), (0, .ref g), (1, .int (nI l0))] → W p l e { frames := 6, cells := 0, slots := 0, locals := 144 } s m [.ref g, .int (nI l0)].toArray below meth c H locs 0 0 (MQ below (cQv D (fun u => ∃ (G19p G20p G21p G22p G23p G24p G25p G26p G27p G28p G33p G34p G35p G36p : Nat → Int32) (G37p : Nat → Int64) (gi29p gi30p : Int32) (mvp ttp : Nat), (LE G19p) ∧ (LO G20p) ∧ (LW G25p) ∧ (SH G27p ttp) ∧ (ttp ≤ 1000000) ∧ (mvp ≤ 8) ∧ (SP G28p ag0) ∧ u = [(oX8 g gi0 (nI mn) g2 g3 g4 g5 g6 g7 g8 g9 g10 (nI ml) g12 g13 gi14 g15 g16 g17 gi18 g19 g20 g21 g22 g23 g24 g25 g26 g27 g28 gi29p gi30p (nI mvp) (nI ttp) g33 g34 g35 g36 g37 g38 g39 gi40 g41 g42 gi43 g44 g45), (aIc cI g2 8 G2), (aIc cI g3 8 G3), (aIc cI g4 8 G4), (aIc cI g5 8 G5), (aIc cI g6 8 G6), (aIc cI g7 8 G7), (aIc cI g8 8 G8), (aIc cI g10 64 G10), (aIc cI g12 10 G12), (aIc cI g13 10 G13), (aIc cI g19 8 G19p), (aIc cI g20 8 G20p), (aIc cI g21 8 G21p), (aIc cI g22 8 G22p), (aIc cI g23 8 G23p), (aIc cI g24 8 G24p), (aIc cI g25 8 G25p), (aIc cI g26 8 G26p), (aIc cI g27 8 G27p), (aIc cI g28 8 G28p), (aIc cI g33 8 G33p), (aIc cI g34 8 G34p), (aIc cI g35 8 G35p), (aIc cI g36 8 G36p), (aJc cJ g37 8 G37p)]) A) [.ref g, .int (nI l0)].toArray s 0 0 A) (F0 m 153 ls []) := by
                intro zz
                induction zz with
                | zero => intro i153 a_g24_153 _; exact fun h => absurd h (Nat.not_lt_zero _)
                | succ zz ih153 =>
                  intro i153 a_g24_153 hc2_153 hmu153 H locs ls hP hD hS hl
                  refine lv_iload_n hx hb dX8_settles_153 rfl (lv_at hl 0 rfl) ?_
                  refine lv_bipush (v := 8) hx hb dX8_settles_154 (by decide) ?_
                  refine lv_icmp_ge (tgt := 186) hx hb dX8_settles_156 (by decide) (fun c6 => ?_) (fun c6 => ?_)
                  · skip
                    have nc6 : 8 ≤ i153 := (nI_leI (a := 8) (b := i153) (by omega) (by omega)).mp c6
                    refine lv_aload_n hx hb dX8_settles_186 rfl (lv_at hl 1 rfl) ?_
                    refine k_v (va_runV (As := []) (rest := []) ⟨hx, hb, hml, hown, hts⟩ (m_X8_laysLevels l D cI cJ H.size g g2 g3 g4 g5 g6 g7 g8 g9 g10 g12 g13 g15 g16 g17 g19 g20 g21 g22 g23 g24 g25 g26 g27 g28 g33 g34 g35 g36 g37 g38 g39 g41 g42 g44 g45 mn ml mv gi0 gi14 gi18 f8_29_12 gi30 0 gi40 gi43 G7 a_g24_153 a_g25_12 (fun q hq => Or.inl (hm25_12 q (by omega)))) (cwV 0 hts gX8_settles_X8_laysLevels rfl rfl rfl (by decide +kernel) ⟨Nat.le_of_ble_eq_true rfl, Nat.le_of_ble_eq_true rfl⟩) (k_preV hE hP hD [22, 5, 12, 13] (by decide +kernel) rfl 22 rfl rfl) rfl rfl hl.1 rfl (lv_room (Nat.le_of_ble_eq_true rfl)) dX8_settles_187 ⟨Nat.le_of_ble_eq_true rfl, Nat.le_of_ble_eq_true rfl⟩) hP hD hS hA [22, 5, 12, 13] [0, 1, 2, 3, 4, 6, 7, 8, 9, 10, 11, 14, 15, 16, 17, 18, 19, 20, 21, 23, 24, 25] rfl (wr := [(aIc cI g2 8 G2), (aIc cI g3 8 G3), (aIc cI g4 8 G4), (aIc cI g5 8 G5), (aIc cI g6 8 G6), (aIc cI g8 8 G8), (aIc cI g10 64 G10), (aIc cI g12 10 G12), (aIc cI g13 10 G13), (aIc cI g19 8 a_g19_12), (aIc cI g20 8 a_g20_12), (aIc cI g26 8 a_g26_12), (aIc cI g27 8 a_g27_12), (aIc cI g28 8 G28), (aIc cI g33 8 G33), (aIc cI g34 8 G34), (aIc cI g35 8 G35), (aIc cI g36 8 G36), (aJc cJ g37 8 G37), (aIc cI g21 8 a_g21_124), (aIc cI g22 8 z4), (aIc cI g23 8 z5)]) rfl (by decide +kernel) (by decide +kernel) (fun u H locs hw7 hP hD hS => ?_)
                    obtain ⟨z8, z9, z10, hz11, hz12, rfl⟩ := hw7
                    refine k_re (w := [(aIc cI g2 8 G2), (aIc cI g3 8 G3), (aIc cI g4 8 G4), (aIc cI g5 8 G5), (aIc cI g6 8 G6), (aIc cI g8 8 G8), (aIc cI g10 64 G10), (aIc cI g12 10 G12), (aIc cI g13 10 G13), (aIc cI g19 8 a_g19_12), (aIc cI g20 8 a_g20_12), (aIc cI g26 8 a_g26_12), (aIc cI g27 8 a_g27_12), (aIc cI g28 8 G28), (aIc cI g33 8 G33), (aIc cI g34 8 G34), (aIc cI g35 8 G35), (aIc cI g36 8 G36), (aJc cJ g37 8 G37), (aIc cI g21 8 a_g21_124), (aIc cI g22 8 z4), (aIc cI g23 8 z5), (oX8 g gi0 (nI mn) g2 g3 g4 g5 g6 g7 g8 g9 g10 (nI ml) g12 g13 gi14 g15 g16 g17 gi18 g19 g20 g21 g22 g23 g24 g25 g26 g27 g28 f8_29_12 z9 (nI z10) 0 g33 g34 g35 g36 g37 g38 g39 gi40 g41 g42 gi43 g44 g45), (aIc cI g7 8 G7), (aIc cI g24 8 a_g24_153), (aIc cI g25 8 z8)]) hP hD (fun hP hD => ?_)
                    refine lv_iconst (v := 0) hx hb dX8_settles_190 (by decide) ?_
                    refine lv_istore_n (lv' := [(2, .int 0), (0, .ref g), (1, .int (nI l0))]) hx hb dX8_settles_191 rfl hl (by decide) rfl (fun ls hl => ?_)
                    have J192 : ∀ (zz : Nat) (h2_192 : Nat) (a_g26_192 a_g27_192 a_g33_192 a_g34_192 a_g35_192 a_g36_192 : Nat → Int32) (a_g37_192 : Nat → Int64) (f8_32_192 : Nat), (h2_192 ≤ z10) → (SL a_g27_192 z8 le0 h2_192 f8_32_192) → (f8_32_192 ≤ am) → z10 - h2_192 < zz → ∀ (H : Heap) (locs : List Loc) (ls : Array Slot), va_P D vwCl [(aIc cI g2 8 G2), (aIc cI g3 8 G3), (aIc cI g4 8 G4), (aIc cI g5 8 G5), (aIc cI g6 8 G6), (aIc cI g8 8 G8), (aIc cI g10 64 G10), (aIc cI g12 10 G12), (aIc cI g13 10 G13), (aIc cI g19 8 a_g19_12), (aIc cI g20 8 a_g20_12), (aIc cI g26 8 a_g26_192), (aIc cI g27 8 a_g27_192), (aIc cI g28 8 G28), (aIc cI g33 8 a_g33_192), (aIc cI g34 8 a_g34_192), (aIc cI g35 8 a_g35_192), (aIc cI g36 8 a_g36_192), (aJc cJ g37 8 a_g37_192), (aIc cI g21 8 a_g21_124), (aIc cI g22 8 z4), (aIc cI g23 8 z5), (oX8 g gi0 (nI mn) g2 g3 g4 g5 g6 g7 g8 g9 g10 (nI ml) g12 g13 gi14 g15 g16 g17 gi18 g19 g20 g21 g22 g23 g24 g25 g26 g27 g28 f8_29_12 z9 (nI z10) (nI f8_32_192) g33 g34 g35 g36 g37 g38 g39 gi40 g41 g42 gi43 g44 g45), (aIc cI g7 8 G7), (aIc cI g24 8 a_g24_153), (aIc cI g25 8 z8)] H → va_D A [(aIc cI g2 8 G2), (aIc cI g3 8 G3), (aIc cI g4 8 G4), (aIc cI g5 8 G5), (aIc cI g6 8 G6), (aIc cI g8 8 G8), (aIc cI g10 64 G10), (aIc cI g12 10 G12), (aIc cI g13 10 G13), (aIc cI g19 8 a_g19_12), (aIc cI g20 8 a_g20_12), (aIc cI g26 8 a_g26_192), (aIc cI g27 8 a_g27_192), (aIc cI g28 8 G28), (aIc cI g33 8 a_g33_192), (aIc cI g34 8 a_g34_192), (aIc cI g35 8 a_g35_192), (aIc cI g36 8 a_g36_192), (aJc cJ g37 8 a_g37_192), (aIc cI g21 8 a_g21_124), (aIc cI g22 8 z4), (aIc cI g23 8 z5), (oX8 g gi0 (nI mn) g2 g3 g4 g5 g6 g7 g8 g9 g10 (nI ml) g12 g13 gi14 g15 g16 g17 gi18 g19 g20 g21 g22 g23 g24 g25 g26 g27 g28 f8_29_12 z9 (nI z10) (nI f8_32_192) g33 g34 g35 g36 g37 g38 g39 gi40 g41 g42 gi43 g44 g45), (aIc cI g7 8 G7), (aIc cI g24 8 a_g24_153), (aIc cI g25 8 z8)] → va_S A s.heap H locs → lv_has ls 3 [(2, .int (nI h2_192)), (0, .ref g), (1, .int (nI l0))] → W p l e { frames := 6, cells := 0, slots := 0, locals := 144 } s m [.ref g, .int (nI l0)].toArray below meth c H locs 0 0 (MQ below (cQv D (fun u => ∃ (G19p G20p G21p G22p G23p G24p G25p G26p G27p G28p G33p G34p G35p G36p : Nat → Int32) (G37p : Nat → Int64) (gi29p gi30p : Int32) (mvp ttp : Nat), (LE G19p) ∧ (LO G20p) ∧ (LW G25p) ∧ (SH G27p ttp) ∧ (ttp ≤ 1000000) ∧ (mvp ≤ 8) ∧ (SP G28p ag0) ∧ u = [(oX8 g gi0 (nI mn) g2 g3 g4 g5 g6 g7 g8 g9 g10 (nI ml) g12 g13 gi14 g15 g16 g17 gi18 g19 g20 g21 g22 g23 g24 g25 g26 g27 g28 gi29p gi30p (nI mvp) (nI ttp) g33 g34 g35 g36 g37 g38 g39 gi40 g41 g42 gi43 g44 g45), (aIc cI g2 8 G2), (aIc cI g3 8 G3), (aIc cI g4 8 G4), (aIc cI g5 8 G5), (aIc cI g6 8 G6), (aIc cI g7 8 G7), (aIc cI g8 8 G8), (aIc cI g10 64 G10), (aIc cI g12 10 G12), (aIc cI g13 10 G13), (aIc cI g19 8 G19p), (aIc cI g20 8 G20p), (aIc cI g21 8 G21p), (aIc cI g22 8 G22p), (aIc cI g23 8 G23p), (aIc cI g24 8 G24p), (aIc cI g25 8 G25p), (aIc cI g26 8 G26p), (aIc cI g27 8 G27p), (aIc cI g28 8 G28p), (aIc cI g33 8 G33p), (aIc cI g34 8 G34p), (aIc cI g35 8 G35p), (aIc cI g36 8 G36p), (aJc cJ g37 8 G37p)]) A) [.ref g, .int (nI l0)].toArray s 0 0 A) (F0 m 192 ls []) := by
                      intro zz
                      induction zz with
                      | zero => intro h2_192 a_g26_192 a_g27_192 a_g33_192 a_g34_192 a_g35_192 a_g36_192 a_g37_192 f8_32_192 _ _ _; exact fun h => absurd h (Nat.not_lt_zero _)
                      | succ zz ih192 =>
                        intro h2_192 a_g26_192 a_g27_192 a_g33_192 a_g34_192 a_g35_192 a_g36_192 a_g37_192 f8_32_192 hk_192 hsl_192 htt_192 hmu192 H locs ls hP hD hS hl
                        refine lv_iload_n hx hb dX8_settles_192 rfl (lv_at hl 0 rfl) ?_
                        refine lv_aload_n hx hb dX8_settles_193 rfl (lv_at hl 1 rfl) ?_
                        refine va_get (D := D) (ci := 8) (v := .int (nI z10)) (C := RX8) (T := TX8) (N := 46) hx hb hts hiX8 hown hE.1 hP 22 rfl rfl 31 (by decide) (hts _ (List.mem_cons_of_mem _ wd_422)) (fun _ h9 => h9) rfl dX8_settles_194 ?_
                        refine lv_icmp_ge (tgt := 223) hx hb dX8_settles_197 (by decide) (fun c13 => ?_) (fun c13 => ?_)
                        · skip
                          have nc13 : z10 ≤ h2_192 := (nI_leI (a := z10) (b := h2_192) (by omega) (by omega)).mp c13
                          obtain ⟨sh9, hsh9, hss9, hsx9⟩ := hsl_192
                          refine lv_iconst (v := 0) hx hb dX8_settles_223 (by decide) ?_
                          refine lv_istore_n (lv' := [(2, .int 0), (0, .ref g), (1, .int (nI l0))]) hx hb dX8_settles_224 rfl hl (by decide) rfl (fun ls hl => ?_)
                          have J225 : ∀ (zz : Nat) (i225 : Nat) (a_g28_225 : Nat → Int32), (i225 ≤ 8) → (AD a_g28_225 sp0 sh9 i225) → (8 - i225) < zz → ∀ (H : Heap) (locs : List Loc) (ls : Array Slot), va_P D vwCl [(aIc cI g2 8 G2), (aIc cI g3 8 G3), (aIc cI g4 8 G4), (aIc cI g5 8 G5), (aIc cI g6 8 G6), (aIc cI g8 8 G8), (aIc cI g10 64 G10), (aIc cI g12 10 G12), (aIc cI g13 10 G13), (aIc cI g19 8 a_g19_12), (aIc cI g20 8 a_g20_12), (aIc cI g26 8 a_g26_192), (aIc cI g27 8 a_g27_192), (aIc cI g28 8 a_g28_225), (aIc cI g33 8 a_g33_192), (aIc cI g34 8 a_g34_192), (aIc cI g35 8 a_g35_192), (aIc cI g36 8 a_g36_192), (aJc cJ g37 8 a_g37_192), (aIc cI g21 8 a_g21_124), (aIc cI g22 8 z4), (aIc cI g23 8 z5), (oX8 g gi0 (nI mn) g2 g3 g4 g5 g6 g7 g8 g9 g10 (nI ml) g12 g13 gi14 g15 g16 g17 gi18 g19 g20 g21 g22 g23 g24 g25 g26 g27 g28 f8_29_12 z9 (nI z10) (nI f8_32_192) g33 g34 g35 g36 g37 g38 g39 gi40 g41 g42 gi43 g44 g45), (aIc cI g7 8 G7), (aIc cI g24 8 a_g24_153), (aIc cI g25 8 z8)] H → va_D A [(aIc cI g2 8 G2), (aIc cI g3 8 G3), (aIc cI g4 8 G4), (aIc cI g5 8 G5), (aIc cI g6 8 G6), (aIc cI g8 8 G8), (aIc cI g10 64 G10), (aIc cI g12 10 G12), (aIc cI g13 10 G13), (aIc cI g19 8 a_g19_12), (aIc cI g20 8 a_g20_12), (aIc cI g26 8 a_g26_192), (aIc cI g27 8 a_g27_192), (aIc cI g28 8 a_g28_225), (aIc cI g33 8 a_g33_192), (aIc cI g34 8 a_g34_192), (aIc cI g35 8 a_g35_192), (aIc cI g36 8 a_g36_192), (aJc cJ g37 8 a_g37_192), (aIc cI g21 8 a_g21_124), (aIc cI g22 8 z4), (aIc cI g23 8 z5), (oX8 g gi0 (nI mn) g2 g3 g4 g5 g6 g7 g8 g9 g10 (nI ml) g12 g13 gi14 g15 g16 g17 gi18 g19 g20 g21 g22 g23 g24 g25 g26 g27 g28 f8_29_12 z9 (nI z10) (nI f8_32_192) g33 g34 g35 g36 g37 g38 g39 gi40 g41 g42 gi43 g44 g45), (aIc cI g7 8 G7), (aIc cI g24 8 a_g24_153), (aIc cI g25 8 z8)] → va_S A s.heap H locs → lv_has ls 3 [(2, .int (nI i225)), (0, .ref g), (1, .int (nI l0))] → W p l e { frames := 6, cells := 0, slots := 0, locals := 144 } s m [.ref g, .int (nI l0)].toArray below meth c H locs 0 0 (MQ below (cQv D (fun u => ∃ (G19p G20p G21p G22p G23p G24p G25p G26p G27p G28p G33p G34p G35p G36p : Nat → Int32) (G37p : Nat → Int64) (gi29p gi30p : Int32) (mvp ttp : Nat), (LE G19p) ∧ (LO G20p) ∧ (LW G25p) ∧ (SH G27p ttp) ∧ (ttp ≤ 1000000) ∧ (mvp ≤ 8) ∧ (SP G28p ag0) ∧ u = [(oX8 g gi0 (nI mn) g2 g3 g4 g5 g6 g7 g8 g9 g10 (nI ml) g12 g13 gi14 g15 g16 g17 gi18 g19 g20 g21 g22 g23 g24 g25 g26 g27 g28 gi29p gi30p (nI mvp) (nI ttp) g33 g34 g35 g36 g37 g38 g39 gi40 g41 g42 gi43 g44 g45), (aIc cI g2 8 G2), (aIc cI g3 8 G3), (aIc cI g4 8 G4), (aIc cI g5 8 G5), (aIc cI g6 8 G6), (aIc cI g7 8 G7), (aIc cI g8 8 G8), (aIc cI g10 64 G10), (aIc cI g12 10 G12), (aIc cI g13 10 G13), (aIc cI g19 8 G19p), (aIc cI g20 8 G20p), (aIc cI g21 8 G21p), (aIc cI g22 8 G22p), (aIc cI g23 8 G23p), (aIc cI g24 8 G24p), (aIc cI g25 8 G25p), (aIc cI g26 8 G26p), (aIc cI g27 8 G27p), (aIc cI g28 8 G28p), (aIc cI g33 8 G33p), (aIc cI g34 8 G34p), (aIc cI g35 8 G35p), (aIc cI g36 8 G36p), (aJc cJ g37 8 G37p)]) A) [.ref g, .int (nI l0)].toArray s 0 0 A) (F0 m 225 ls []) := by
                            intro zz
                            induction zz with
                            | zero => intro i225 a_g28_225 _ _; exact fun h => absurd h (Nat.not_lt_zero _)
                            | succ zz ih225 =>
                              intro i225 a_g28_225 hc2_225 hAD_225 hmu225 H locs ls hP hD hS hl
                              refine lv_iload_n hx hb dX8_settles_225 rfl (lv_at hl 0 rfl) ?_
                              refine lv_bipush (v := 8) hx hb dX8_settles_226 (by decide) ?_
                              refine lv_icmp_ge (tgt := 252) hx hb dX8_settles_228 (by decide) (fun c14 => ?_) (fun c14 => ?_)
                              · skip
                                have nc14 : 8 ≤ i225 := (nI_leI (a := 8) (b := i225) (by omega) (by omega)).mp c14
                                refine k_vret (u := [(oX8 g gi0 (nI mn) g2 g3 g4 g5 g6 g7 g8 g9 g10 (nI ml) g12 g13 gi14 g15 g16 g17 gi18 g19 g20 g21 g22 g23 g24 g25 g26 g27 g28 f8_29_12 z9 (nI z10) (nI f8_32_192) g33 g34 g35 g36 g37 g38 g39 gi40 g41 g42 gi43 g44 g45), (aIc cI g2 8 G2), (aIc cI g3 8 G3), (aIc cI g4 8 G4), (aIc cI g5 8 G5), (aIc cI g6 8 G6), (aIc cI g7 8 G7), (aIc cI g8 8 G8), (aIc cI g10 64 G10), (aIc cI g12 10 G12), (aIc cI g13 10 G13), (aIc cI g19 8 a_g19_12), (aIc cI g20 8 a_g20_12), (aIc cI g21 8 a_g21_124), (aIc cI g22 8 z4), (aIc cI g23 8 z5), (aIc cI g24 8 a_g24_153), (aIc cI g25 8 z8), (aIc cI g26 8 a_g26_192), (aIc cI g27 8 a_g27_192), (aIc cI g28 8 a_g28_225), (aIc cI g33 8 a_g33_192), (aIc cI g34 8 a_g34_192), (aIc cI g35 8 a_g35_192), (aIc cI g36 8 a_g36_192), (aJc cJ g37 8 a_g37_192)]) hx hb hr hlk (k_sub hP [22, 0, 1, 2, 3, 4, 23, 5, 6, 7, 8, 9, 10, 19, 20, 21, 24, 25, 11, 12, 13, 14, 15, 16, 17, 18] rfl) (hD.sub [22, 0, 1, 2, 3, 4, 23, 5, 6, 7, 8, 9, 10, 19, 20, 21, 24, 25, 11, 12, 13, 14, 15, 16, 17, 18] (by decide +kernel) rfl) hS dX8_settles_252 ?_
                                exact ⟨a_g19_12, a_g20_12, a_g21_124, z4, z5, a_g24_153, z8, a_g26_192, a_g27_192, a_g28_225, a_g33_192, a_g34_192, a_g35_192, a_g36_192, a_g37_192, f8_29_12, z9, z10, f8_32_192, ⟨le0, hlev, hleb⟩, hlo_12, hz12, ⟨sh9, hsh9, hss9⟩, (by omega), (by omega), (sp_fin (by obtain rfl : i225 = 8 := (by omega); exact hAD_225) hlee hspb hsx9), rfl⟩
                              · skip
                                have nc14 : ¬ 8 ≤ i225 := fun q9 => c14 ((nI_leI (a := 8) (b := i225) (by omega) (by omega)).mpr q9)
                                refine lv_aload_n hx hb dX8_settles_231 rfl (lv_at hl 1 rfl) ?_
                                refine va_get (D := D) (ci := 8) (v := .ref g28) (C := RX8) (T := TX8) (N := 46) hx hb hts hiX8 hown hE.1 hP 22 rfl rfl 28 (by decide) (hts _ (List.mem_cons_of_mem _ wd_139)) (fun _ h9 => h9) rfl dX8_settles_232 ?_
                                refine lv_iload_n hx hb dX8_settles_235 rfl (lv_at hl 0 rfl) ?_
                                refine lv_dup2_11 hx hb dX8_settles_236 rfl rfl ?_
                                refine va_iald hx hb hE.1 hP 13 0 rfl rfl (vp_in_nI (n := i225) (by omega) (by decide)) dX8_settles_237 ?_
                                refine lv_topi (fun v15 ev15 => ?_)
                                obtain rfl : v15 = nI (sp0 i225) := ev15.trans (ad_at hAD_225 (by omega))
                                refine lv_aload_n hx hb dX8_settles_238 rfl (lv_at hl 1 rfl) ?_
                                refine va_get (D := D) (ci := 8) (v := .ref g27) (C := RX8) (T := TX8) (N := 46) hx hb hts hiX8 hown hE.1 hP 22 rfl rfl 27 (by decide) (hts _ (List.mem_cons_of_mem _ wd_138)) (fun _ h9 => h9) rfl dX8_settles_239 ?_
                                refine lv_iload_n hx hb dX8_settles_242 rfl (lv_at hl 0 rfl) ?_
                                refine va_iald hx hb hE.1 hP 12 0 rfl rfl (vp_in_nI (n := i225) (by omega) (by decide)) dX8_settles_243 ?_
                                refine lv_topi (fun v16 ev16 => ?_)
                                obtain rfl : v16 = nI (sh9 i225) := ev16.trans (nv_at hsh9 (by omega))
                                refine lv_iadd hx hb dX8_settles_244 ?_
                                refine lv_topi (fun v17 ev17 => ?_)
                                obtain rfl : v17 = (nI ((sp0 i225) + (sh9 i225))) := by rw [ev17]; exact nI_add (sp0 i225) (sh9 i225)
                                refine va_iast hx hb hE.1 hP hD hS 13 0 rfl rfl (vp_in_nI (n := i225) (by omega) (by decide)) dX8_settles_245 (fun H locs hP hD hS => ?_)
                                refine k_re (w := [(aIc cI g2 8 G2), (aIc cI g3 8 G3), (aIc cI g4 8 G4), (aIc cI g5 8 G5), (aIc cI g6 8 G6), (aIc cI g8 8 G8), (aIc cI g10 64 G10), (aIc cI g12 10 G12), (aIc cI g13 10 G13), (aIc cI g19 8 a_g19_12), (aIc cI g20 8 a_g20_12), (aIc cI g26 8 a_g26_192), (aIc cI g27 8 a_g27_192), (aIc cI g28 8 (upd a_g28_225 (Int32.toNatClampNeg (nI i225)) (nI ((sp0 i225) + (sh9 i225))))), (aIc cI g33 8 a_g33_192), (aIc cI g34 8 a_g34_192), (aIc cI g35 8 a_g35_192), (aIc cI g36 8 a_g36_192), (aJc cJ g37 8 a_g37_192), (aIc cI g21 8 a_g21_124), (aIc cI g22 8 z4), (aIc cI g23 8 z5), (oX8 g gi0 (nI mn) g2 g3 g4 g5 g6 g7 g8 g9 g10 (nI ml) g12 g13 gi14 g15 g16 g17 gi18 g19 g20 g21 g22 g23 g24 g25 g26 g27 g28 f8_29_12 z9 (nI z10) (nI f8_32_192) g33 g34 g35 g36 g37 g38 g39 gi40 g41 g42 gi43 g44 g45), (aIc cI g7 8 G7), (aIc cI g24 8 a_g24_153), (aIc cI g25 8 z8)]) hP hD (fun hP hD => ?_)
                                refine lv_iinc (v := (nI (i225 + 1))) (lv' := [(2, .int (nI (i225 + 1))), (0, .ref g), (1, .int (nI l0))]) hx hb dX8_settles_246 hl (k := 0) rfl (nI_1 _) (by decide) rfl (fun ls hl => ?_)
                                refine lv_goto (tgt := 225) hx hb dX8_settles_249 (by decide) ?_
                                exact ih225 (i225 + 1) (upd a_g28_225 (Int32.toNatClampNeg (nI i225)) (nI ((sp0 i225) + (sh9 i225)))) (by omega) (ad_up hAD_225 (by omega)) (by omega) _ _ _ hP hD hS (lv_sub hl [0, 1, 2] rfl)
                          exact J225 _ 0 G28 (by omega) (ad_0 hspv) (Nat.lt_succ_self _) _ _ _ hP hD hS (lv_sub hl [0, 1, 2] rfl)
                        · skip
                          have nc13 : ¬ z10 ≤ h2_192 := fun q9 => c13 ((nI_leI (a := z10) (b := h2_192) (by omega) (by omega)).mpr q9)
                          obtain ⟨sh0, hsh0, hss0, hsx0⟩ := hsl_192
                          refine lv_aload_n hx hb dX8_settles_200 rfl (lv_at hl 1 rfl) ?_
                          refine lv_iload_n hx hb dX8_settles_201 rfl (lv_at hl 2 rfl) ?_
                          refine lv_iload_n hx hb dX8_settles_202 rfl (lv_at hl 0 rfl) ?_
                          refine lv_aload_n hx hb dX8_settles_203 rfl (lv_at hl 1 rfl) ?_
                          refine va_get (D := D) (ci := 8) (v := .ref g13) (C := RX8) (T := TX8) (N := 46) hx hb hts hiX8 hown hE.1 hP 22 rfl rfl 13 (by decide) (hts _ (List.mem_cons_of_mem _ wd_126)) (fun _ h9 => h9) rfl dX8_settles_204 ?_
                          refine lv_iload_n hx hb dX8_settles_207 rfl (lv_at hl 2 rfl) ?_
                          refine va_iald hx hb hE.1 hP 8 0 rfl rfl (vp_in_nI (n := l0) (by omega) (by decide)) dX8_settles_208 ?_
                          refine lv_topi (fun v18 ev18 => ?_)
                          obtain rfl : v18 = nI am := ev18.trans eam
                          refine lv_aload_n hx hb dX8_settles_209 rfl (lv_at hl 1 rfl) ?_
                          refine va_get (D := D) (ci := 8) (v := .int (nI f8_32_192)) (C := RX8) (T := TX8) (N := 46) hx hb hts hiX8 hown hE.1 hP 22 rfl rfl 32 (by decide) (hts _ (List.mem_cons_of_mem _ wd_412)) (fun _ h9 => h9) rfl dX8_settles_210 ?_
                          refine lv_isub hx hb dX8_settles_213 ?_
                          refine lv_topi (fun v19 ev19 => ?_)
                          obtain rfl : v19 = nI (am - f8_32_192) := by rw [ev19]; exact pk_sub (by omega)
                          refine k_v (va_runV (As := [.int (nI l0), .int (nI h2_192), .int (nI (am - f8_32_192))]) (rest := []) ⟨hx, hb, hml, hown, hts⟩ (m_X8_settlesLevel l D cI cJ H.size g g2 g3 g4 g5 g6 g7 g8 g9 g10 g12 g13 g15 g16 g17 g19 g20 g21 g22 g23 g24 g25 g26 g27 g28 g33 g34 g35 g36 g37 g38 g39 g41 g42 g44 g45 l0 h2_192 (am - f8_32_192) mn ml z10 f8_32_192 gi0 gi14 gi18 f8_29_12 z9 gi40 gi43 G2 G4 G5 G6 G10 G12 a_g19_12 z8 a_g26_192 a_g27_192 a_g33_192 a_g34_192 a_g35_192 a_g36_192 a_g37_192 li0 wo0 de0 le0 sh0 (by omega) (by omega) (by omega) hsh0 hit hsu hliv hlib hwov hwob hdev hdeb hlev hleb) (cwV 3 hts gX8_settles_X8_settlesLevel rfl rfl rfl (by decide +kernel) ⟨Nat.le_of_ble_eq_true rfl, Nat.le_of_ble_eq_true rfl⟩) (k_preV hE hP hD [22, 0, 2, 3, 4, 6, 7, 9, 25, 11, 12, 14, 15, 16, 17, 18] (by decide +kernel) rfl 22 rfl rfl) rfl rfl hl.1 rfl (lv_room (Nat.le_of_ble_eq_true rfl)) dX8_settles_214 ⟨Nat.le_of_ble_eq_true rfl, Nat.le_of_ble_eq_true rfl⟩) hP hD hS hA [22, 0, 2, 3, 4, 6, 7, 9, 25, 11, 12, 14, 15, 16, 17, 18] [1, 5, 8, 10, 13, 19, 20, 21, 23, 24] rfl (wr := [(aIc cI g3 8 G3), (aIc cI g8 8 G8), (aIc cI g13 10 G13), (aIc cI g20 8 a_g20_12), (aIc cI g28 8 G28), (aIc cI g21 8 a_g21_124), (aIc cI g22 8 z4), (aIc cI g23 8 z5), (aIc cI g7 8 G7), (aIc cI g24 8 a_g24_153)]) rfl (by decide +kernel) (by decide +kernel) (fun u H locs hw20 hP hD hS => ?_)
                          obtain ⟨z21, z22, z23, z24, z25, z26, z27, z28, hz29, hz30, rfl⟩ := hw20
                          refine k_re (w := [(aIc cI g3 8 G3), (aIc cI g8 8 G8), (aIc cI g13 10 G13), (aIc cI g20 8 a_g20_12), (aIc cI g28 8 G28), (aIc cI g21 8 a_g21_124), (aIc cI g22 8 z4), (aIc cI g23 8 z5), (aIc cI g7 8 G7), (aIc cI g24 8 a_g24_153), (oX8 g gi0 (nI mn) g2 g3 g4 g5 g6 g7 g8 g9 g10 (nI ml) g12 g13 gi14 g15 g16 g17 gi18 g19 g20 g21 g22 g23 g24 g25 g26 g27 g28 f8_29_12 z9 (nI z10) (nI (f8_32_192 + z21)) g33 g34 g35 g36 g37 g38 g39 gi40 g41 g42 gi43 g44 g45), (aIc cI g2 8 G2), (aIc cI g4 8 G4), (aIc cI g5 8 G5), (aIc cI g6 8 G6), (aIc cI g10 64 G10), (aIc cI g12 10 G12), (aIc cI g19 8 a_g19_12), (aIc cI g25 8 z8), (aIc cI g26 8 z22), (aIc cI g27 8 z23), (aIc cI g33 8 z24), (aIc cI g34 8 z25), (aIc cI g35 8 z26), (aIc cI g36 8 z27), (aJc cJ g37 8 z28)]) hP hD (fun hP hD => ?_)
                          refine lv_iinc (v := (nI (h2_192 + 1))) (lv' := [(2, .int (nI (h2_192 + 1))), (0, .ref g), (1, .int (nI l0))]) hx hb dX8_settles_217 hl (k := 0) rfl (nI_1 _) (by decide) rfl (fun ls hl => ?_)
                          refine lv_goto (tgt := 192) hx hb dX8_settles_220 (by decide) ?_
                          exact ih192 (h2_192 + 1) z22 z23 z24 z25 z26 z27 z28 (f8_32_192 + z21) (by omega) (sl_step (by omega) hss0 hsx0 hz29) (by omega) (by omega) _ _ _ (k_sub hP [11, 0, 12, 13, 14, 1, 15, 16, 2, 17, 3, 19, 20, 4, 21, 22, 23, 24, 25, 5, 6, 7, 10, 8, 9, 18] rfl) (hD.sub [11, 0, 12, 13, 14, 1, 15, 16, 2, 17, 3, 19, 20, 4, 21, 22, 23, 24, 25, 5, 6, 7, 10, 8, 9, 18] (by decide +kernel) rfl) hS (lv_sub hl [0, 1, 2] rfl)
                    exact J192 _ 0 a_g26_12 a_g27_12 G33 G34 G35 G36 G37 0 (by omega) (sl_0 (fun k hk => hz27_12 k (by omega))) (by omega) (Nat.lt_succ_self _) _ _ _ hP hD hS (lv_sub hl [0, 1, 2] rfl)
                  · skip
                    have nc6 : ¬ 8 ≤ i153 := fun q9 => c6 ((nI_leI (a := 8) (b := i153) (by omega) (by omega)).mpr q9)
                    refine lv_aload_n hx hb dX8_settles_159 rfl (lv_at hl 1 rfl) ?_
                    refine va_get (D := D) (ci := 8) (v := .ref g24) (C := RX8) (T := TX8) (N := 46) hx hb hts hiX8 hown hE.1 hP 22 rfl rfl 24 (by decide) (hts _ (List.mem_cons_of_mem _ wd_135)) (fun _ h9 => h9) rfl dX8_settles_160 ?_
                    refine lv_iload_n hx hb dX8_settles_163 rfl (lv_at hl 0 rfl) ?_
                    refine lv_aload_n hx hb dX8_settles_164 rfl (lv_at hl 1 rfl) ?_
                    refine va_get (D := D) (ci := 8) (v := .ref g21) (C := RX8) (T := TX8) (N := 46) hx hb hts hiX8 hown hE.1 hP 22 rfl rfl 21 (by decide) (hts _ (List.mem_cons_of_mem _ wd_132)) (fun _ h9 => h9) rfl dX8_settles_165 ?_
                    refine lv_iload_n hx hb dX8_settles_168 rfl (lv_at hl 0 rfl) ?_
                    refine va_iald hx hb hE.1 hP 23 0 rfl rfl (vp_in_nI (n := i153) (by omega) (by decide)) dX8_settles_169 ?_
                    refine lv_topi (fun v31 ev31 => ?_)
                    refine lv_aload_n hx hb dX8_settles_170 rfl (lv_at hl 1 rfl) ?_
                    refine va_get (D := D) (ci := 8) (v := .ref g23) (C := RX8) (T := TX8) (N := 46) hx hb hts hiX8 hown hE.1 hP 22 rfl rfl 23 (by decide) (hts _ (List.mem_cons_of_mem _ wd_134)) (fun _ h9 => h9) rfl dX8_settles_171 ?_
                    refine lv_iload_n hx hb dX8_settles_174 rfl (lv_at hl 0 rfl) ?_
                    refine va_iald hx hb hE.1 hP 25 0 rfl rfl (vp_in_nI (n := i153) (by omega) (by decide)) dX8_settles_175 ?_
                    refine lv_topi (fun v32 ev32 => ?_)
                    refine lv_iconst (v := (-1)) hx hb dX8_settles_176 (by decide) ?_
                    refine lv_ixor hx hb dX8_settles_177 ?_
                    refine lv_topi (fun v33 ev33 => ?_)
                    refine lv_iand hx hb dX8_settles_178 ?_
                    refine lv_topi (fun v34 ev34 => ?_)
                    refine va_iast hx hb hE.1 hP hD hS 12 0 rfl rfl (vp_in_nI (n := i153) (by omega) (by decide)) dX8_settles_179 (fun H locs hP hD hS => ?_)
                    refine k_re (w := [(aIc cI g2 8 G2), (aIc cI g3 8 G3), (aIc cI g4 8 G4), (aIc cI g5 8 G5), (aIc cI g6 8 G6), (aIc cI g7 8 G7), (aIc cI g8 8 G8), (aIc cI g10 64 G10), (aIc cI g12 10 G12), (aIc cI g13 10 G13), (aIc cI g19 8 a_g19_12), (aIc cI g20 8 a_g20_12), (aIc cI g24 8 (upd a_g24_153 (Int32.toNatClampNeg (nI i153)) v34)), (aIc cI g25 8 a_g25_12), (aIc cI g26 8 a_g26_12), (aIc cI g27 8 a_g27_12), (aIc cI g28 8 G28), (aIc cI g33 8 G33), (aIc cI g34 8 G34), (aIc cI g35 8 G35), (aIc cI g36 8 G36), (aJc cJ g37 8 G37), (oX8 g gi0 (nI mn) g2 g3 g4 g5 g6 g7 g8 g9 g10 (nI ml) g12 g13 gi14 g15 g16 g17 gi18 g19 g20 g21 g22 g23 g24 g25 g26 g27 g28 f8_29_12 gi30 (nI mv) 0 g33 g34 g35 g36 g37 g38 g39 gi40 g41 g42 gi43 g44 g45), (aIc cI g21 8 a_g21_124), (aIc cI g22 8 z4), (aIc cI g23 8 z5)]) hP hD (fun hP hD => ?_)
                    refine lv_iinc (v := (nI (i153 + 1))) (lv' := [(2, .int (nI (i153 + 1))), (0, .ref g), (1, .int (nI l0))]) hx hb dX8_settles_180 hl (k := 0) rfl (nI_1 _) (by decide) rfl (fun ls hl => ?_)
                    refine lv_goto (tgt := 153) hx hb dX8_settles_183 (by decide) ?_
                    exact ih153 (i153 + 1) (upd a_g24_153 (Int32.toNatClampNeg (nI i153)) v34) (by omega) (by omega) _ _ _ hP hD hS (lv_sub hl [0, 1, 2] rfl)
              exact J153 _ 0 G24 (by omega) (Nat.lt_succ_self _) _ _ _ hP hD hS (lv_sub hl [0, 1, 2] rfl)
            · skip
              have nc2 : ¬ 8 ≤ i124 := fun q9 => c2 ((nI_leI (a := 8) (b := i124) (by omega) (by omega)).mpr q9)
              refine lv_aload_n hx hb dX8_settles_130 rfl (lv_at hl 1 rfl) ?_
              refine va_get (D := D) (ci := 8) (v := .ref g21) (C := RX8) (T := TX8) (N := 46) hx hb hts hiX8 hown hE.1 hP 0 rfl rfl 21 (by decide) (hts _ (List.mem_cons_of_mem _ wd_132)) (fun _ h9 => h9) rfl dX8_settles_131 ?_
              refine lv_iload_n hx hb dX8_settles_134 rfl (lv_at hl 0 rfl) ?_
              refine lv_aload_n hx hb dX8_settles_135 rfl (lv_at hl 1 rfl) ?_
              refine lv_iload_n hx hb dX8_settles_136 rfl (lv_at hl 0 rfl) ?_
              refine k_iS (va_runV (As := [.int (nI i124)]) (rest := [.int (nI i124), .ref g21]) ⟨hx, hb, hml, hown, hts⟩ (m_X8_yieldsOf l D cI cJ H.size g g2 g3 g4 g5 g6 g7 g8 g9 g10 g12 g13 g15 g16 g17 g19 g20 g21 g22 g23 g24 g25 g26 g27 g28 g33 g34 g35 g36 g37 g38 g39 g41 g42 g44 g45 i124 mn ml mv gi0 gi14 gi18 f8_29_12 gi30 0 gi40 gi43 G7 G8 (by omega)) (cwV 1 hts gX8_settles_X8_yieldsOf rfl rfl rfl (by decide +kernel) ⟨Nat.le_of_ble_eq_true rfl, Nat.le_of_ble_eq_true rfl⟩) (k_preV hE hP hD [0, 6, 7] (by decide +kernel) rfl 0 rfl rfl) rfl rfl hl.1 rfl (lv_room (Nat.le_of_ble_eq_true rfl)) dX8_settles_137 ⟨Nat.le_of_ble_eq_true rfl, Nat.le_of_ble_eq_true rfl⟩) hP hD hS hA [0, 6, 7] rfl (fun _ _ h9 => h9) (fun r35 H locs hw36 hP hD hS => ?_)
              refine va_iast hx hb hE.1 hP hD hS 13 0 rfl rfl (vp_in_nI (n := i124) (by omega) (by decide)) dX8_settles_140 (fun H locs hP hD hS => ?_)
              refine k_re (w := [(oX8 g gi0 (nI mn) g2 g3 g4 g5 g6 g7 g8 g9 g10 (nI ml) g12 g13 gi14 g15 g16 g17 gi18 g19 g20 g21 g22 g23 g24 g25 g26 g27 g28 f8_29_12 gi30 (nI mv) 0 g33 g34 g35 g36 g37 g38 g39 gi40 g41 g42 gi43 g44 g45), (aIc cI g2 8 G2), (aIc cI g3 8 G3), (aIc cI g4 8 G4), (aIc cI g5 8 G5), (aIc cI g6 8 G6), (aIc cI g7 8 G7), (aIc cI g8 8 G8), (aIc cI g10 64 G10), (aIc cI g12 10 G12), (aIc cI g13 10 G13), (aIc cI g19 8 a_g19_12), (aIc cI g20 8 a_g20_12), (aIc cI g21 8 (upd a_g21_124 (Int32.toNatClampNeg (nI i124)) r35)), (aIc cI g22 8 G22), (aIc cI g23 8 G23), (aIc cI g24 8 G24), (aIc cI g25 8 a_g25_12), (aIc cI g26 8 a_g26_12), (aIc cI g27 8 a_g27_12), (aIc cI g28 8 G28), (aIc cI g33 8 G33), (aIc cI g34 8 G34), (aIc cI g35 8 G35), (aIc cI g36 8 G36), (aJc cJ g37 8 G37)]) hP hD (fun hP hD => ?_)
              refine lv_iinc (v := (nI (i124 + 1))) (lv' := [(2, .int (nI (i124 + 1))), (0, .ref g), (1, .int (nI l0))]) hx hb dX8_settles_141 hl (k := 0) rfl (nI_1 _) (by decide) rfl (fun ls hl => ?_)
              refine lv_goto (tgt := 124) hx hb dX8_settles_144 (by decide) ?_
              exact ih124 (i124 + 1) (upd a_g21_124 (Int32.toNatClampNeg (nI i124)) r35) (by omega) (by omega) _ _ _ hP hD hS (lv_sub hl [0, 1, 2] rfl)
        exact J124 _ 0 G21 (by omega) (Nat.lt_succ_self _) _ _ _ hP hD hS (lv_sub hl [0, 1, 2] rfl)
      · skip
        have nc1 : ¬ 8 ≤ i12 := fun q9 => c1 ((nI_leI (a := 8) (b := i12) (by omega) (by omega)).mpr q9)
        refine lv_aload_n hx hb dX8_settles_18 rfl (lv_at hl 1 rfl) ?_
        refine va_get (D := D) (ci := 8) (v := .ref g19) (C := RX8) (T := TX8) (N := 46) hx hb hts hiX8 hown hE.1 hP 0 rfl rfl 19 (by decide) (hts _ (List.mem_cons_of_mem _ wd_130)) (fun _ h9 => h9) rfl dX8_settles_19 ?_
        refine lv_iload_n hx hb dX8_settles_22 rfl (lv_at hl 0 rfl) ?_
        refine lv_aload_n hx hb dX8_settles_23 rfl (lv_at hl 1 rfl) ?_
        refine va_get (D := D) (ci := 8) (v := .ref g3) (C := RX8) (T := TX8) (N := 46) hx hb hts hiX8 hown hE.1 hP 0 rfl rfl 3 (by decide) (hts _ (List.mem_cons_of_mem _ wd_117)) (fun _ h9 => h9) rfl dX8_settles_24 ?_
        refine lv_iload_n hx hb dX8_settles_27 rfl (lv_at hl 0 rfl) ?_
        refine va_iald hx hb hE.1 hP 2 0 rfl rfl (vp_in_nI (n := i12) (by omega) (by decide)) dX8_settles_28 ?_
        refine lv_topi (fun v37 ev37 => ?_)
        obtain rfl : v37 = nI (ag0 i12) := ev37.trans (nv_at hagv (by omega))
        refine lv_aload_n hx hb dX8_settles_29 rfl (lv_at hl 1 rfl) ?_
        refine va_get (D := D) (ci := 8) (v := .ref g28) (C := RX8) (T := TX8) (N := 46) hx hb hts hiX8 hown hE.1 hP 0 rfl rfl 28 (by decide) (hts _ (List.mem_cons_of_mem _ wd_139)) (fun _ h9 => h9) rfl dX8_settles_30 ?_
        refine lv_iload_n hx hb dX8_settles_33 rfl (lv_at hl 0 rfl) ?_
        refine va_iald hx hb hE.1 hP 20 0 rfl rfl (vp_in_nI (n := i12) (by omega) (by decide)) dX8_settles_34 ?_
        refine lv_topi (fun v38 ev38 => ?_)
        obtain rfl : v38 = nI (sp0 i12) := ev38.trans (nv_at hspv (by omega))
        refine lv_isub hx hb dX8_settles_35 ?_
        refine lv_topi (fun v39 ev39 => ?_)
        have hagb_ := hagb i12 (by omega)
        have hspb_ := hspb i12 (by omega)
        obtain rfl : v39 = nI (ag0 i12 - sp0 i12) := by rw [ev39]; exact pk_sub (by omega)
        refine va_iast hx hb hE.1 hP hD hS 11 0 rfl rfl (vp_in_nI (n := i12) (by omega) (by decide)) dX8_settles_36 (fun H locs hP hD hS => ?_)
        refine k_re (w := [(oX8 g gi0 (nI mn) g2 g3 g4 g5 g6 g7 g8 g9 g10 (nI ml) g12 g13 gi14 g15 g16 g17 gi18 g19 g20 g21 g22 g23 g24 g25 g26 g27 g28 f8_29_12 gi30 (nI mv) 0 g33 g34 g35 g36 g37 g38 g39 gi40 g41 g42 gi43 g44 g45), (aIc cI g2 8 G2), (aIc cI g3 8 G3), (aIc cI g4 8 G4), (aIc cI g5 8 G5), (aIc cI g6 8 G6), (aIc cI g7 8 G7), (aIc cI g8 8 G8), (aIc cI g10 64 G10), (aIc cI g12 10 G12), (aIc cI g13 10 G13), (aIc cI g19 8 (upd a_g19_12 (Int32.toNatClampNeg (nI i12)) (nI (ag0 i12 - sp0 i12)))), (aIc cI g20 8 a_g20_12), (aIc cI g21 8 G21), (aIc cI g22 8 G22), (aIc cI g23 8 G23), (aIc cI g24 8 G24), (aIc cI g25 8 a_g25_12), (aIc cI g26 8 a_g26_12), (aIc cI g27 8 a_g27_12), (aIc cI g28 8 G28), (aIc cI g33 8 G33), (aIc cI g34 8 G34), (aIc cI g35 8 G35), (aIc cI g36 8 G36), (aJc cJ g37 8 G37)]) hP hD (fun hP hD => ?_)
        refine lv_aload_n hx hb dX8_settles_37 rfl (lv_at hl 1 rfl) ?_
        refine va_get (D := D) (ci := 8) (v := .ref g20) (C := RX8) (T := TX8) (N := 46) hx hb hts hiX8 hown hE.1 hP 0 rfl rfl 20 (by decide) (hts _ (List.mem_cons_of_mem _ wd_131)) (fun _ h9 => h9) rfl dX8_settles_38 ?_
        refine lv_iload_n hx hb dX8_settles_41 rfl (lv_at hl 0 rfl) ?_
        refine lv_aload_n hx hb dX8_settles_42 rfl (lv_at hl 1 rfl) ?_
        refine va_get (D := D) (ci := 8) (v := .int gi18) (C := RX8) (T := TX8) (N := 46) hx hb hts hiX8 hown hE.1 hP 0 rfl rfl 18 (by decide) (hts _ (List.mem_cons_of_mem _ wd_411)) (fun _ h9 => h9) rfl dX8_settles_43 ?_
        refine lv_iload_n hx hb dX8_settles_46 rfl (lv_at hl 0 rfl) ?_
        refine k_iS (va_runS (As := [.int gi18, .int (nI i12)]) (rest := [.int (nI i12), .ref g20]) ⟨hx, hb, hml, hown, hts⟩ (m_X8_isOn l D cI cJ H.size gi18 (nI i12)) (va_cwS 2 hts gX8_settles_X8_isOn rfl rfl rfl (by decide +kernel) ⟨Nat.le_of_ble_eq_true rfl, Nat.le_of_ble_eq_true rfl⟩) (k_pre hE hP hD [] (by decide +kernel) rfl) rfl rfl hl.1 rfl (lv_room (Nat.le_of_ble_eq_true rfl)) dX8_settles_47 ⟨Nat.le_of_ble_eq_true rfl, Nat.le_of_ble_eq_true rfl⟩) hP hD hS hA [] rfl (fun _ _ h9 => h9.2) (fun r40 H locs hw41 hP hD hS => ?_)
        obtain ⟨hw41, -⟩ := hw41
        refine lv_if_eq (tgt := 68) hx hb dX8_settles_50 (by decide) (fun c42 => ?_) (fun c42 => ?_)
        · skip
          have hc42 : ¬ ((gi18 >>> ((nI i12) &&& 31)) &&& 1 = 1) := bz_0 hw41 c42
          refine lv_iconst (v := 0) hx hb dX8_settles_68 (by decide) ?_
          refine va_iast hx hb hE.1 hP hD hS 12 0 rfl rfl (vp_in_nI (n := i12) (by omega) (by decide)) dX8_settles_69 (fun H locs hP hD hS => ?_)
          refine k_re (w := [(oX8 g gi0 (nI mn) g2 g3 g4 g5 g6 g7 g8 g9 g10 (nI ml) g12 g13 gi14 g15 g16 g17 gi18 g19 g20 g21 g22 g23 g24 g25 g26 g27 g28 f8_29_12 gi30 (nI mv) 0 g33 g34 g35 g36 g37 g38 g39 gi40 g41 g42 gi43 g44 g45), (aIc cI g2 8 G2), (aIc cI g3 8 G3), (aIc cI g4 8 G4), (aIc cI g5 8 G5), (aIc cI g6 8 G6), (aIc cI g7 8 G7), (aIc cI g8 8 G8), (aIc cI g10 64 G10), (aIc cI g12 10 G12), (aIc cI g13 10 G13), (aIc cI g19 8 (upd a_g19_12 (Int32.toNatClampNeg (nI i12)) (nI (ag0 i12 - sp0 i12)))), (aIc cI g20 8 (upd a_g20_12 (Int32.toNatClampNeg (nI i12)) 0)), (aIc cI g21 8 G21), (aIc cI g22 8 G22), (aIc cI g23 8 G23), (aIc cI g24 8 G24), (aIc cI g25 8 a_g25_12), (aIc cI g26 8 a_g26_12), (aIc cI g27 8 a_g27_12), (aIc cI g28 8 G28), (aIc cI g33 8 G33), (aIc cI g34 8 G34), (aIc cI g35 8 G35), (aIc cI g36 8 G36), (aJc cJ g37 8 G37)]) hP hD (fun hP hD => ?_)
          refine lv_aload_n hx hb dX8_settles_70 rfl (lv_at hl 1 rfl) ?_
          refine lv_dup hx hb dX8_settles_71 rfl ?_
          refine va_get (D := D) (ci := 8) (v := .int f8_29_12) (C := RX8) (T := TX8) (N := 46) hx hb hts hiX8 hown hE.1 hP 0 rfl rfl 29 (by decide) (hts _ (List.mem_cons_of_mem _ wd_421)) (fun _ h9 => h9) rfl dX8_settles_72 ?_
          refine lv_aload_n hx hb dX8_settles_75 rfl (lv_at hl 1 rfl) ?_
          refine va_get (D := D) (ci := 8) (v := .ref g20) (C := RX8) (T := TX8) (N := 46) hx hb hts hiX8 hown hE.1 hP 0 rfl rfl 20 (by decide) (hts _ (List.mem_cons_of_mem _ wd_131)) (fun _ h9 => h9) rfl dX8_settles_76 ?_
          refine lv_iload_n hx hb dX8_settles_79 rfl (lv_at hl 0 rfl) ?_
          refine va_iald hx hb hE.1 hP 12 0 rfl rfl (vp_in_nI (n := i12) (by omega) (by decide)) dX8_settles_80 ?_
          refine lv_topi (fun v43 ev43 => ?_)
          refine lv_if_le (tgt := 90) hx hb dX8_settles_81 (by decide) (fun c44 => ?_) (fun c44 => ?_)
          · skip
            refine lv_iconst (v := 0) hx hb dX8_settles_90 (by decide) ?_
            refine lv_ior hx hb dX8_settles_91 ?_
            refine lv_topi (fun v45 ev45 => ?_)
            refine va_put (D := D) (ci := 8) (v := .int v45) (ty := .int) (C := RX8) (T := TX8) (N := 46) hx hb hts hiX8 tyX8 tyX8_ok nmX8 hown hE.1 hP hD hS 0 rfl rfl 29 (by decide) (hts _ (List.mem_cons_of_mem _ wd_421)) (fun _ h9 => h9) rfl (by decide +kernel) rfl rfl (Nat.le_of_ble_eq_true rfl) dX8_settles_92 (fun H locs hP hD hS => ?_)
            refine k_re (w := [(oX8 g gi0 (nI mn) g2 g3 g4 g5 g6 g7 g8 g9 g10 (nI ml) g12 g13 gi14 g15 g16 g17 gi18 g19 g20 g21 g22 g23 g24 g25 g26 g27 g28 v45 gi30 (nI mv) 0 g33 g34 g35 g36 g37 g38 g39 gi40 g41 g42 gi43 g44 g45), (aIc cI g2 8 G2), (aIc cI g3 8 G3), (aIc cI g4 8 G4), (aIc cI g5 8 G5), (aIc cI g6 8 G6), (aIc cI g7 8 G7), (aIc cI g8 8 G8), (aIc cI g10 64 G10), (aIc cI g12 10 G12), (aIc cI g13 10 G13), (aIc cI g19 8 (upd a_g19_12 (Int32.toNatClampNeg (nI i12)) (nI (ag0 i12 - sp0 i12)))), (aIc cI g20 8 (upd a_g20_12 (Int32.toNatClampNeg (nI i12)) 0)), (aIc cI g21 8 G21), (aIc cI g22 8 G22), (aIc cI g23 8 G23), (aIc cI g24 8 G24), (aIc cI g25 8 a_g25_12), (aIc cI g26 8 a_g26_12), (aIc cI g27 8 a_g27_12), (aIc cI g28 8 G28), (aIc cI g33 8 G33), (aIc cI g34 8 G34), (aIc cI g35 8 G35), (aIc cI g36 8 G36), (aJc cJ g37 8 G37)]) hP hD (fun hP hD => ?_)
            refine lv_aload_n hx hb dX8_settles_95 rfl (lv_at hl 1 rfl) ?_
            refine va_get (D := D) (ci := 8) (v := .ref g25) (C := RX8) (T := TX8) (N := 46) hx hb hts hiX8 hown hE.1 hP 0 rfl rfl 25 (by decide) (hts _ (List.mem_cons_of_mem _ wd_136)) (fun _ h9 => h9) rfl dX8_settles_96 ?_
            refine lv_iload_n hx hb dX8_settles_99 rfl (lv_at hl 0 rfl) ?_
            refine lv_iconst (v := (-1)) hx hb dX8_settles_100 (by decide) ?_
            refine va_iast hx hb hE.1 hP hD hS 17 0 rfl rfl (vp_in_nI (n := i12) (by omega) (by decide)) dX8_settles_101 (fun H locs hP hD hS => ?_)
            refine k_re (w := [(oX8 g gi0 (nI mn) g2 g3 g4 g5 g6 g7 g8 g9 g10 (nI ml) g12 g13 gi14 g15 g16 g17 gi18 g19 g20 g21 g22 g23 g24 g25 g26 g27 g28 v45 gi30 (nI mv) 0 g33 g34 g35 g36 g37 g38 g39 gi40 g41 g42 gi43 g44 g45), (aIc cI g2 8 G2), (aIc cI g3 8 G3), (aIc cI g4 8 G4), (aIc cI g5 8 G5), (aIc cI g6 8 G6), (aIc cI g7 8 G7), (aIc cI g8 8 G8), (aIc cI g10 64 G10), (aIc cI g12 10 G12), (aIc cI g13 10 G13), (aIc cI g19 8 (upd a_g19_12 (Int32.toNatClampNeg (nI i12)) (nI (ag0 i12 - sp0 i12)))), (aIc cI g20 8 (upd a_g20_12 (Int32.toNatClampNeg (nI i12)) 0)), (aIc cI g21 8 G21), (aIc cI g22 8 G22), (aIc cI g23 8 G23), (aIc cI g24 8 G24), (aIc cI g25 8 (upd a_g25_12 (Int32.toNatClampNeg (nI i12)) (-1))), (aIc cI g26 8 a_g26_12), (aIc cI g27 8 a_g27_12), (aIc cI g28 8 G28), (aIc cI g33 8 G33), (aIc cI g34 8 G34), (aIc cI g35 8 G35), (aIc cI g36 8 G36), (aJc cJ g37 8 G37)]) hP hD (fun hP hD => ?_)
            refine lv_aload_n hx hb dX8_settles_102 rfl (lv_at hl 1 rfl) ?_
            refine va_get (D := D) (ci := 8) (v := .ref g26) (C := RX8) (T := TX8) (N := 46) hx hb hts hiX8 hown hE.1 hP 0 rfl rfl 26 (by decide) (hts _ (List.mem_cons_of_mem _ wd_137)) (fun _ h9 => h9) rfl dX8_settles_103 ?_
            refine lv_iload_n hx hb dX8_settles_106 rfl (lv_at hl 0 rfl) ?_
            refine lv_iconst (v := 0) hx hb dX8_settles_107 (by decide) ?_
            refine va_iast hx hb hE.1 hP hD hS 18 0 rfl rfl (vp_in_nI (n := i12) (by omega) (by decide)) dX8_settles_108 (fun H locs hP hD hS => ?_)
            refine k_re (w := [(oX8 g gi0 (nI mn) g2 g3 g4 g5 g6 g7 g8 g9 g10 (nI ml) g12 g13 gi14 g15 g16 g17 gi18 g19 g20 g21 g22 g23 g24 g25 g26 g27 g28 v45 gi30 (nI mv) 0 g33 g34 g35 g36 g37 g38 g39 gi40 g41 g42 gi43 g44 g45), (aIc cI g2 8 G2), (aIc cI g3 8 G3), (aIc cI g4 8 G4), (aIc cI g5 8 G5), (aIc cI g6 8 G6), (aIc cI g7 8 G7), (aIc cI g8 8 G8), (aIc cI g10 64 G10), (aIc cI g12 10 G12), (aIc cI g13 10 G13), (aIc cI g19 8 (upd a_g19_12 (Int32.toNatClampNeg (nI i12)) (nI (ag0 i12 - sp0 i12)))), (aIc cI g20 8 (upd a_g20_12 (Int32.toNatClampNeg (nI i12)) 0)), (aIc cI g21 8 G21), (aIc cI g22 8 G22), (aIc cI g23 8 G23), (aIc cI g24 8 G24), (aIc cI g25 8 (upd a_g25_12 (Int32.toNatClampNeg (nI i12)) (-1))), (aIc cI g26 8 (upd a_g26_12 (Int32.toNatClampNeg (nI i12)) 0)), (aIc cI g27 8 a_g27_12), (aIc cI g28 8 G28), (aIc cI g33 8 G33), (aIc cI g34 8 G34), (aIc cI g35 8 G35), (aIc cI g36 8 G36), (aJc cJ g37 8 G37)]) hP hD (fun hP hD => ?_)
            refine lv_aload_n hx hb dX8_settles_109 rfl (lv_at hl 1 rfl) ?_
            refine va_get (D := D) (ci := 8) (v := .ref g27) (C := RX8) (T := TX8) (N := 46) hx hb hts hiX8 hown hE.1 hP 0 rfl rfl 27 (by decide) (hts _ (List.mem_cons_of_mem _ wd_138)) (fun _ h9 => h9) rfl dX8_settles_110 ?_
            refine lv_iload_n hx hb dX8_settles_113 rfl (lv_at hl 0 rfl) ?_
            refine lv_iconst (v := 0) hx hb dX8_settles_114 (by decide) ?_
            refine va_iast hx hb hE.1 hP hD hS 19 0 rfl rfl (vp_in_nI (n := i12) (by omega) (by decide)) dX8_settles_115 (fun H locs hP hD hS => ?_)
            refine k_re (w := [(oX8 g gi0 (nI mn) g2 g3 g4 g5 g6 g7 g8 g9 g10 (nI ml) g12 g13 gi14 g15 g16 g17 gi18 g19 g20 g21 g22 g23 g24 g25 g26 g27 g28 v45 gi30 (nI mv) 0 g33 g34 g35 g36 g37 g38 g39 gi40 g41 g42 gi43 g44 g45), (aIc cI g2 8 G2), (aIc cI g3 8 G3), (aIc cI g4 8 G4), (aIc cI g5 8 G5), (aIc cI g6 8 G6), (aIc cI g7 8 G7), (aIc cI g8 8 G8), (aIc cI g10 64 G10), (aIc cI g12 10 G12), (aIc cI g13 10 G13), (aIc cI g19 8 (upd a_g19_12 (Int32.toNatClampNeg (nI i12)) (nI (ag0 i12 - sp0 i12)))), (aIc cI g20 8 (upd a_g20_12 (Int32.toNatClampNeg (nI i12)) 0)), (aIc cI g21 8 G21), (aIc cI g22 8 G22), (aIc cI g23 8 G23), (aIc cI g24 8 G24), (aIc cI g25 8 (upd a_g25_12 (Int32.toNatClampNeg (nI i12)) (-1))), (aIc cI g26 8 (upd a_g26_12 (Int32.toNatClampNeg (nI i12)) 0)), (aIc cI g27 8 (upd a_g27_12 (Int32.toNatClampNeg (nI i12)) 0)), (aIc cI g28 8 G28), (aIc cI g33 8 G33), (aIc cI g34 8 G34), (aIc cI g35 8 G35), (aIc cI g36 8 G36), (aJc cJ g37 8 G37)]) hP hD (fun hP hD => ?_)
            refine lv_iinc (v := (nI (i12 + 1))) (lv' := [(2, .int (nI (i12 + 1))), (0, .ref g), (1, .int (nI l0))]) hx hb dX8_settles_116 hl (k := 0) rfl (nI_1 _) (by decide) rfl (fun ls hl => ?_)
            refine lv_goto (tgt := 12) hx hb dX8_settles_119 (by decide) ?_
            exact ih12 (i12 + 1) (upd a_g19_12 (Int32.toNatClampNeg (nI i12)) (nI (ag0 i12 - sp0 i12))) (upd a_g20_12 (Int32.toNatClampNeg (nI i12)) 0) (upd a_g25_12 (Int32.toNatClampNeg (nI i12)) (-1)) (upd a_g26_12 (Int32.toNatClampNeg (nI i12)) 0) (upd a_g27_12 (Int32.toNatClampNeg (nI i12)) 0) v45 (by omega) (s19_up (by omega) (by omega) hle_12) (lo_up (x := 0) (by omega) hlo_12 (by decide)) (cst_up (by omega) hz27_12) (cst_up (by omega) hm25_12) (by omega) _ _ _ hP hD hS (lv_sub hl [0, 1, 2] rfl)
          · skip
            refine lv_iconst (v := 1) hx hb dX8_settles_84 (by decide) ?_
            refine lv_iload_n hx hb dX8_settles_85 rfl (lv_at hl 0 rfl) ?_
            refine lv_ishl hx hb dX8_settles_86 ?_
            refine lv_topi (fun v46 ev46 => ?_)
            refine lv_goto (tgt := 91) hx hb dX8_settles_87 (by decide) ?_
            refine lv_ior hx hb dX8_settles_91 ?_
            refine lv_topi (fun v47 ev47 => ?_)
            refine va_put (D := D) (ci := 8) (v := .int v47) (ty := .int) (C := RX8) (T := TX8) (N := 46) hx hb hts hiX8 tyX8 tyX8_ok nmX8 hown hE.1 hP hD hS 0 rfl rfl 29 (by decide) (hts _ (List.mem_cons_of_mem _ wd_421)) (fun _ h9 => h9) rfl (by decide +kernel) rfl rfl (Nat.le_of_ble_eq_true rfl) dX8_settles_92 (fun H locs hP hD hS => ?_)
            refine k_re (w := [(oX8 g gi0 (nI mn) g2 g3 g4 g5 g6 g7 g8 g9 g10 (nI ml) g12 g13 gi14 g15 g16 g17 gi18 g19 g20 g21 g22 g23 g24 g25 g26 g27 g28 v47 gi30 (nI mv) 0 g33 g34 g35 g36 g37 g38 g39 gi40 g41 g42 gi43 g44 g45), (aIc cI g2 8 G2), (aIc cI g3 8 G3), (aIc cI g4 8 G4), (aIc cI g5 8 G5), (aIc cI g6 8 G6), (aIc cI g7 8 G7), (aIc cI g8 8 G8), (aIc cI g10 64 G10), (aIc cI g12 10 G12), (aIc cI g13 10 G13), (aIc cI g19 8 (upd a_g19_12 (Int32.toNatClampNeg (nI i12)) (nI (ag0 i12 - sp0 i12)))), (aIc cI g20 8 (upd a_g20_12 (Int32.toNatClampNeg (nI i12)) 0)), (aIc cI g21 8 G21), (aIc cI g22 8 G22), (aIc cI g23 8 G23), (aIc cI g24 8 G24), (aIc cI g25 8 a_g25_12), (aIc cI g26 8 a_g26_12), (aIc cI g27 8 a_g27_12), (aIc cI g28 8 G28), (aIc cI g33 8 G33), (aIc cI g34 8 G34), (aIc cI g35 8 G35), (aIc cI g36 8 G36), (aJc cJ g37 8 G37)]) hP hD (fun hP hD => ?_)
            refine lv_aload_n hx hb dX8_settles_95 rfl (lv_at hl 1 rfl) ?_
            refine va_get (D := D) (ci := 8) (v := .ref g25) (C := RX8) (T := TX8) (N := 46) hx hb hts hiX8 hown hE.1 hP 0 rfl rfl 25 (by decide) (hts _ (List.mem_cons_of_mem _ wd_136)) (fun _ h9 => h9) rfl dX8_settles_96 ?_
            refine lv_iload_n hx hb dX8_settles_99 rfl (lv_at hl 0 rfl) ?_
            refine lv_iconst (v := (-1)) hx hb dX8_settles_100 (by decide) ?_
            refine va_iast hx hb hE.1 hP hD hS 17 0 rfl rfl (vp_in_nI (n := i12) (by omega) (by decide)) dX8_settles_101 (fun H locs hP hD hS => ?_)
            refine k_re (w := [(oX8 g gi0 (nI mn) g2 g3 g4 g5 g6 g7 g8 g9 g10 (nI ml) g12 g13 gi14 g15 g16 g17 gi18 g19 g20 g21 g22 g23 g24 g25 g26 g27 g28 v47 gi30 (nI mv) 0 g33 g34 g35 g36 g37 g38 g39 gi40 g41 g42 gi43 g44 g45), (aIc cI g2 8 G2), (aIc cI g3 8 G3), (aIc cI g4 8 G4), (aIc cI g5 8 G5), (aIc cI g6 8 G6), (aIc cI g7 8 G7), (aIc cI g8 8 G8), (aIc cI g10 64 G10), (aIc cI g12 10 G12), (aIc cI g13 10 G13), (aIc cI g19 8 (upd a_g19_12 (Int32.toNatClampNeg (nI i12)) (nI (ag0 i12 - sp0 i12)))), (aIc cI g20 8 (upd a_g20_12 (Int32.toNatClampNeg (nI i12)) 0)), (aIc cI g21 8 G21), (aIc cI g22 8 G22), (aIc cI g23 8 G23), (aIc cI g24 8 G24), (aIc cI g25 8 (upd a_g25_12 (Int32.toNatClampNeg (nI i12)) (-1))), (aIc cI g26 8 a_g26_12), (aIc cI g27 8 a_g27_12), (aIc cI g28 8 G28), (aIc cI g33 8 G33), (aIc cI g34 8 G34), (aIc cI g35 8 G35), (aIc cI g36 8 G36), (aJc cJ g37 8 G37)]) hP hD (fun hP hD => ?_)
            refine lv_aload_n hx hb dX8_settles_102 rfl (lv_at hl 1 rfl) ?_
            refine va_get (D := D) (ci := 8) (v := .ref g26) (C := RX8) (T := TX8) (N := 46) hx hb hts hiX8 hown hE.1 hP 0 rfl rfl 26 (by decide) (hts _ (List.mem_cons_of_mem _ wd_137)) (fun _ h9 => h9) rfl dX8_settles_103 ?_
            refine lv_iload_n hx hb dX8_settles_106 rfl (lv_at hl 0 rfl) ?_
            refine lv_iconst (v := 0) hx hb dX8_settles_107 (by decide) ?_
            refine va_iast hx hb hE.1 hP hD hS 18 0 rfl rfl (vp_in_nI (n := i12) (by omega) (by decide)) dX8_settles_108 (fun H locs hP hD hS => ?_)
            refine k_re (w := [(oX8 g gi0 (nI mn) g2 g3 g4 g5 g6 g7 g8 g9 g10 (nI ml) g12 g13 gi14 g15 g16 g17 gi18 g19 g20 g21 g22 g23 g24 g25 g26 g27 g28 v47 gi30 (nI mv) 0 g33 g34 g35 g36 g37 g38 g39 gi40 g41 g42 gi43 g44 g45), (aIc cI g2 8 G2), (aIc cI g3 8 G3), (aIc cI g4 8 G4), (aIc cI g5 8 G5), (aIc cI g6 8 G6), (aIc cI g7 8 G7), (aIc cI g8 8 G8), (aIc cI g10 64 G10), (aIc cI g12 10 G12), (aIc cI g13 10 G13), (aIc cI g19 8 (upd a_g19_12 (Int32.toNatClampNeg (nI i12)) (nI (ag0 i12 - sp0 i12)))), (aIc cI g20 8 (upd a_g20_12 (Int32.toNatClampNeg (nI i12)) 0)), (aIc cI g21 8 G21), (aIc cI g22 8 G22), (aIc cI g23 8 G23), (aIc cI g24 8 G24), (aIc cI g25 8 (upd a_g25_12 (Int32.toNatClampNeg (nI i12)) (-1))), (aIc cI g26 8 (upd a_g26_12 (Int32.toNatClampNeg (nI i12)) 0)), (aIc cI g27 8 a_g27_12), (aIc cI g28 8 G28), (aIc cI g33 8 G33), (aIc cI g34 8 G34), (aIc cI g35 8 G35), (aIc cI g36 8 G36), (aJc cJ g37 8 G37)]) hP hD (fun hP hD => ?_)
            refine lv_aload_n hx hb dX8_settles_109 rfl (lv_at hl 1 rfl) ?_
            refine va_get (D := D) (ci := 8) (v := .ref g27) (C := RX8) (T := TX8) (N := 46) hx hb hts hiX8 hown hE.1 hP 0 rfl rfl 27 (by decide) (hts _ (List.mem_cons_of_mem _ wd_138)) (fun _ h9 => h9) rfl dX8_settles_110 ?_
            refine lv_iload_n hx hb dX8_settles_113 rfl (lv_at hl 0 rfl) ?_
            refine lv_iconst (v := 0) hx hb dX8_settles_114 (by decide) ?_
            refine va_iast hx hb hE.1 hP hD hS 19 0 rfl rfl (vp_in_nI (n := i12) (by omega) (by decide)) dX8_settles_115 (fun H locs hP hD hS => ?_)
            refine k_re (w := [(oX8 g gi0 (nI mn) g2 g3 g4 g5 g6 g7 g8 g9 g10 (nI ml) g12 g13 gi14 g15 g16 g17 gi18 g19 g20 g21 g22 g23 g24 g25 g26 g27 g28 v47 gi30 (nI mv) 0 g33 g34 g35 g36 g37 g38 g39 gi40 g41 g42 gi43 g44 g45), (aIc cI g2 8 G2), (aIc cI g3 8 G3), (aIc cI g4 8 G4), (aIc cI g5 8 G5), (aIc cI g6 8 G6), (aIc cI g7 8 G7), (aIc cI g8 8 G8), (aIc cI g10 64 G10), (aIc cI g12 10 G12), (aIc cI g13 10 G13), (aIc cI g19 8 (upd a_g19_12 (Int32.toNatClampNeg (nI i12)) (nI (ag0 i12 - sp0 i12)))), (aIc cI g20 8 (upd a_g20_12 (Int32.toNatClampNeg (nI i12)) 0)), (aIc cI g21 8 G21), (aIc cI g22 8 G22), (aIc cI g23 8 G23), (aIc cI g24 8 G24), (aIc cI g25 8 (upd a_g25_12 (Int32.toNatClampNeg (nI i12)) (-1))), (aIc cI g26 8 (upd a_g26_12 (Int32.toNatClampNeg (nI i12)) 0)), (aIc cI g27 8 (upd a_g27_12 (Int32.toNatClampNeg (nI i12)) 0)), (aIc cI g28 8 G28), (aIc cI g33 8 G33), (aIc cI g34 8 G34), (aIc cI g35 8 G35), (aIc cI g36 8 G36), (aJc cJ g37 8 G37)]) hP hD (fun hP hD => ?_)
            refine lv_iinc (v := (nI (i12 + 1))) (lv' := [(2, .int (nI (i12 + 1))), (0, .ref g), (1, .int (nI l0))]) hx hb dX8_settles_116 hl (k := 0) rfl (nI_1 _) (by decide) rfl (fun ls hl => ?_)
            refine lv_goto (tgt := 12) hx hb dX8_settles_119 (by decide) ?_
            exact ih12 (i12 + 1) (upd a_g19_12 (Int32.toNatClampNeg (nI i12)) (nI (ag0 i12 - sp0 i12))) (upd a_g20_12 (Int32.toNatClampNeg (nI i12)) 0) (upd a_g25_12 (Int32.toNatClampNeg (nI i12)) (-1)) (upd a_g26_12 (Int32.toNatClampNeg (nI i12)) 0) (upd a_g27_12 (Int32.toNatClampNeg (nI i12)) 0) v47 (by omega) (s19_up (by omega) (by omega) hle_12) (lo_up (x := 0) (by omega) hlo_12 (by decide)) (cst_up (by omega) hz27_12) (cst_up (by omega) hm25_12) (by omega) _ _ _ hP hD hS (lv_sub hl [0, 1, 2] rfl)
        · skip
          have hc42 : (gi18 >>> ((nI i12) &&& 31)) &&& 1 = 1 := bz_1 hw41 c42
          obtain ⟨le9, hlev9, hleb9, hlee9⟩ := s19_up (by omega) (by omega) hle_12
          refine lv_aload_n hx hb dX8_settles_53 rfl (lv_at hl 1 rfl) ?_
          refine lv_iload_n hx hb dX8_settles_54 rfl (lv_at hl 0 rfl) ?_
          refine lv_iload_n hx hb dX8_settles_55 rfl (lv_at hl 2 rfl) ?_
          refine lv_aload_n hx hb dX8_settles_56 rfl (lv_at hl 1 rfl) ?_
          refine va_get (D := D) (ci := 8) (v := .ref g13) (C := RX8) (T := TX8) (N := 46) hx hb hts hiX8 hown hE.1 hP 0 rfl rfl 13 (by decide) (hts _ (List.mem_cons_of_mem _ wd_126)) (fun _ h9 => h9) rfl dX8_settles_57 ?_
          refine lv_iload_n hx hb dX8_settles_60 rfl (lv_at hl 2 rfl) ?_
          refine va_iald hx hb hE.1 hP 10 0 rfl rfl (vp_in_nI (n := l0) (by omega) (by decide)) dX8_settles_61 ?_
          refine lv_topi (fun v48 ev48 => ?_)
          obtain rfl : v48 = nI am := ev48.trans eam
          refine k_iS (va_runV (As := [.int (nI i12), .int (nI l0), .int (nI am)]) (rest := [.int (nI i12), .ref g20]) ⟨hx, hb, hml, hown, hts⟩ (m_X8_owes l D cI cJ H.size g g2 g3 g4 g5 g6 g7 g8 g9 g10 g12 g13 g15 g16 g17 g19 g20 g21 g22 g23 g24 g25 g26 g27 g28 g33 g34 g35 g36 g37 g38 g39 g41 g42 g44 g45 i12 l0 am mn ml mv gi0 gi14 gi18 f8_29_12 gi30 0 gi40 gi43 G2 G4 G5 G6 G10 G12 (upd a_g19_12 (Int32.toNatClampNeg (nI i12)) (nI (ag0 i12 - sp0 i12))) li0 wo0 de0 le9 (by omega) (by omega) (by omega) hit hsu hliv hlib hwov hwob hdev hdeb hlev9 hleb9) (cwV 3 hts gX8_settles_X8_owes rfl rfl rfl (by decide +kernel) ⟨Nat.le_of_ble_eq_true rfl, Nat.le_of_ble_eq_true rfl⟩) (k_preV hE hP hD [0, 1, 3, 4, 5, 8, 9, 11] (by decide +kernel) rfl 0 rfl rfl) rfl rfl hl.1 rfl (lv_room (Nat.le_of_ble_eq_true rfl)) dX8_settles_62 ⟨Nat.le_of_ble_eq_true rfl, Nat.le_of_ble_eq_true rfl⟩) hP hD hS hA [0, 1, 3, 4, 5, 8, 9, 11] rfl (fun _ _ ⟨_, _, _, _, h9⟩ => h9) (fun r49 H locs hw50 hP hD hS => ?_)
          obtain ⟨z51, hz52, hz53, rfl, -⟩ := hw50
          refine lv_goto (tgt := 69) hx hb dX8_settles_65 (by decide) ?_
          refine va_iast hx hb hE.1 hP hD hS 12 0 rfl rfl (vp_in_nI (n := i12) (by omega) (by decide)) dX8_settles_69 (fun H locs hP hD hS => ?_)
          refine k_re (w := [(oX8 g gi0 (nI mn) g2 g3 g4 g5 g6 g7 g8 g9 g10 (nI ml) g12 g13 gi14 g15 g16 g17 gi18 g19 g20 g21 g22 g23 g24 g25 g26 g27 g28 f8_29_12 gi30 (nI mv) 0 g33 g34 g35 g36 g37 g38 g39 gi40 g41 g42 gi43 g44 g45), (aIc cI g2 8 G2), (aIc cI g3 8 G3), (aIc cI g4 8 G4), (aIc cI g5 8 G5), (aIc cI g6 8 G6), (aIc cI g7 8 G7), (aIc cI g8 8 G8), (aIc cI g10 64 G10), (aIc cI g12 10 G12), (aIc cI g13 10 G13), (aIc cI g19 8 (upd a_g19_12 (Int32.toNatClampNeg (nI i12)) (nI (ag0 i12 - sp0 i12)))), (aIc cI g20 8 (upd a_g20_12 (Int32.toNatClampNeg (nI i12)) (nI z51))), (aIc cI g21 8 G21), (aIc cI g22 8 G22), (aIc cI g23 8 G23), (aIc cI g24 8 G24), (aIc cI g25 8 a_g25_12), (aIc cI g26 8 a_g26_12), (aIc cI g27 8 a_g27_12), (aIc cI g28 8 G28), (aIc cI g33 8 G33), (aIc cI g34 8 G34), (aIc cI g35 8 G35), (aIc cI g36 8 G36), (aJc cJ g37 8 G37)]) hP hD (fun hP hD => ?_)
          refine lv_aload_n hx hb dX8_settles_70 rfl (lv_at hl 1 rfl) ?_
          refine lv_dup hx hb dX8_settles_71 rfl ?_
          refine va_get (D := D) (ci := 8) (v := .int f8_29_12) (C := RX8) (T := TX8) (N := 46) hx hb hts hiX8 hown hE.1 hP 0 rfl rfl 29 (by decide) (hts _ (List.mem_cons_of_mem _ wd_421)) (fun _ h9 => h9) rfl dX8_settles_72 ?_
          refine lv_aload_n hx hb dX8_settles_75 rfl (lv_at hl 1 rfl) ?_
          refine va_get (D := D) (ci := 8) (v := .ref g20) (C := RX8) (T := TX8) (N := 46) hx hb hts hiX8 hown hE.1 hP 0 rfl rfl 20 (by decide) (hts _ (List.mem_cons_of_mem _ wd_131)) (fun _ h9 => h9) rfl dX8_settles_76 ?_
          refine lv_iload_n hx hb dX8_settles_79 rfl (lv_at hl 0 rfl) ?_
          refine va_iald hx hb hE.1 hP 12 0 rfl rfl (vp_in_nI (n := i12) (by omega) (by decide)) dX8_settles_80 ?_
          refine lv_topi (fun v54 ev54 => ?_)
          refine lv_if_le (tgt := 90) hx hb dX8_settles_81 (by decide) (fun c55 => ?_) (fun c55 => ?_)
          · skip
            refine lv_iconst (v := 0) hx hb dX8_settles_90 (by decide) ?_
            refine lv_ior hx hb dX8_settles_91 ?_
            refine lv_topi (fun v56 ev56 => ?_)
            refine va_put (D := D) (ci := 8) (v := .int v56) (ty := .int) (C := RX8) (T := TX8) (N := 46) hx hb hts hiX8 tyX8 tyX8_ok nmX8 hown hE.1 hP hD hS 0 rfl rfl 29 (by decide) (hts _ (List.mem_cons_of_mem _ wd_421)) (fun _ h9 => h9) rfl (by decide +kernel) rfl rfl (Nat.le_of_ble_eq_true rfl) dX8_settles_92 (fun H locs hP hD hS => ?_)
            refine k_re (w := [(oX8 g gi0 (nI mn) g2 g3 g4 g5 g6 g7 g8 g9 g10 (nI ml) g12 g13 gi14 g15 g16 g17 gi18 g19 g20 g21 g22 g23 g24 g25 g26 g27 g28 v56 gi30 (nI mv) 0 g33 g34 g35 g36 g37 g38 g39 gi40 g41 g42 gi43 g44 g45), (aIc cI g2 8 G2), (aIc cI g3 8 G3), (aIc cI g4 8 G4), (aIc cI g5 8 G5), (aIc cI g6 8 G6), (aIc cI g7 8 G7), (aIc cI g8 8 G8), (aIc cI g10 64 G10), (aIc cI g12 10 G12), (aIc cI g13 10 G13), (aIc cI g19 8 (upd a_g19_12 (Int32.toNatClampNeg (nI i12)) (nI (ag0 i12 - sp0 i12)))), (aIc cI g20 8 (upd a_g20_12 (Int32.toNatClampNeg (nI i12)) (nI z51))), (aIc cI g21 8 G21), (aIc cI g22 8 G22), (aIc cI g23 8 G23), (aIc cI g24 8 G24), (aIc cI g25 8 a_g25_12), (aIc cI g26 8 a_g26_12), (aIc cI g27 8 a_g27_12), (aIc cI g28 8 G28), (aIc cI g33 8 G33), (aIc cI g34 8 G34), (aIc cI g35 8 G35), (aIc cI g36 8 G36), (aJc cJ g37 8 G37)]) hP hD (fun hP hD => ?_)
            refine lv_aload_n hx hb dX8_settles_95 rfl (lv_at hl 1 rfl) ?_
            refine va_get (D := D) (ci := 8) (v := .ref g25) (C := RX8) (T := TX8) (N := 46) hx hb hts hiX8 hown hE.1 hP 0 rfl rfl 25 (by decide) (hts _ (List.mem_cons_of_mem _ wd_136)) (fun _ h9 => h9) rfl dX8_settles_96 ?_
            refine lv_iload_n hx hb dX8_settles_99 rfl (lv_at hl 0 rfl) ?_
            refine lv_iconst (v := (-1)) hx hb dX8_settles_100 (by decide) ?_
            refine va_iast hx hb hE.1 hP hD hS 17 0 rfl rfl (vp_in_nI (n := i12) (by omega) (by decide)) dX8_settles_101 (fun H locs hP hD hS => ?_)
            refine k_re (w := [(oX8 g gi0 (nI mn) g2 g3 g4 g5 g6 g7 g8 g9 g10 (nI ml) g12 g13 gi14 g15 g16 g17 gi18 g19 g20 g21 g22 g23 g24 g25 g26 g27 g28 v56 gi30 (nI mv) 0 g33 g34 g35 g36 g37 g38 g39 gi40 g41 g42 gi43 g44 g45), (aIc cI g2 8 G2), (aIc cI g3 8 G3), (aIc cI g4 8 G4), (aIc cI g5 8 G5), (aIc cI g6 8 G6), (aIc cI g7 8 G7), (aIc cI g8 8 G8), (aIc cI g10 64 G10), (aIc cI g12 10 G12), (aIc cI g13 10 G13), (aIc cI g19 8 (upd a_g19_12 (Int32.toNatClampNeg (nI i12)) (nI (ag0 i12 - sp0 i12)))), (aIc cI g20 8 (upd a_g20_12 (Int32.toNatClampNeg (nI i12)) (nI z51))), (aIc cI g21 8 G21), (aIc cI g22 8 G22), (aIc cI g23 8 G23), (aIc cI g24 8 G24), (aIc cI g25 8 (upd a_g25_12 (Int32.toNatClampNeg (nI i12)) (-1))), (aIc cI g26 8 a_g26_12), (aIc cI g27 8 a_g27_12), (aIc cI g28 8 G28), (aIc cI g33 8 G33), (aIc cI g34 8 G34), (aIc cI g35 8 G35), (aIc cI g36 8 G36), (aJc cJ g37 8 G37)]) hP hD (fun hP hD => ?_)
            refine lv_aload_n hx hb dX8_settles_102 rfl (lv_at hl 1 rfl) ?_
            refine va_get (D := D) (ci := 8) (v := .ref g26) (C := RX8) (T := TX8) (N := 46) hx hb hts hiX8 hown hE.1 hP 0 rfl rfl 26 (by decide) (hts _ (List.mem_cons_of_mem _ wd_137)) (fun _ h9 => h9) rfl dX8_settles_103 ?_
            refine lv_iload_n hx hb dX8_settles_106 rfl (lv_at hl 0 rfl) ?_
            refine lv_iconst (v := 0) hx hb dX8_settles_107 (by decide) ?_
            refine va_iast hx hb hE.1 hP hD hS 18 0 rfl rfl (vp_in_nI (n := i12) (by omega) (by decide)) dX8_settles_108 (fun H locs hP hD hS => ?_)
            refine k_re (w := [(oX8 g gi0 (nI mn) g2 g3 g4 g5 g6 g7 g8 g9 g10 (nI ml) g12 g13 gi14 g15 g16 g17 gi18 g19 g20 g21 g22 g23 g24 g25 g26 g27 g28 v56 gi30 (nI mv) 0 g33 g34 g35 g36 g37 g38 g39 gi40 g41 g42 gi43 g44 g45), (aIc cI g2 8 G2), (aIc cI g3 8 G3), (aIc cI g4 8 G4), (aIc cI g5 8 G5), (aIc cI g6 8 G6), (aIc cI g7 8 G7), (aIc cI g8 8 G8), (aIc cI g10 64 G10), (aIc cI g12 10 G12), (aIc cI g13 10 G13), (aIc cI g19 8 (upd a_g19_12 (Int32.toNatClampNeg (nI i12)) (nI (ag0 i12 - sp0 i12)))), (aIc cI g20 8 (upd a_g20_12 (Int32.toNatClampNeg (nI i12)) (nI z51))), (aIc cI g21 8 G21), (aIc cI g22 8 G22), (aIc cI g23 8 G23), (aIc cI g24 8 G24), (aIc cI g25 8 (upd a_g25_12 (Int32.toNatClampNeg (nI i12)) (-1))), (aIc cI g26 8 (upd a_g26_12 (Int32.toNatClampNeg (nI i12)) 0)), (aIc cI g27 8 a_g27_12), (aIc cI g28 8 G28), (aIc cI g33 8 G33), (aIc cI g34 8 G34), (aIc cI g35 8 G35), (aIc cI g36 8 G36), (aJc cJ g37 8 G37)]) hP hD (fun hP hD => ?_)
            refine lv_aload_n hx hb dX8_settles_109 rfl (lv_at hl 1 rfl) ?_
            refine va_get (D := D) (ci := 8) (v := .ref g27) (C := RX8) (T := TX8) (N := 46) hx hb hts hiX8 hown hE.1 hP 0 rfl rfl 27 (by decide) (hts _ (List.mem_cons_of_mem _ wd_138)) (fun _ h9 => h9) rfl dX8_settles_110 ?_
            refine lv_iload_n hx hb dX8_settles_113 rfl (lv_at hl 0 rfl) ?_
            refine lv_iconst (v := 0) hx hb dX8_settles_114 (by decide) ?_
            refine va_iast hx hb hE.1 hP hD hS 19 0 rfl rfl (vp_in_nI (n := i12) (by omega) (by decide)) dX8_settles_115 (fun H locs hP hD hS => ?_)
            refine k_re (w := [(oX8 g gi0 (nI mn) g2 g3 g4 g5 g6 g7 g8 g9 g10 (nI ml) g12 g13 gi14 g15 g16 g17 gi18 g19 g20 g21 g22 g23 g24 g25 g26 g27 g28 v56 gi30 (nI mv) 0 g33 g34 g35 g36 g37 g38 g39 gi40 g41 g42 gi43 g44 g45), (aIc cI g2 8 G2), (aIc cI g3 8 G3), (aIc cI g4 8 G4), (aIc cI g5 8 G5), (aIc cI g6 8 G6), (aIc cI g7 8 G7), (aIc cI g8 8 G8), (aIc cI g10 64 G10), (aIc cI g12 10 G12), (aIc cI g13 10 G13), (aIc cI g19 8 (upd a_g19_12 (Int32.toNatClampNeg (nI i12)) (nI (ag0 i12 - sp0 i12)))), (aIc cI g20 8 (upd a_g20_12 (Int32.toNatClampNeg (nI i12)) (nI z51))), (aIc cI g21 8 G21), (aIc cI g22 8 G22), (aIc cI g23 8 G23), (aIc cI g24 8 G24), (aIc cI g25 8 (upd a_g25_12 (Int32.toNatClampNeg (nI i12)) (-1))), (aIc cI g26 8 (upd a_g26_12 (Int32.toNatClampNeg (nI i12)) 0)), (aIc cI g27 8 (upd a_g27_12 (Int32.toNatClampNeg (nI i12)) 0)), (aIc cI g28 8 G28), (aIc cI g33 8 G33), (aIc cI g34 8 G34), (aIc cI g35 8 G35), (aIc cI g36 8 G36), (aJc cJ g37 8 G37)]) hP hD (fun hP hD => ?_)
            refine lv_iinc (v := (nI (i12 + 1))) (lv' := [(2, .int (nI (i12 + 1))), (0, .ref g), (1, .int (nI l0))]) hx hb dX8_settles_116 hl (k := 0) rfl (nI_1 _) (by decide) rfl (fun ls hl => ?_)
            refine lv_goto (tgt := 12) hx hb dX8_settles_119 (by decide) ?_
            have hli9 := hlib i12 (by omega)
            exact ih12 (i12 + 1) (upd a_g19_12 (Int32.toNatClampNeg (nI i12)) (nI (ag0 i12 - sp0 i12))) (upd a_g20_12 (Int32.toNatClampNeg (nI i12)) (nI z51)) (upd a_g25_12 (Int32.toNatClampNeg (nI i12)) (-1)) (upd a_g26_12 (Int32.toNatClampNeg (nI i12)) 0) (upd a_g27_12 (Int32.toNatClampNeg (nI i12)) 0) v56 (by omega) (s19_up (by omega) (by omega) hle_12) (lo_up (by omega) hlo_12 (by omega)) (cst_up (by omega) hz27_12) (cst_up (by omega) hm25_12) (by omega) _ _ _ hP hD hS (lv_sub hl [0, 1, 2] rfl)
          · skip
            refine lv_iconst (v := 1) hx hb dX8_settles_84 (by decide) ?_
            refine lv_iload_n hx hb dX8_settles_85 rfl (lv_at hl 0 rfl) ?_
            refine lv_ishl hx hb dX8_settles_86 ?_
            refine lv_topi (fun v57 ev57 => ?_)
            refine lv_goto (tgt := 91) hx hb dX8_settles_87 (by decide) ?_
            refine lv_ior hx hb dX8_settles_91 ?_
            refine lv_topi (fun v58 ev58 => ?_)
            refine va_put (D := D) (ci := 8) (v := .int v58) (ty := .int) (C := RX8) (T := TX8) (N := 46) hx hb hts hiX8 tyX8 tyX8_ok nmX8 hown hE.1 hP hD hS 0 rfl rfl 29 (by decide) (hts _ (List.mem_cons_of_mem _ wd_421)) (fun _ h9 => h9) rfl (by decide +kernel) rfl rfl (Nat.le_of_ble_eq_true rfl) dX8_settles_92 (fun H locs hP hD hS => ?_)
            refine k_re (w := [(oX8 g gi0 (nI mn) g2 g3 g4 g5 g6 g7 g8 g9 g10 (nI ml) g12 g13 gi14 g15 g16 g17 gi18 g19 g20 g21 g22 g23 g24 g25 g26 g27 g28 v58 gi30 (nI mv) 0 g33 g34 g35 g36 g37 g38 g39 gi40 g41 g42 gi43 g44 g45), (aIc cI g2 8 G2), (aIc cI g3 8 G3), (aIc cI g4 8 G4), (aIc cI g5 8 G5), (aIc cI g6 8 G6), (aIc cI g7 8 G7), (aIc cI g8 8 G8), (aIc cI g10 64 G10), (aIc cI g12 10 G12), (aIc cI g13 10 G13), (aIc cI g19 8 (upd a_g19_12 (Int32.toNatClampNeg (nI i12)) (nI (ag0 i12 - sp0 i12)))), (aIc cI g20 8 (upd a_g20_12 (Int32.toNatClampNeg (nI i12)) (nI z51))), (aIc cI g21 8 G21), (aIc cI g22 8 G22), (aIc cI g23 8 G23), (aIc cI g24 8 G24), (aIc cI g25 8 a_g25_12), (aIc cI g26 8 a_g26_12), (aIc cI g27 8 a_g27_12), (aIc cI g28 8 G28), (aIc cI g33 8 G33), (aIc cI g34 8 G34), (aIc cI g35 8 G35), (aIc cI g36 8 G36), (aJc cJ g37 8 G37)]) hP hD (fun hP hD => ?_)
            refine lv_aload_n hx hb dX8_settles_95 rfl (lv_at hl 1 rfl) ?_
            refine va_get (D := D) (ci := 8) (v := .ref g25) (C := RX8) (T := TX8) (N := 46) hx hb hts hiX8 hown hE.1 hP 0 rfl rfl 25 (by decide) (hts _ (List.mem_cons_of_mem _ wd_136)) (fun _ h9 => h9) rfl dX8_settles_96 ?_
            refine lv_iload_n hx hb dX8_settles_99 rfl (lv_at hl 0 rfl) ?_
            refine lv_iconst (v := (-1)) hx hb dX8_settles_100 (by decide) ?_
            refine va_iast hx hb hE.1 hP hD hS 17 0 rfl rfl (vp_in_nI (n := i12) (by omega) (by decide)) dX8_settles_101 (fun H locs hP hD hS => ?_)
            refine k_re (w := [(oX8 g gi0 (nI mn) g2 g3 g4 g5 g6 g7 g8 g9 g10 (nI ml) g12 g13 gi14 g15 g16 g17 gi18 g19 g20 g21 g22 g23 g24 g25 g26 g27 g28 v58 gi30 (nI mv) 0 g33 g34 g35 g36 g37 g38 g39 gi40 g41 g42 gi43 g44 g45), (aIc cI g2 8 G2), (aIc cI g3 8 G3), (aIc cI g4 8 G4), (aIc cI g5 8 G5), (aIc cI g6 8 G6), (aIc cI g7 8 G7), (aIc cI g8 8 G8), (aIc cI g10 64 G10), (aIc cI g12 10 G12), (aIc cI g13 10 G13), (aIc cI g19 8 (upd a_g19_12 (Int32.toNatClampNeg (nI i12)) (nI (ag0 i12 - sp0 i12)))), (aIc cI g20 8 (upd a_g20_12 (Int32.toNatClampNeg (nI i12)) (nI z51))), (aIc cI g21 8 G21), (aIc cI g22 8 G22), (aIc cI g23 8 G23), (aIc cI g24 8 G24), (aIc cI g25 8 (upd a_g25_12 (Int32.toNatClampNeg (nI i12)) (-1))), (aIc cI g26 8 a_g26_12), (aIc cI g27 8 a_g27_12), (aIc cI g28 8 G28), (aIc cI g33 8 G33), (aIc cI g34 8 G34), (aIc cI g35 8 G35), (aIc cI g36 8 G36), (aJc cJ g37 8 G37)]) hP hD (fun hP hD => ?_)
            refine lv_aload_n hx hb dX8_settles_102 rfl (lv_at hl 1 rfl) ?_
            refine va_get (D := D) (ci := 8) (v := .ref g26) (C := RX8) (T := TX8) (N := 46) hx hb hts hiX8 hown hE.1 hP 0 rfl rfl 26 (by decide) (hts _ (List.mem_cons_of_mem _ wd_137)) (fun _ h9 => h9) rfl dX8_settles_103 ?_
            refine lv_iload_n hx hb dX8_settles_106 rfl (lv_at hl 0 rfl) ?_
            refine lv_iconst (v := 0) hx hb dX8_settles_107 (by decide) ?_
            refine va_iast hx hb hE.1 hP hD hS 18 0 rfl rfl (vp_in_nI (n := i12) (by omega) (by decide)) dX8_settles_108 (fun H locs hP hD hS => ?_)
            refine k_re (w := [(oX8 g gi0 (nI mn) g2 g3 g4 g5 g6 g7 g8 g9 g10 (nI ml) g12 g13 gi14 g15 g16 g17 gi18 g19 g20 g21 g22 g23 g24 g25 g26 g27 g28 v58 gi30 (nI mv) 0 g33 g34 g35 g36 g37 g38 g39 gi40 g41 g42 gi43 g44 g45), (aIc cI g2 8 G2), (aIc cI g3 8 G3), (aIc cI g4 8 G4), (aIc cI g5 8 G5), (aIc cI g6 8 G6), (aIc cI g7 8 G7), (aIc cI g8 8 G8), (aIc cI g10 64 G10), (aIc cI g12 10 G12), (aIc cI g13 10 G13), (aIc cI g19 8 (upd a_g19_12 (Int32.toNatClampNeg (nI i12)) (nI (ag0 i12 - sp0 i12)))), (aIc cI g20 8 (upd a_g20_12 (Int32.toNatClampNeg (nI i12)) (nI z51))), (aIc cI g21 8 G21), (aIc cI g22 8 G22), (aIc cI g23 8 G23), (aIc cI g24 8 G24), (aIc cI g25 8 (upd a_g25_12 (Int32.toNatClampNeg (nI i12)) (-1))), (aIc cI g26 8 (upd a_g26_12 (Int32.toNatClampNeg (nI i12)) 0)), (aIc cI g27 8 a_g27_12), (aIc cI g28 8 G28), (aIc cI g33 8 G33), (aIc cI g34 8 G34), (aIc cI g35 8 G35), (aIc cI g36 8 G36), (aJc cJ g37 8 G37)]) hP hD (fun hP hD => ?_)
            refine lv_aload_n hx hb dX8_settles_109 rfl (lv_at hl 1 rfl) ?_
            refine va_get (D := D) (ci := 8) (v := .ref g27) (C := RX8) (T := TX8) (N := 46) hx hb hts hiX8 hown hE.1 hP 0 rfl rfl 27 (by decide) (hts _ (List.mem_cons_of_mem _ wd_138)) (fun _ h9 => h9) rfl dX8_settles_110 ?_
            refine lv_iload_n hx hb dX8_settles_113 rfl (lv_at hl 0 rfl) ?_
            refine lv_iconst (v := 0) hx hb dX8_settles_114 (by decide) ?_
            refine va_iast hx hb hE.1 hP hD hS 19 0 rfl rfl (vp_in_nI (n := i12) (by omega) (by decide)) dX8_settles_115 (fun H locs hP hD hS => ?_)
            refine k_re (w := [(oX8 g gi0 (nI mn) g2 g3 g4 g5 g6 g7 g8 g9 g10 (nI ml) g12 g13 gi14 g15 g16 g17 gi18 g19 g20 g21 g22 g23 g24 g25 g26 g27 g28 v58 gi30 (nI mv) 0 g33 g34 g35 g36 g37 g38 g39 gi40 g41 g42 gi43 g44 g45), (aIc cI g2 8 G2), (aIc cI g3 8 G3), (aIc cI g4 8 G4), (aIc cI g5 8 G5), (aIc cI g6 8 G6), (aIc cI g7 8 G7), (aIc cI g8 8 G8), (aIc cI g10 64 G10), (aIc cI g12 10 G12), (aIc cI g13 10 G13), (aIc cI g19 8 (upd a_g19_12 (Int32.toNatClampNeg (nI i12)) (nI (ag0 i12 - sp0 i12)))), (aIc cI g20 8 (upd a_g20_12 (Int32.toNatClampNeg (nI i12)) (nI z51))), (aIc cI g21 8 G21), (aIc cI g22 8 G22), (aIc cI g23 8 G23), (aIc cI g24 8 G24), (aIc cI g25 8 (upd a_g25_12 (Int32.toNatClampNeg (nI i12)) (-1))), (aIc cI g26 8 (upd a_g26_12 (Int32.toNatClampNeg (nI i12)) 0)), (aIc cI g27 8 (upd a_g27_12 (Int32.toNatClampNeg (nI i12)) 0)), (aIc cI g28 8 G28), (aIc cI g33 8 G33), (aIc cI g34 8 G34), (aIc cI g35 8 G35), (aIc cI g36 8 G36), (aJc cJ g37 8 G37)]) hP hD (fun hP hD => ?_)
            refine lv_iinc (v := (nI (i12 + 1))) (lv' := [(2, .int (nI (i12 + 1))), (0, .ref g), (1, .int (nI l0))]) hx hb dX8_settles_116 hl (k := 0) rfl (nI_1 _) (by decide) rfl (fun ls hl => ?_)
            refine lv_goto (tgt := 12) hx hb dX8_settles_119 (by decide) ?_
            have hli9 := hlib i12 (by omega)
            exact ih12 (i12 + 1) (upd a_g19_12 (Int32.toNatClampNeg (nI i12)) (nI (ag0 i12 - sp0 i12))) (upd a_g20_12 (Int32.toNatClampNeg (nI i12)) (nI z51)) (upd a_g25_12 (Int32.toNatClampNeg (nI i12)) (-1)) (upd a_g26_12 (Int32.toNatClampNeg (nI i12)) 0) (upd a_g27_12 (Int32.toNatClampNeg (nI i12)) 0) v58 (by omega) (s19_up (by omega) (by omega) hle_12) (lo_up (by omega) hlo_12 (by omega)) (cst_up (by omega) hz27_12) (cst_up (by omega) hm25_12) (by omega) _ _ _ hP hD hS (lv_sub hl [0, 1, 2] rfl)
  obtain ⟨le1, hle1, hleb1⟩ := hLE
  exact J12 _ 0 G19 G20 G25 G26 G27 0 (by omega) ⟨le1, hle1, hleb1, (fun k hk => absurd hk (Nat.not_lt_zero k))⟩ hLO (fun k hk => absurd hk (Nat.not_lt_zero k)) (fun k hk => absurd hk (Nat.not_lt_zero k)) (Nat.lt_succ_self _) _ _ _ hP hD hS (lv_sub hl [0, 1, 2] rfl)

