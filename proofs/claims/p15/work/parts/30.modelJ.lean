/-- a bit of an int -/
def bt (a : Int32) (q : Nat) : Bool := a.toBitVec.getLsbD q
theorem bt_sh : ∀ q : Fin 8, ((nI q.val &&& 31 : Int32).toBitVec.smod 32).toNat = q.val := by decide
theorem bt_on {a : Int32} {q : Nat} (hq : q < 8) : ((a >>> (nI q &&& 31)) &&& 1 = 1) ↔ bt a q = true := by
  have hs : ((nI q &&& 31 : Int32).toBitVec.smod 32).toNat = q := bt_sh ⟨q, hq⟩
  have e1 : (a >>> (nI q &&& 31)).toBitVec.getLsbD 0 = a.toBitVec.getLsbD q := by
    show (a.toBitVec.sshiftRight' ((nI q &&& 31 : Int32).toBitVec.smod 32)).getLsbD 0 = _
    rw [BitVec.getLsbD_sshiftRight', hs, if_pos (by omega), Nat.add_zero]
    rfl
  rw [pk_and (a >>> (nI q &&& 31)) (m := 1) 1 rfl]
  unfold bt
  rw [← e1]
  show nI ((a >>> (nI q &&& 31)).toBitVec.toNat % 2) = nI 1 ↔ Nat.testBit (a >>> (nI q &&& 31)).toBitVec.toNat 0 = true
  have hm := Nat.mod_lt (a >>> (nI q &&& 31)).toBitVec.toNat (show 0 < 2 from by decide)
  rw [nI_eq (by omega) (by decide), Nat.testBit_zero]
  exact (decide_eq_true_iff).symm
theorem bt_off {a : Int32} {q : Nat} (hq : q < 8) (h : ¬ ((a >>> (nI q &&& 31)) &&& 1 = 1)) : bt a q = false := by
  cases e : bt a q with
  | false => rfl
  | true => exact absurd ((bt_on hq).mpr e) h
theorem bt_m1 : ∀ q : Fin 8, (-1 : Int32).toBitVec.getLsbD q.val = true := by decide
theorem bt_00 : ∀ q : Fin 8, (0 : Int32).toBitVec.getLsbD q.val = false := by decide
theorem bt_sub {a k : Int32} (h : a &&& (k ^^^ (-1)) = 0) {q : Nat} (hq : q < 8) (hb : bt a q = true) : bt k q = true := by
  have e : (a &&& (k ^^^ (-1))).toBitVec.getLsbD q = (0 : Int32).toBitVec.getLsbD q := by rw [h]
  have e2 : (a.toBitVec &&& (k.toBitVec ^^^ (-1 : Int32).toBitVec)).getLsbD q = (0 : Int32).toBitVec.getLsbD q := e
  rw [BitVec.getLsbD_and, BitVec.getLsbD_xor, bt_m1 ⟨q, hq⟩, bt_00 ⟨q, hq⟩] at e2
  unfold bt at hb ⊢
  rw [hb] at e2
  cases hk : k.toBitVec.getLsbD q with
  | true => rfl
  | false => rw [hk] at e2; exact absurd e2 (by decide)
theorem bt_one : ∀ p q : Fin 8, ((1 : Int32) <<< (nI p.val &&& 31)).toBitVec.getLsbD q.val = decide (q.val = p.val) := by decide
theorem bt_or {a v w : Int32} {p q : Nat} (hp : p < 8) (hq : q < 8) (ev : v = 1 <<< (nI p &&& 31)) (ew : w = a ||| v) : bt w q = (bt a q || decide (q = p)) := by
  rw [ew, ev]
  show (a.toBitVec ||| ((1 : Int32) <<< (nI p &&& 31)).toBitVec).getLsbD q = _
  rw [BitVec.getLsbD_or, bt_one ⟨p, hp⟩ ⟨q, hq⟩]
  rfl
/-- how many of the first eight bits are on -/
def kc (a : Int32) : Nat := sm (fun k => if bt a k = true then 1 else 0) 8
theorem kc_le (a : Int32) : kc a ≤ 8 := sm_bound (c := 1) (n := 8) (fun k _ => by
  by_cases h : bt a k = true
  · rw [if_pos h]; exact Nat.le_refl _
  · rw [if_neg h]; exact Nat.zero_le _)
theorem bt_0 {q : Nat} (hq : q < 8) : bt 0 q = false := bt_00 ⟨q, hq⟩
theorem kc_or {a v w : Int32} {p : Nat} (hp : p < 8) (hb : bt a p = false) (ev : v = 1 <<< (nI p &&& 31)) (ew : w = a ||| v) : kc w = kc a + 1 := by
  have h := sm_upd (fun k => if bt a k = true then 1 else 0) (b := p) (x := 1) (n := 8) hp
  have e : kc w = sm (fun k => if k = p then 1 else if bt a k = true then 1 else 0) 8 := sm_cong (fun k hk => by
    rw [bt_or hp hk ev ew]
    by_cases q : k = p
    · simp [q]
    · simp [q])
  rw [e]
  have h2 : (if bt a p = true then 1 else 0) = 0 := by rw [hb]; rfl
  have h3 : kc a = sm (fun k => if bt a k = true then 1 else 0) 8 := rfl
  omega
theorem kc_lt {a : Int32} {p : Nat} (hp : p < 8) (hb : bt a p = false) : kc a < 8 := by
  have h1 := kc_or hp hb rfl (w := a ||| (1 <<< (nI p &&& 31))) rfl
  have h2 := kc_le (a ||| (1 <<< (nI p &&& 31)))
  omega
/-- levels: those known lie under their number; no one else has one that is no level -/
def LV (f : Nat → Int32) (a : Int32) : Prop := ∀ q, q < 8 → (bt a q = true → ∃ j : Nat, j < kc a ∧ f q = nI j) ∧ (f q = -1 ∨ ∃ j : Nat, j < 8 ∧ f q = nI j)
def LW (f : Nat → Int32) : Prop := ∀ q, q < 8 → f q = -1 ∨ ∃ j : Nat, j < 8 ∧ f q = nI j
def LQ (f : Nat → Int32) (a : Int32) (p : Nat) : Prop := LV f a ∧ ∃ x : Nat, x ≤ kc a ∧ f p = nI x
theorem lv_0 {f : Nat → Int32} (h : LW f) : LV f 0 := fun q hq => ⟨fun hb => absurd hb (by rw [bt_0 hq]; decide), h q hq⟩
theorem lv_w {f : Nat → Int32} {a : Int32} (h : LV f a) : LW f := fun q hq => (h q hq).2
theorem lq_up {f : Nat → Int32} {a : Int32} {p x : Nat} (hp : p < 8) (hb : bt a p = false) (H : LV f a) (hx : x ≤ kc a) : LQ (upd f (Int32.toNatClampNeg (nI p)) (nI x)) a p := by
  rw [nI_clamp (by omega)]
  have hk := kc_lt hp hb
  refine ⟨fun q hq => ?_, x, hx, pk_us⟩
  by_cases e : q = p
  · subst e
    rw [pk_us]
    exact ⟨fun h => absurd h (by rw [hb]; decide), Or.inr ⟨x, by omega, rfl⟩⟩
  · rw [pk_un e]; exact H q hq
theorem lq_q {f : Nat → Int32} {a : Int32} {p q : Nat} (H : LQ f a p) (hq : q < 8) (hb : bt a q = true) : ∃ j : Nat, j < kc a ∧ f (Int32.toNatClampNeg (nI q)) = nI j := by
  rw [nI_clamp (by omega)]; exact (H.1 q hq).1 hb
theorem lq_p {f : Nat → Int32} {a : Int32} {p : Nat} (H : LQ f a p) (hp : p < 8) : ∃ x : Nat, x ≤ kc a ∧ f (Int32.toNatClampNeg (nI p)) = nI x := by
  rw [nI_clamp (by omega)]; exact H.2
theorem lq_new {f : Nat → Int32} {a v w : Int32} {p : Nat} (hp : p < 8) (hb : bt a p = false) (H : LQ f a p) (ev : v = 1 <<< (nI p &&& 31)) (ew : w = a ||| v) : LV f w := by
  have hk := kc_or hp hb ev ew
  intro q hq
  refine ⟨fun h => ?_, (H.1 q hq).2⟩
  rw [bt_or hp hq ev ew] at h
  by_cases e : q = p
  · subst e
    obtain ⟨x, hx, hf⟩ := H.2
    exact ⟨x, by omega, hf⟩
  · have h2 : bt a q = true := by simpa [e] using h
    obtain ⟨j, hj, hf⟩ := (H.1 q hq).1 h2
    exact ⟨j, by omega, hf⟩
theorem dX8_laysLevels_0 : decode cX8_laysLevels 0 = .ok (.aload_n 0, 1) := by decide +kernel
theorem dX8_laysLevels_1 : decode cX8_laysLevels 1 = .ok (.iconst 0, 1) := by decide +kernel
theorem dX8_laysLevels_2 : decode cX8_laysLevels 2 = .ok (.putfield 165, 3) := by decide +kernel
theorem dX8_laysLevels_5 : decode cX8_laysLevels 5 = .ok (.aload_n 0, 1) := by decide +kernel
theorem dX8_laysLevels_6 : decode cX8_laysLevels 6 = .ok (.iconst 0, 1) := by decide +kernel
theorem dX8_laysLevels_7 : decode cX8_laysLevels 7 = .ok (.putfield 168, 3) := by decide +kernel
theorem dX8_laysLevels_10 : decode cX8_laysLevels 10 = .ok (.iconst 0, 1) := by decide +kernel
theorem dX8_laysLevels_11 : decode cX8_laysLevels 11 = .ok (.istore_n 1, 1) := by decide +kernel
theorem dX8_laysLevels_12 : decode cX8_laysLevels 12 = .ok (.iconst 1, 1) := by decide +kernel
theorem dX8_laysLevels_13 : decode cX8_laysLevels 13 = .ok (.istore_n 2, 1) := by decide +kernel
theorem dX8_laysLevels_14 : decode cX8_laysLevels 14 = .ok (.iload_n 2, 1) := by decide +kernel
theorem dX8_laysLevels_15 : decode cX8_laysLevels 15 = .ok (.ifCond .eq 216, 3) := by decide +kernel
theorem dX8_laysLevels_18 : decode cX8_laysLevels 18 = .ok (.iconst 0, 1) := by decide +kernel
theorem dX8_laysLevels_19 : decode cX8_laysLevels 19 = .ok (.istore_n 2, 1) := by decide +kernel
theorem dX8_laysLevels_20 : decode cX8_laysLevels 20 = .ok (.iconst 0, 1) := by decide +kernel
theorem dX8_laysLevels_21 : decode cX8_laysLevels 21 = .ok (.istore_n 3, 1) := by decide +kernel
theorem dX8_laysLevels_22 : decode cX8_laysLevels 22 = .ok (.iload_n 3, 1) := by decide +kernel
theorem dX8_laysLevels_23 : decode cX8_laysLevels 23 = .ok (.bipush 8, 2) := by decide +kernel
theorem dX8_laysLevels_25 : decode cX8_laysLevels 25 = .ok (.if_icmp .ge 203, 3) := by decide +kernel
theorem dX8_laysLevels_28 : decode cX8_laysLevels 28 = .ok (.aload_n 0, 1) := by decide +kernel
theorem dX8_laysLevels_29 : decode cX8_laysLevels 29 = .ok (.getfield 162, 3) := by decide +kernel
theorem dX8_laysLevels_32 : decode cX8_laysLevels 32 = .ok (.iload_n 3, 1) := by decide +kernel
theorem dX8_laysLevels_33 : decode cX8_laysLevels 33 = .ok (.invokestatic 154, 3) := by decide +kernel
theorem dX8_laysLevels_36 : decode cX8_laysLevels 36 = .ok (.ifCond .eq 186, 3) := by decide +kernel
theorem dX8_laysLevels_39 : decode cX8_laysLevels 39 = .ok (.iload_n 1, 1) := by decide +kernel
theorem dX8_laysLevels_40 : decode cX8_laysLevels 40 = .ok (.iload_n 3, 1) := by decide +kernel
theorem dX8_laysLevels_41 : decode cX8_laysLevels 41 = .ok (.invokestatic 154, 3) := by decide +kernel
theorem dX8_laysLevels_44 : decode cX8_laysLevels 44 = .ok (.ifCond .ne 178, 3) := by decide +kernel
theorem dX8_laysLevels_47 : decode cX8_laysLevels 47 = .ok (.aload_n 0, 1) := by decide +kernel
theorem dX8_laysLevels_48 : decode cX8_laysLevels 48 = .ok (.getfield 67, 3) := by decide +kernel
theorem dX8_laysLevels_51 : decode cX8_laysLevels 51 = .ok (.iload_n 3, 1) := by decide +kernel
theorem dX8_laysLevels_52 : decode cX8_laysLevels 52 = .ok (.iaload, 1) := by decide +kernel
theorem dX8_laysLevels_53 : decode cX8_laysLevels 53 = .ok (.iload_n 1, 1) := by decide +kernel
theorem dX8_laysLevels_54 : decode cX8_laysLevels 54 = .ok (.iconst (-1), 1) := by decide +kernel
theorem dX8_laysLevels_55 : decode cX8_laysLevels 55 = .ok (.ixor, 1) := by decide +kernel
theorem dX8_laysLevels_56 : decode cX8_laysLevels 56 = .ok (.iand, 1) := by decide +kernel
theorem dX8_laysLevels_57 : decode cX8_laysLevels 57 = .ok (.ifCond .eq 6, 3) := by decide +kernel
theorem dX8_laysLevels_60 : decode cX8_laysLevels 60 = .ok (.goto 162, 3) := by decide +kernel
theorem dX8_laysLevels_63 : decode cX8_laysLevels 63 = .ok (.aload_n 0, 1) := by decide +kernel
theorem dX8_laysLevels_64 : decode cX8_laysLevels 64 = .ok (.getfield 70, 3) := by decide +kernel
theorem dX8_laysLevels_67 : decode cX8_laysLevels 67 = .ok (.iload_n 3, 1) := by decide +kernel
theorem dX8_laysLevels_68 : decode cX8_laysLevels 68 = .ok (.iconst 0, 1) := by decide +kernel
theorem dX8_laysLevels_69 : decode cX8_laysLevels 69 = .ok (.iastore, 1) := by decide +kernel
theorem dX8_laysLevels_70 : decode cX8_laysLevels 70 = .ok (.iconst 0, 1) := by decide +kernel
theorem dX8_laysLevels_71 : decode cX8_laysLevels 71 = .ok (.istore 4, 2) := by decide +kernel
theorem dX8_laysLevels_73 : decode cX8_laysLevels 73 = .ok (.iload 4, 2) := by decide +kernel
theorem dX8_laysLevels_75 : decode cX8_laysLevels 75 = .ok (.bipush 8, 2) := by decide +kernel
theorem dX8_laysLevels_77 : decode cX8_laysLevels 77 = .ok (.if_icmp .ge 63, 3) := by decide +kernel
theorem dX8_laysLevels_80 : decode cX8_laysLevels 80 = .ok (.aload_n 0, 1) := by decide +kernel
theorem dX8_laysLevels_81 : decode cX8_laysLevels 81 = .ok (.getfield 70, 3) := by decide +kernel
theorem dX8_laysLevels_84 : decode cX8_laysLevels 84 = .ok (.iload_n 3, 1) := by decide +kernel
theorem dX8_laysLevels_85 : decode cX8_laysLevels 85 = .ok (.aload_n 0, 1) := by decide +kernel
theorem dX8_laysLevels_86 : decode cX8_laysLevels 86 = .ok (.getfield 67, 3) := by decide +kernel
theorem dX8_laysLevels_89 : decode cX8_laysLevels 89 = .ok (.iload_n 3, 1) := by decide +kernel
theorem dX8_laysLevels_90 : decode cX8_laysLevels 90 = .ok (.iaload, 1) := by decide +kernel
theorem dX8_laysLevels_91 : decode cX8_laysLevels 91 = .ok (.iload 4, 2) := by decide +kernel
theorem dX8_laysLevels_93 : decode cX8_laysLevels 93 = .ok (.invokestatic 154, 3) := by decide +kernel
theorem dX8_laysLevels_96 : decode cX8_laysLevels 96 = .ok (.ifCond .eq 31, 3) := by decide +kernel
theorem dX8_laysLevels_99 : decode cX8_laysLevels 99 = .ok (.aload_n 0, 1) := by decide +kernel
theorem dX8_laysLevels_100 : decode cX8_laysLevels 100 = .ok (.getfield 70, 3) := by decide +kernel
theorem dX8_laysLevels_103 : decode cX8_laysLevels 103 = .ok (.iload 4, 2) := by decide +kernel
theorem dX8_laysLevels_105 : decode cX8_laysLevels 105 = .ok (.iaload, 1) := by decide +kernel
theorem dX8_laysLevels_106 : decode cX8_laysLevels 106 = .ok (.aload_n 0, 1) := by decide +kernel
theorem dX8_laysLevels_107 : decode cX8_laysLevels 107 = .ok (.getfield 70, 3) := by decide +kernel
theorem dX8_laysLevels_110 : decode cX8_laysLevels 110 = .ok (.iload_n 3, 1) := by decide +kernel
theorem dX8_laysLevels_111 : decode cX8_laysLevels 111 = .ok (.iaload, 1) := by decide +kernel
theorem dX8_laysLevels_112 : decode cX8_laysLevels 112 = .ok (.if_icmp .lt 15, 3) := by decide +kernel
theorem dX8_laysLevels_115 : decode cX8_laysLevels 115 = .ok (.aload_n 0, 1) := by decide +kernel
theorem dX8_laysLevels_116 : decode cX8_laysLevels 116 = .ok (.getfield 70, 3) := by decide +kernel
theorem dX8_laysLevels_119 : decode cX8_laysLevels 119 = .ok (.iload 4, 2) := by decide +kernel
theorem dX8_laysLevels_121 : decode cX8_laysLevels 121 = .ok (.iaload, 1) := by decide +kernel
theorem dX8_laysLevels_122 : decode cX8_laysLevels 122 = .ok (.iconst 1, 1) := by decide +kernel
theorem dX8_laysLevels_123 : decode cX8_laysLevels 123 = .ok (.iadd, 1) := by decide +kernel
theorem dX8_laysLevels_124 : decode cX8_laysLevels 124 = .ok (.goto 9, 3) := by decide +kernel
theorem dX8_laysLevels_127 : decode cX8_laysLevels 127 = .ok (.aload_n 0, 1) := by decide +kernel
theorem dX8_laysLevels_128 : decode cX8_laysLevels 128 = .ok (.getfield 70, 3) := by decide +kernel
theorem dX8_laysLevels_131 : decode cX8_laysLevels 131 = .ok (.iload_n 3, 1) := by decide +kernel
theorem dX8_laysLevels_132 : decode cX8_laysLevels 132 = .ok (.iaload, 1) := by decide +kernel
theorem dX8_laysLevels_133 : decode cX8_laysLevels 133 = .ok (.iastore, 1) := by decide +kernel
theorem dX8_laysLevels_134 : decode cX8_laysLevels 134 = .ok (.iinc 4 1, 3) := by decide +kernel
theorem dX8_laysLevels_137 : decode cX8_laysLevels 137 = .ok (.goto (-64), 3) := by decide +kernel
theorem dX8_laysLevels_140 : decode cX8_laysLevels 140 = .ok (.aload_n 0, 1) := by decide +kernel
theorem dX8_laysLevels_141 : decode cX8_laysLevels 141 = .ok (.aload_n 0, 1) := by decide +kernel
theorem dX8_laysLevels_142 : decode cX8_laysLevels 142 = .ok (.getfield 168, 3) := by decide +kernel
theorem dX8_laysLevels_145 : decode cX8_laysLevels 145 = .ok (.aload_n 0, 1) := by decide +kernel
theorem dX8_laysLevels_146 : decode cX8_laysLevels 146 = .ok (.getfield 25, 3) := by decide +kernel
theorem dX8_laysLevels_149 : decode cX8_laysLevels 149 = .ok (.iload_n 3, 1) := by decide +kernel
theorem dX8_laysLevels_150 : decode cX8_laysLevels 150 = .ok (.iaload, 1) := by decide +kernel
theorem dX8_laysLevels_151 : decode cX8_laysLevels 151 = .ok (.iconst 3, 1) := by decide +kernel
theorem dX8_laysLevels_152 : decode cX8_laysLevels 152 = .ok (.if_icmp .ne 25, 3) := by decide +kernel
theorem dX8_laysLevels_155 : decode cX8_laysLevels 155 = .ok (.aload_n 0, 1) := by decide +kernel
theorem dX8_laysLevels_156 : decode cX8_laysLevels 156 = .ok (.getfield 67, 3) := by decide +kernel
theorem dX8_laysLevels_159 : decode cX8_laysLevels 159 = .ok (.iload_n 3, 1) := by decide +kernel
theorem dX8_laysLevels_160 : decode cX8_laysLevels 160 = .ok (.iaload, 1) := by decide +kernel
theorem dX8_laysLevels_161 : decode cX8_laysLevels 161 = .ok (.aload_n 0, 1) := by decide +kernel
theorem dX8_laysLevels_162 : decode cX8_laysLevels 162 = .ok (.getfield 168, 3) := by decide +kernel
theorem dX8_laysLevels_165 : decode cX8_laysLevels 165 = .ok (.iconst (-1), 1) := by decide +kernel
theorem dX8_laysLevels_166 : decode cX8_laysLevels 166 = .ok (.ixor, 1) := by decide +kernel
theorem dX8_laysLevels_167 : decode cX8_laysLevels 167 = .ok (.iand, 1) := by decide +kernel
theorem dX8_laysLevels_168 : decode cX8_laysLevels 168 = .ok (.ifCond .eq 9, 3) := by decide +kernel
theorem dX8_laysLevels_171 : decode cX8_laysLevels 171 = .ok (.iconst 1, 1) := by decide +kernel
theorem dX8_laysLevels_172 : decode cX8_laysLevels 172 = .ok (.iload_n 3, 1) := by decide +kernel
theorem dX8_laysLevels_173 : decode cX8_laysLevels 173 = .ok (.ishl, 1) := by decide +kernel
theorem dX8_laysLevels_174 : decode cX8_laysLevels 174 = .ok (.goto 4, 3) := by decide +kernel
theorem dX8_laysLevels_177 : decode cX8_laysLevels 177 = .ok (.iconst 0, 1) := by decide +kernel
theorem dX8_laysLevels_178 : decode cX8_laysLevels 178 = .ok (.ior, 1) := by decide +kernel
theorem dX8_laysLevels_179 : decode cX8_laysLevels 179 = .ok (.putfield 168, 3) := by decide +kernel
theorem dX8_laysLevels_182 : decode cX8_laysLevels 182 = .ok (.aload_n 0, 1) := by decide +kernel
theorem dX8_laysLevels_183 : decode cX8_laysLevels 183 = .ok (.aload_n 0, 1) := by decide +kernel
theorem dX8_laysLevels_184 : decode cX8_laysLevels 184 = .ok (.getfield 70, 3) := by decide +kernel
theorem dX8_laysLevels_187 : decode cX8_laysLevels 187 = .ok (.iload_n 3, 1) := by decide +kernel
theorem dX8_laysLevels_188 : decode cX8_laysLevels 188 = .ok (.iaload, 1) := by decide +kernel
theorem dX8_laysLevels_189 : decode cX8_laysLevels 189 = .ok (.aload_n 0, 1) := by decide +kernel
theorem dX8_laysLevels_190 : decode cX8_laysLevels 190 = .ok (.getfield 165, 3) := by decide +kernel
theorem dX8_laysLevels_193 : decode cX8_laysLevels 193 = .ok (.if_icmp .lt 14, 3) := by decide +kernel
theorem dX8_laysLevels_196 : decode cX8_laysLevels 196 = .ok (.aload_n 0, 1) := by decide +kernel
theorem dX8_laysLevels_197 : decode cX8_laysLevels 197 = .ok (.getfield 70, 3) := by decide +kernel
theorem dX8_laysLevels_200 : decode cX8_laysLevels 200 = .ok (.iload_n 3, 1) := by decide +kernel
theorem dX8_laysLevels_201 : decode cX8_laysLevels 201 = .ok (.iaload, 1) := by decide +kernel
theorem dX8_laysLevels_202 : decode cX8_laysLevels 202 = .ok (.iconst 1, 1) := by decide +kernel
theorem dX8_laysLevels_203 : decode cX8_laysLevels 203 = .ok (.iadd, 1) := by decide +kernel
theorem dX8_laysLevels_204 : decode cX8_laysLevels 204 = .ok (.goto 7, 3) := by decide +kernel
theorem dX8_laysLevels_207 : decode cX8_laysLevels 207 = .ok (.aload_n 0, 1) := by decide +kernel
theorem dX8_laysLevels_208 : decode cX8_laysLevels 208 = .ok (.getfield 165, 3) := by decide +kernel
theorem dX8_laysLevels_211 : decode cX8_laysLevels 211 = .ok (.putfield 165, 3) := by decide +kernel
theorem dX8_laysLevels_214 : decode cX8_laysLevels 214 = .ok (.iload_n 1, 1) := by decide +kernel
theorem dX8_laysLevels_215 : decode cX8_laysLevels 215 = .ok (.iconst 1, 1) := by decide +kernel
theorem dX8_laysLevels_216 : decode cX8_laysLevels 216 = .ok (.iload_n 3, 1) := by decide +kernel
theorem dX8_laysLevels_217 : decode cX8_laysLevels 217 = .ok (.ishl, 1) := by decide +kernel
theorem dX8_laysLevels_218 : decode cX8_laysLevels 218 = .ok (.ior, 1) := by decide +kernel
theorem dX8_laysLevels_219 : decode cX8_laysLevels 219 = .ok (.istore_n 1, 1) := by decide +kernel
theorem dX8_laysLevels_220 : decode cX8_laysLevels 220 = .ok (.iconst 1, 1) := by decide +kernel
theorem dX8_laysLevels_221 : decode cX8_laysLevels 221 = .ok (.istore_n 2, 1) := by decide +kernel
theorem dX8_laysLevels_222 : decode cX8_laysLevels 222 = .ok (.iinc 3 1, 3) := by decide +kernel
theorem dX8_laysLevels_225 : decode cX8_laysLevels 225 = .ok (.goto (-203), 3) := by decide +kernel
theorem dX8_laysLevels_228 : decode cX8_laysLevels 228 = .ok (.goto (-214), 3) := by decide +kernel
theorem dX8_laysLevels_231 : decode cX8_laysLevels 231 = .ok (.return_, 1) := by decide +kernel
theorem gX8_laysLevels_X8_isOn : GoodIn wtX8_laysLevels (va_wsS RX8 154 yX8_isOn wtX8_isOn) := tb_good (tb_s0 wd_423 wd_424 wd_5 wd_425)
set_option maxHeartbeats 4000000 in
set_option maxRecDepth 100000 in
theorem m_X8_laysLevels (l : Launch) (D : va_G) (cI cJ : ClassId) (sz : Nat) (g g2 g3 g4 g5 g6 g7 g8 g9 g10 g12 g13 g15 g16 g17 g19 g20 g21 g22 g23 g24 g25 g26 g27 g28 g33 g34 g35 g36 g37 g38 g39 g41 g42 g44 g45 mn ml mv : Nat) (gi0 gi14 gi18 gi29 gi30 gi32 gi40 gi43 : Int32) (G7 G24 G25 : Nat → Int32) (hLW : LW G25) : Met l yX8_laysLevels wtX8_laysLevels { frames := 1, cells := 0, slots := 0, locals := 21 } (cPc D cI cJ [.ref g] sz [(oX8 g gi0 (nI mn) g2 g3 g4 g5 g6 g7 g8 g9 g10 (nI ml) g12 g13 gi14 g15 g16 g17 gi18 g19 g20 g21 g22 g23 g24 g25 g26 g27 g28 gi29 gi30 (nI mv) gi32 g33 g34 g35 g36 g37 g38 g39 gi40 g41 g42 gi43 g44 g45), (aIc cI g7 8 G7), (aIc cI g24 8 G24), (aIc cI g25 8 G25)]) (cQv D (fun u => ∃ (G25p : Nat → Int32) (gi30p : Int32) (mvp : Nat), (mvp ≤ 8) ∧ (LW G25p) ∧ u = [(oX8 g gi0 (nI mn) g2 g3 g4 g5 g6 g7 g8 g9 g10 (nI ml) g12 g13 gi14 g15 g16 g17 gi18 g19 g20 g21 g22 g23 g24 g25 g26 g27 g28 gi29 gi30p (nI mvp) gi32 g33 g34 g35 g36 g37 g38 g39 gi40 g41 g42 gi43 g44 g45), (aIc cI g7 8 G7), (aIc cI g24 8 G24), (aIc cI g25 8 G25p)]) (va_A [(oX8 g gi0 (nI mn) g2 g3 g4 g5 g6 g7 g8 g9 g10 (nI ml) g12 g13 gi14 g15 g16 g17 gi18 g19 g20 g21 g22 g23 g24 g25 g26 g27 g28 gi29 gi30 (nI mv) gi32 g33 g34 g35 g36 g37 g38 g39 gi40 g41 g42 gi43 g44 g45), (aIc cI g7 8 G7), (aIc cI g24 8 G24), (aIc cI g25 8 G25)] sz)) 0 0 (va_A [(oX8 g gi0 (nI mn) g2 g3 g4 g5 g6 g7 g8 g9 g10 (nI ml) g12 g13 gi14 g15 g16 g17 gi18 g19 g20 g21 g22 g23 g24 g25 g26 g27 g28 gi29 gi30 (nI mv) gi32 g33 g34 g35 g36 g37 g38 g39 gi40 g41 g42 gi43 g44 g45), (aIc cI g7 8 G7), (aIc cI g24 8 G24), (aIc cI g25 8 G25)] sz) := by
  refine k_ofW (Qc := cQv D (fun u => ∃ (G25p : Nat → Int32) (gi30p : Int32) (mvp : Nat), (mvp ≤ 8) ∧ (LW G25p) ∧ u = [(oX8 g gi0 (nI mn) g2 g3 g4 g5 g6 g7 g8 g9 g10 (nI ml) g12 g13 gi14 g15 g16 g17 gi18 g19 g20 g21 g22 g23 g24 g25 g26 g27 g28 gi29 gi30p (nI mvp) gi32 g33 g34 g35 g36 g37 g38 g39 gi40 g41 g42 gi43 g44 g45), (aIc cI g7 8 G7), (aIc cI g24 8 G24), (aIc cI g25 8 G25p)])) (by decide) rfl (Nat.le_of_ble_eq_true rfl) ?_
  intro p e s m below meth c A ls hx hb hr hml hts hown hlk hnm hsz hE hP hD hS hA hl
  have hown : s.vm.findClass RX8 = some m.cls := hown
  have hiX8 : ∀ w ∈ u_ws RX8 TX8 46, w ∈ wtX8_laysLevels := fun w h => List.mem_cons_of_mem _ (iuX8 w h)
  have hl : lv_has ls 5 [(0, .ref g)] := hl
  refine lv_aload_n hx hb dX8_laysLevels_0 rfl (lv_at hl 0 rfl) ?_
  refine lv_iconst (v := 0) hx hb dX8_laysLevels_1 (by decide) ?_
  refine va_put (D := D) (ci := 8) (v := .int 0) (ty := .int) (C := RX8) (T := TX8) (N := 46) hx hb hts hiX8 tyX8 tyX8_ok nmX8 hown hE.1 hP hD hS 0 rfl rfl 31 (by decide) (hts _ (List.mem_cons_of_mem _ wd_422)) (fun _ h9 => h9) rfl (by decide +kernel) rfl rfl (Nat.le_of_ble_eq_true rfl) dX8_laysLevels_2 (fun H locs hP hD hS => ?_)
  refine k_re (w := [(oX8 g gi0 (nI mn) g2 g3 g4 g5 g6 g7 g8 g9 g10 (nI ml) g12 g13 gi14 g15 g16 g17 gi18 g19 g20 g21 g22 g23 g24 g25 g26 g27 g28 gi29 gi30 0 gi32 g33 g34 g35 g36 g37 g38 g39 gi40 g41 g42 gi43 g44 g45), (aIc cI g7 8 G7), (aIc cI g24 8 G24), (aIc cI g25 8 G25)]) hP hD (fun hP hD => ?_)
  refine lv_aload_n hx hb dX8_laysLevels_5 rfl (lv_at hl 0 rfl) ?_
  refine lv_iconst (v := 0) hx hb dX8_laysLevels_6 (by decide) ?_
  refine va_put (D := D) (ci := 8) (v := .int 0) (ty := .int) (C := RX8) (T := TX8) (N := 46) hx hb hts hiX8 tyX8 tyX8_ok nmX8 hown hE.1 hP hD hS 0 rfl rfl 30 (by decide) (hts _ (List.mem_cons_of_mem _ wd_445)) (fun _ h9 => h9) rfl (by decide +kernel) rfl rfl (Nat.le_of_ble_eq_true rfl) dX8_laysLevels_7 (fun H locs hP hD hS => ?_)
  refine k_re (w := [(oX8 g gi0 (nI mn) g2 g3 g4 g5 g6 g7 g8 g9 g10 (nI ml) g12 g13 gi14 g15 g16 g17 gi18 g19 g20 g21 g22 g23 g24 g25 g26 g27 g28 gi29 0 0 gi32 g33 g34 g35 g36 g37 g38 g39 gi40 g41 g42 gi43 g44 g45), (aIc cI g7 8 G7), (aIc cI g24 8 G24), (aIc cI g25 8 G25)]) hP hD (fun hP hD => ?_)
  refine lv_iconst (v := 0) hx hb dX8_laysLevels_10 (by decide) ?_
  refine lv_istore_n (lv' := [(1, .int 0), (0, .ref g)]) hx hb dX8_laysLevels_11 rfl hl (by decide) rfl (fun ls hl => ?_)
  refine lv_iconst (v := 1) hx hb dX8_laysLevels_12 (by decide) ?_
  refine lv_istore_n (lv' := [(2, .int 1), (1, .int 0), (0, .ref g)]) hx hb dX8_laysLevels_13 rfl hl (by decide) rfl (fun ls hl => ?_)
  have J14 : ∀ (zz : Nat) (h1_14 : Int32) (h2_14 : Nat) (a_g25_14 : Nat → Int32) (f8_30_14 : Int32) (f8_31_14 : Nat), (LV a_g25_14 h1_14) → (f8_31_14 ≤ kc h1_14) → (h2_14 ≤ 1) → 2 * (8 - kc h1_14) + h2_14 < zz → ∀ (H : Heap) (locs : List Loc) (ls : Array Slot), va_P D vwCl [(oX8 g gi0 (nI mn) g2 g3 g4 g5 g6 g7 g8 g9 g10 (nI ml) g12 g13 gi14 g15 g16 g17 gi18 g19 g20 g21 g22 g23 g24 g25 g26 g27 g28 gi29 f8_30_14 (nI f8_31_14) gi32 g33 g34 g35 g36 g37 g38 g39 gi40 g41 g42 gi43 g44 g45), (aIc cI g7 8 G7), (aIc cI g24 8 G24), (aIc cI g25 8 a_g25_14)] H → va_D A [(oX8 g gi0 (nI mn) g2 g3 g4 g5 g6 g7 g8 g9 g10 (nI ml) g12 g13 gi14 g15 g16 g17 gi18 g19 g20 g21 g22 g23 g24 g25 g26 g27 g28 gi29 f8_30_14 (nI f8_31_14) gi32 g33 g34 g35 g36 g37 g38 g39 gi40 g41 g42 gi43 g44 g45), (aIc cI g7 8 G7), (aIc cI g24 8 G24), (aIc cI g25 8 a_g25_14)] → va_S A s.heap H locs → lv_has ls 5 [(2, .int (nI h2_14)), (1, .int h1_14), (0, .ref g)] → W p l e { frames := 1, cells := 0, slots := 0, locals := 21 } s m [.ref g].toArray below meth c H locs 0 0 (MQ below (cQv D (fun u => ∃ (G25p : Nat → Int32) (gi30p : Int32) (mvp : Nat), (mvp ≤ 8) ∧ (LW G25p) ∧ u = [(oX8 g gi0 (nI mn) g2 g3 g4 g5 g6 g7 g8 g9 g10 (nI ml) g12 g13 gi14 g15 g16 g17 gi18 g19 g20 g21 g22 g23 g24 g25 g26 g27 g28 gi29 gi30p (nI mvp) gi32 g33 g34 g35 g36 g37 g38 g39 gi40 g41 g42 gi43 g44 g45), (aIc cI g7 8 G7), (aIc cI g24 8 G24), (aIc cI g25 8 G25p)]) A) [.ref g].toArray s 0 0 A) (F0 m 14 ls []) := by
    intro zz
    induction zz with
    | zero => intro h1_14 h2_14 a_g25_14 f8_30_14 f8_31_14 _ _ _; exact fun h => absurd h (Nat.not_lt_zero _)
    | succ zz ih14 =>
      intro h1_14 h2_14 a_g25_14 f8_30_14 f8_31_14 hLV_14 hlv_14 hmo_14 hmu14 H locs ls hP hD hS hl
      refine lv_iload_n hx hb dX8_laysLevels_14 rfl (lv_at hl 0 rfl) ?_
      refine lv_if_eq (tgt := 231) hx hb dX8_laysLevels_15 (by decide) (fun c1 => ?_) (fun c1 => ?_)
      · skip
        have nc1 : h2_14 = 0 := (nI_eq (a := h2_14) (b := 0) (by omega) (by omega)).mp c1
        refine k_vret (u := [(oX8 g gi0 (nI mn) g2 g3 g4 g5 g6 g7 g8 g9 g10 (nI ml) g12 g13 gi14 g15 g16 g17 gi18 g19 g20 g21 g22 g23 g24 g25 g26 g27 g28 gi29 f8_30_14 (nI f8_31_14) gi32 g33 g34 g35 g36 g37 g38 g39 gi40 g41 g42 gi43 g44 g45), (aIc cI g7 8 G7), (aIc cI g24 8 G24), (aIc cI g25 8 a_g25_14)]) hx hb hr hlk hP hD hS dX8_laysLevels_231 ?_
        exact ⟨a_g25_14, f8_30_14, f8_31_14, (Nat.le_trans hlv_14 (kc_le _)), (lv_w hLV_14), rfl⟩
      · skip
        have nc1 : ¬ h2_14 = 0 := fun q9 => c1 ((nI_eq (a := h2_14) (b := 0) (by omega) (by omega)).mpr q9)
        refine lv_iconst (v := 0) hx hb dX8_laysLevels_18 (by decide) ?_
        refine lv_istore_n (lv' := [(2, .int 0), (1, .int h1_14), (0, .ref g)]) hx hb dX8_laysLevels_19 rfl hl (by decide) rfl (fun ls hl => ?_)
        refine lv_iconst (v := 0) hx hb dX8_laysLevels_20 (by decide) ?_
        refine lv_istore_n (lv' := [(3, .int 0), (2, .int 0), (1, .int h1_14), (0, .ref g)]) hx hb dX8_laysLevels_21 rfl hl (by decide) rfl (fun ls hl => ?_)
        have J22 : ∀ (zz : Nat) (i22 : Nat) (h1_22 : Int32) (h2_22 : Nat) (a_g25_22 : Nat → Int32) (f8_30_22 : Int32) (f8_31_22 : Nat), (i22 ≤ 8) → (LV a_g25_22 h1_22) → (f8_31_22 ≤ kc h1_22) → (h2_22 ≤ 1) → (kc h1_14 ≤ kc h1_22) → (h2_22 = 0 ∨ kc h1_14 < kc h1_22) → (8 - i22) < zz → ∀ (H : Heap) (locs : List Loc) (ls : Array Slot), va_P D vwCl [(oX8 g gi0 (nI mn) g2 g3 g4 g5 g6 g7 g8 g9 g10 (nI ml) g12 g13 gi14 g15 g16 g17 gi18 g19 g20 g21 g22 g23 g24 g25 g26 g27 g28 gi29 f8_30_22 (nI f8_31_22) gi32 g33 g34 g35 g36 g37 g38 g39 gi40 g41 g42 gi43 g44 g45), (aIc cI g7 8 G7), (aIc cI g24 8 G24), (aIc cI g25 8 a_g25_22)] H → va_D A [(oX8 g gi0 (nI mn) g2 g3 g4 g5 g6 g7 g8 g9 g10 (nI ml) g12 g13 gi14 g15 g16 g17 gi18 g19 g20 g21 g22 g23 g24 g25 g26 g27 g28 gi29 f8_30_22 (nI f8_31_22) gi32 g33 g34 g35 g36 g37 g38 g39 gi40 g41 g42 gi43 g44 g45), (aIc cI g7 8 G7), (aIc cI g24 8 G24), (aIc cI g25 8 a_g25_22)] → va_S A s.heap H locs → lv_has ls 5 [(3, .int (nI i22)), (2, .int (nI h2_22)), (1, .int h1_22), (0, .ref g)] → W p l e { frames := 1, cells := 0, slots := 0, locals := 21 } s m [.ref g].toArray below meth c H locs 0 0 (MQ below (cQv D (fun u => ∃ (G25p : Nat → Int32) (gi30p : Int32) (mvp : Nat), (mvp ≤ 8) ∧ (LW G25p) ∧ u = [(oX8 g gi0 (nI mn) g2 g3 g4 g5 g6 g7 g8 g9 g10 (nI ml) g12 g13 gi14 g15 g16 g17 gi18 g19 g20 g21 g22 g23 g24 g25 g26 g27 g28 gi29 gi30p (nI mvp) gi32 g33 g34 g35 g36 g37 g38 g39 gi40 g41 g42 gi43 g44 g45), (aIc cI g7 8 G7), (aIc cI g24 8 G24), (aIc cI g25 8 G25p)]) A) [.ref g].toArray s 0 0 A) (F0 m 22 ls []) := by
          intro zz
          induction zz with
          | zero => intro i22 h1_22 h2_22 a_g25_22 f8_30_22 f8_31_22 _ _ _ _ _ _; exact fun h => absurd h (Nat.not_lt_zero _)
          | succ zz ih22 =>
            intro i22 h1_22 h2_22 a_g25_22 f8_30_22 f8_31_22 hc3_22 hLV_22 hlv_22 hmo_22 hc1_22 hc2_22 hmu22 H locs ls hP hD hS hl
            refine lv_iload_n hx hb dX8_laysLevels_22 rfl (lv_at hl 0 rfl) ?_
            refine lv_bipush (v := 8) hx hb dX8_laysLevels_23 (by decide) ?_
            refine lv_icmp_ge (tgt := 228) hx hb dX8_laysLevels_25 (by decide) (fun c2 => ?_) (fun c2 => ?_)
            · skip
              have nc2 : 8 ≤ i22 := (nI_leI (a := 8) (b := i22) (by omega) (by omega)).mp c2
              refine lv_goto (tgt := 14) hx hb dX8_laysLevels_228 (by decide) ?_
              have hk1 := kc_le h1_14
              have hk2 := kc_le h1_22
              exact ih14 h1_22 h2_22 a_g25_22 f8_30_22 f8_31_22 hLV_22 (by omega) (by omega) (by omega) _ _ _ hP hD hS (lv_sub hl [1, 2, 3] rfl)
            · skip
              have nc2 : ¬ 8 ≤ i22 := fun q9 => c2 ((nI_leI (a := 8) (b := i22) (by omega) (by omega)).mpr q9)
              refine lv_aload_n hx hb dX8_laysLevels_28 rfl (lv_at hl 3 rfl) ?_
              refine va_get (D := D) (ci := 8) (v := .int gi29) (C := RX8) (T := TX8) (N := 46) hx hb hts hiX8 hown hE.1 hP 0 rfl rfl 29 (by decide) (hts _ (List.mem_cons_of_mem _ wd_421)) (fun _ h9 => h9) rfl dX8_laysLevels_29 ?_
              refine lv_iload_n hx hb dX8_laysLevels_32 rfl (lv_at hl 0 rfl) ?_
              refine k_iS (va_runS (As := [.int gi29, .int (nI i22)]) (rest := []) ⟨hx, hb, hml, hown, hts⟩ (m_X8_isOn l D cI cJ H.size gi29 (nI i22)) (va_cwS 2 hts gX8_laysLevels_X8_isOn rfl rfl rfl (by decide +kernel) ⟨Nat.le_of_ble_eq_true rfl, Nat.le_of_ble_eq_true rfl⟩) (k_pre hE hP hD [] (by decide +kernel) rfl) rfl rfl hl.1 rfl (lv_room (Nat.le_of_ble_eq_true rfl)) dX8_laysLevels_33 ⟨Nat.le_of_ble_eq_true rfl, Nat.le_of_ble_eq_true rfl⟩) hP hD hS hA [] rfl (fun _ _ h9 => h9.2) (fun r3 H locs hw4 hP hD hS => ?_)
              obtain ⟨hw4, -⟩ := hw4
              refine lv_if_eq (tgt := 222) hx hb dX8_laysLevels_36 (by decide) (fun c5 => ?_) (fun c5 => ?_)
              · skip
                have hc5 : ¬ ((gi29 >>> ((nI i22) &&& 31)) &&& 1 = 1) := bz_0 hw4 c5
                refine lv_iinc (v := (nI (i22 + 1))) (lv' := [(3, .int (nI (i22 + 1))), (2, .int (nI h2_22)), (1, .int h1_22), (0, .ref g)]) hx hb dX8_laysLevels_222 hl (k := 0) rfl (nI_1 _) (by decide) rfl (fun ls hl => ?_)
                refine lv_goto (tgt := 22) hx hb dX8_laysLevels_225 (by decide) ?_
                exact ih22 (i22 + 1) h1_22 h2_22 a_g25_22 f8_30_22 f8_31_22 (by omega) hLV_22 (by omega) (by omega) (by omega) (by omega) (by omega) _ _ _ hP hD hS (lv_sub hl [0, 1, 2, 3] rfl)
              · skip
                have hc5 : (gi29 >>> ((nI i22) &&& 31)) &&& 1 = 1 := bz_1 hw4 c5
                refine lv_iload_n hx hb dX8_laysLevels_39 rfl (lv_at hl 2 rfl) ?_
                refine lv_iload_n hx hb dX8_laysLevels_40 rfl (lv_at hl 0 rfl) ?_
                refine k_iS (va_runS (As := [.int h1_22, .int (nI i22)]) (rest := []) ⟨hx, hb, hml, hown, hts⟩ (m_X8_isOn l D cI cJ H.size h1_22 (nI i22)) (va_cwS 2 hts gX8_laysLevels_X8_isOn rfl rfl rfl (by decide +kernel) ⟨Nat.le_of_ble_eq_true rfl, Nat.le_of_ble_eq_true rfl⟩) (k_pre hE hP hD [] (by decide +kernel) rfl) rfl rfl hl.1 rfl (lv_room (Nat.le_of_ble_eq_true rfl)) dX8_laysLevels_41 ⟨Nat.le_of_ble_eq_true rfl, Nat.le_of_ble_eq_true rfl⟩) hP hD hS hA [] rfl (fun _ _ h9 => h9.2) (fun r6 H locs hw7 hP hD hS => ?_)
                obtain ⟨hw7, -⟩ := hw7
                refine lv_if_ne (tgt := 222) hx hb dX8_laysLevels_44 (by decide) (fun c8 => ?_) (fun c8 => ?_)
                · skip
                  have hc8 : (h1_22 >>> ((nI i22) &&& 31)) &&& 1 = 1 := bz_1 hw7 c8
                  refine lv_iinc (v := (nI (i22 + 1))) (lv' := [(3, .int (nI (i22 + 1))), (2, .int (nI h2_22)), (1, .int h1_22), (0, .ref g)]) hx hb dX8_laysLevels_222 hl (k := 0) rfl (nI_1 _) (by decide) rfl (fun ls hl => ?_)
                  refine lv_goto (tgt := 22) hx hb dX8_laysLevels_225 (by decide) ?_
                  exact ih22 (i22 + 1) h1_22 h2_22 a_g25_22 f8_30_22 f8_31_22 (by omega) hLV_22 (by omega) (by omega) (by omega) (by omega) (by omega) _ _ _ hP hD hS (lv_sub hl [0, 1, 2, 3] rfl)
                · skip
                  have hc8 : ¬ ((h1_22 >>> ((nI i22) &&& 31)) &&& 1 = 1) := bz_0 hw7 c8
                  refine lv_aload_n hx hb dX8_laysLevels_47 rfl (lv_at hl 3 rfl) ?_
                  refine va_get (D := D) (ci := 8) (v := .ref g24) (C := RX8) (T := TX8) (N := 46) hx hb hts hiX8 hown hE.1 hP 0 rfl rfl 24 (by decide) (hts _ (List.mem_cons_of_mem _ wd_135)) (fun _ h9 => h9) rfl dX8_laysLevels_48 ?_
                  refine lv_iload_n hx hb dX8_laysLevels_51 rfl (lv_at hl 0 rfl) ?_
                  refine va_iald hx hb hE.1 hP 2 0 rfl rfl (vp_in_nI (n := i22) (by omega) (by decide)) dX8_laysLevels_52 ?_
                  refine lv_topi (fun v9 ev9 => ?_)
                  refine lv_iload_n hx hb dX8_laysLevels_53 rfl (lv_at hl 2 rfl) ?_
                  refine lv_iconst (v := (-1)) hx hb dX8_laysLevels_54 (by decide) ?_
                  refine lv_ixor hx hb dX8_laysLevels_55 ?_
                  refine lv_topi (fun v10 ev10 => ?_)
                  refine lv_iand hx hb dX8_laysLevels_56 ?_
                  refine lv_topi (fun v11 ev11 => ?_)
                  refine lv_if_eq (tgt := 63) hx hb dX8_laysLevels_57 (by decide) (fun c12 => ?_) (fun c12 => ?_)
                  · skip
                    have hkb : bt h1_22 i22 = false := bt_off (by omega) hc8
                    have hkn : G24 (Int32.toNatClampNeg (nI i22)) &&& (h1_22 ^^^ (-1)) = 0 := by rw [← ev9, ← ev10, ← ev11]; exact c12
                    have hk8 := kc_lt (by omega) hkb
                    refine lv_aload_n hx hb dX8_laysLevels_63 rfl (lv_at hl 3 rfl) ?_
                    refine va_get (D := D) (ci := 8) (v := .ref g25) (C := RX8) (T := TX8) (N := 46) hx hb hts hiX8 hown hE.1 hP 0 rfl rfl 25 (by decide) (hts _ (List.mem_cons_of_mem _ wd_136)) (fun _ h9 => h9) rfl dX8_laysLevels_64 ?_
                    refine lv_iload_n hx hb dX8_laysLevels_67 rfl (lv_at hl 0 rfl) ?_
                    refine lv_iconst (v := 0) hx hb dX8_laysLevels_68 (by decide) ?_
                    refine va_iast hx hb hE.1 hP hD hS 3 0 rfl rfl (vp_in_nI (n := i22) (by omega) (by decide)) dX8_laysLevels_69 (fun H locs hP hD hS => ?_)
                    refine k_re (w := [(oX8 g gi0 (nI mn) g2 g3 g4 g5 g6 g7 g8 g9 g10 (nI ml) g12 g13 gi14 g15 g16 g17 gi18 g19 g20 g21 g22 g23 g24 g25 g26 g27 g28 gi29 f8_30_22 (nI f8_31_22) gi32 g33 g34 g35 g36 g37 g38 g39 gi40 g41 g42 gi43 g44 g45), (aIc cI g7 8 G7), (aIc cI g24 8 G24), (aIc cI g25 8 (upd a_g25_22 (Int32.toNatClampNeg (nI i22)) 0))]) hP hD (fun hP hD => ?_)
                    refine lv_iconst (v := 0) hx hb dX8_laysLevels_70 (by decide) ?_
                    refine lv_istore (lv' := [(4, .int 0), (3, .int (nI i22)), (2, .int (nI h2_22)), (1, .int h1_22), (0, .ref g)]) hx hb dX8_laysLevels_71 hl (by decide) rfl (fun ls hl => ?_)
                    have J73 : ∀ (zz : Nat) (j73 : Nat) (a_g25_73 : Nat → Int32), (j73 ≤ 8) → (LQ a_g25_73 h1_22 i22) → (8 - j73) < zz → ∀ (H : Heap) (locs : List Loc) (ls : Array Slot), va_P D vwCl [(oX8 g gi0 (nI mn) g2 g3 g4 g5 g6 g7 g8 g9 g10 (nI ml) g12 g13 gi14 g15 g16 g17 gi18 g19 g20 g21 g22 g23 g24 g25 g26 g27 g28 gi29 f8_30_22 (nI f8_31_22) gi32 g33 g34 g35 g36 g37 g38 g39 gi40 g41 g42 gi43 g44 g45), (aIc cI g7 8 G7), (aIc cI g24 8 G24), (aIc cI g25 8 a_g25_73)] H → va_D A [(oX8 g gi0 (nI mn) g2 g3 g4 g5 g6 g7 g8 g9 g10 (nI ml) g12 g13 gi14 g15 g16 g17 gi18 g19 g20 g21 g22 g23 g24 g25 g26 g27 g28 gi29 f8_30_22 (nI f8_31_22) gi32 g33 g34 g35 g36 g37 g38 g39 gi40 g41 g42 gi43 g44 g45), (aIc cI g7 8 G7), (aIc cI g24 8 G24), (aIc cI g25 8 a_g25_73)] → va_S A s.heap H locs → lv_has ls 5 [(4, .int (nI j73)), (3, .int (nI i22)), (2, .int (nI h2_22)), (1, .int h1_22), (0, .ref g)] → W p l e { frames := 1, cells := 0, slots := 0, locals := 21 } s m [.ref g].toArray below meth c H locs 0 0 (MQ below (cQv D (fun u => ∃ (G25p : Nat → Int32) (gi30p : Int32) (mvp : Nat), (mvp ≤ 8) ∧ (LW G25p) ∧ u = [(oX8 g gi0 (nI mn) g2 g3 g4 g5 g6 g7 g8 g9 g10 (nI ml) g12 g13 gi14 g15 g16 g17 gi18 g19 g20 g21 g22 g23 g24 g25 g26 g27 g28 gi29 gi30p (nI mvp) gi32 g33 g34 g35 g36 g37 g38 g39 gi40 g41 g42 gi43 g44 g45), (aIc cI g7 8 G7), (aIc cI g24 8 G24), (aIc cI g25 8 G25p)]) A) [.ref g].toArray s 0 0 A) (F0 m 73 ls []) := by
                      intro zz
                      induction zz with
                      | zero => intro j73 a_g25_73 _ _; exact fun h => absurd h (Nat.not_lt_zero _)
                      | succ zz ih73 =>
                        intro j73 a_g25_73 hc4_73 hLQ_73 hmu73 H locs ls hP hD hS hl
                        refine lv_iload hx hb dX8_laysLevels_73 (lv_at hl 0 rfl) ?_
                        refine lv_bipush (v := 8) hx hb dX8_laysLevels_75 (by decide) ?_
                        refine lv_icmp_ge (tgt := 140) hx hb dX8_laysLevels_77 (by decide) (fun c13 => ?_) (fun c13 => ?_)
                        · skip
                          have nc13 : 8 ≤ j73 := (nI_leI (a := 8) (b := j73) (by omega) (by omega)).mp c13
                          refine lv_aload_n hx hb dX8_laysLevels_140 rfl (lv_at hl 4 rfl) ?_
                          refine lv_aload_n hx hb dX8_laysLevels_141 rfl (lv_at hl 4 rfl) ?_
                          refine va_get (D := D) (ci := 8) (v := .int f8_30_22) (C := RX8) (T := TX8) (N := 46) hx hb hts hiX8 hown hE.1 hP 0 rfl rfl 30 (by decide) (hts _ (List.mem_cons_of_mem _ wd_445)) (fun _ h9 => h9) rfl dX8_laysLevels_142 ?_
                          refine lv_aload_n hx hb dX8_laysLevels_145 rfl (lv_at hl 4 rfl) ?_
                          refine va_get (D := D) (ci := 8) (v := .ref g7) (C := RX8) (T := TX8) (N := 46) hx hb hts hiX8 hown hE.1 hP 0 rfl rfl 7 (by decide) (hts _ (List.mem_cons_of_mem _ wd_121)) (fun _ h9 => h9) rfl dX8_laysLevels_146 ?_
                          refine lv_iload_n hx hb dX8_laysLevels_149 rfl (lv_at hl 1 rfl) ?_
                          refine va_iald hx hb hE.1 hP 1 0 rfl rfl (vp_in_nI (n := i22) (by omega) (by decide)) dX8_laysLevels_150 ?_
                          refine lv_topi (fun v14 ev14 => ?_)
                          refine lv_iconst (v := 3) hx hb dX8_laysLevels_151 (by decide) ?_
                          refine lv_icmp_ne (tgt := 177) hx hb dX8_laysLevels_152 (by decide) (fun c15 => ?_) (fun c15 => ?_)
                          · skip
                            refine lv_iconst (v := 0) hx hb dX8_laysLevels_177 (by decide) ?_
                            refine lv_ior hx hb dX8_laysLevels_178 ?_
                            refine lv_topi (fun v16 ev16 => ?_)
                            refine va_put (D := D) (ci := 8) (v := .int v16) (ty := .int) (C := RX8) (T := TX8) (N := 46) hx hb hts hiX8 tyX8 tyX8_ok nmX8 hown hE.1 hP hD hS 0 rfl rfl 30 (by decide) (hts _ (List.mem_cons_of_mem _ wd_445)) (fun _ h9 => h9) rfl (by decide +kernel) rfl rfl (Nat.le_of_ble_eq_true rfl) dX8_laysLevels_179 (fun H locs hP hD hS => ?_)
                            refine k_re (w := [(oX8 g gi0 (nI mn) g2 g3 g4 g5 g6 g7 g8 g9 g10 (nI ml) g12 g13 gi14 g15 g16 g17 gi18 g19 g20 g21 g22 g23 g24 g25 g26 g27 g28 gi29 v16 (nI f8_31_22) gi32 g33 g34 g35 g36 g37 g38 g39 gi40 g41 g42 gi43 g44 g45), (aIc cI g7 8 G7), (aIc cI g24 8 G24), (aIc cI g25 8 a_g25_73)]) hP hD (fun hP hD => ?_)
                            refine lv_aload_n hx hb dX8_laysLevels_182 rfl (lv_at hl 4 rfl) ?_
                            refine lv_aload_n hx hb dX8_laysLevels_183 rfl (lv_at hl 4 rfl) ?_
                            refine va_get (D := D) (ci := 8) (v := .ref g25) (C := RX8) (T := TX8) (N := 46) hx hb hts hiX8 hown hE.1 hP 0 rfl rfl 25 (by decide) (hts _ (List.mem_cons_of_mem _ wd_136)) (fun _ h9 => h9) rfl dX8_laysLevels_184 ?_
                            refine lv_iload_n hx hb dX8_laysLevels_187 rfl (lv_at hl 1 rfl) ?_
                            refine va_iald hx hb hE.1 hP 3 0 rfl rfl (vp_in_nI (n := i22) (by omega) (by decide)) dX8_laysLevels_188 ?_
                            refine lv_topi (fun v17 ev17 => ?_)
                            obtain ⟨y18, hy18, ey18⟩ := lq_p hLQ_73 (by omega)
                            obtain rfl : v17 = nI y18 := ev17.trans ey18
                            refine lv_aload_n hx hb dX8_laysLevels_189 rfl (lv_at hl 4 rfl) ?_
                            refine va_get (D := D) (ci := 8) (v := .int (nI f8_31_22)) (C := RX8) (T := TX8) (N := 46) hx hb hts hiX8 hown hE.1 hP 0 rfl rfl 31 (by decide) (hts _ (List.mem_cons_of_mem _ wd_422)) (fun _ h9 => h9) rfl dX8_laysLevels_190 ?_
                            refine lv_icmp_lt (tgt := 207) hx hb dX8_laysLevels_193 (by decide) (fun c19 => ?_) (fun c19 => ?_)
                            · skip
                              have nc19 : y18 < f8_31_22 := (nI_ltI (a := y18) (b := f8_31_22) (by omega) (by omega)).mp c19
                              refine lv_aload_n hx hb dX8_laysLevels_207 rfl (lv_at hl 4 rfl) ?_
                              refine va_get (D := D) (ci := 8) (v := .int (nI f8_31_22)) (C := RX8) (T := TX8) (N := 46) hx hb hts hiX8 hown hE.1 hP 0 rfl rfl 31 (by decide) (hts _ (List.mem_cons_of_mem _ wd_422)) (fun _ h9 => h9) rfl dX8_laysLevels_208 ?_
                              refine va_put (D := D) (ci := 8) (v := .int (nI f8_31_22)) (ty := .int) (C := RX8) (T := TX8) (N := 46) hx hb hts hiX8 tyX8 tyX8_ok nmX8 hown hE.1 hP hD hS 0 rfl rfl 31 (by decide) (hts _ (List.mem_cons_of_mem _ wd_422)) (fun _ h9 => h9) rfl (by decide +kernel) rfl rfl (Nat.le_of_ble_eq_true rfl) dX8_laysLevels_211 (fun H locs hP hD hS => ?_)
                              refine k_re (w := [(oX8 g gi0 (nI mn) g2 g3 g4 g5 g6 g7 g8 g9 g10 (nI ml) g12 g13 gi14 g15 g16 g17 gi18 g19 g20 g21 g22 g23 g24 g25 g26 g27 g28 gi29 v16 (nI f8_31_22) gi32 g33 g34 g35 g36 g37 g38 g39 gi40 g41 g42 gi43 g44 g45), (aIc cI g7 8 G7), (aIc cI g24 8 G24), (aIc cI g25 8 a_g25_73)]) hP hD (fun hP hD => ?_)
                              refine lv_iload_n hx hb dX8_laysLevels_214 rfl (lv_at hl 3 rfl) ?_
                              refine lv_iconst (v := 1) hx hb dX8_laysLevels_215 (by decide) ?_
                              refine lv_iload_n hx hb dX8_laysLevels_216 rfl (lv_at hl 1 rfl) ?_
                              refine lv_ishl hx hb dX8_laysLevels_217 ?_
                              refine lv_topi (fun v20 ev20 => ?_)
                              refine lv_ior hx hb dX8_laysLevels_218 ?_
                              refine lv_topi (fun v21 ev21 => ?_)
                              refine lv_istore_n (lv' := [(1, .int v21), (4, .int (nI j73)), (3, .int (nI i22)), (2, .int (nI h2_22)), (0, .ref g)]) hx hb dX8_laysLevels_219 rfl hl (by decide) rfl (fun ls hl => ?_)
                              refine lv_iconst (v := 1) hx hb dX8_laysLevels_220 (by decide) ?_
                              refine lv_istore_n (lv' := [(2, .int 1), (1, .int v21), (4, .int (nI j73)), (3, .int (nI i22)), (0, .ref g)]) hx hb dX8_laysLevels_221 rfl hl (by decide) rfl (fun ls hl => ?_)
                              refine lv_iinc (v := (nI (i22 + 1))) (lv' := [(3, .int (nI (i22 + 1))), (2, .int 1), (1, .int v21), (4, .int (nI j73)), (0, .ref g)]) hx hb dX8_laysLevels_222 hl (k := 3) rfl (nI_1 _) (by decide) rfl (fun ls hl => ?_)
                              refine lv_goto (tgt := 22) hx hb dX8_laysLevels_225 (by decide) ?_
                              have hkc : kc v21 = kc h1_22 + 1 := kc_or (by omega) hkb ev20 ev21
                              exact ih22 (i22 + 1) v21 1 a_g25_73 v16 f8_31_22 (by omega) (lq_new (by omega) hkb hLQ_73 ev20 ev21) (by omega) (by omega) (by omega) (by omega) (by omega) _ _ _ hP hD hS (lv_sub hl [0, 1, 2, 4] rfl)
                            · skip
                              have nc19 : ¬ y18 < f8_31_22 := fun q9 => c19 ((nI_ltI (a := y18) (b := f8_31_22) (by omega) (by omega)).mpr q9)
                              refine lv_aload_n hx hb dX8_laysLevels_196 rfl (lv_at hl 4 rfl) ?_
                              refine va_get (D := D) (ci := 8) (v := .ref g25) (C := RX8) (T := TX8) (N := 46) hx hb hts hiX8 hown hE.1 hP 0 rfl rfl 25 (by decide) (hts _ (List.mem_cons_of_mem _ wd_136)) (fun _ h9 => h9) rfl dX8_laysLevels_197 ?_
                              refine lv_iload_n hx hb dX8_laysLevels_200 rfl (lv_at hl 1 rfl) ?_
                              refine va_iald hx hb hE.1 hP 3 0 rfl rfl (vp_in_nI (n := i22) (by omega) (by decide)) dX8_laysLevels_201 ?_
                              refine lv_topi (fun v22 ev22 => ?_)
                              obtain ⟨y23, hy23, ey23⟩ := lq_p hLQ_73 (by omega)
                              obtain rfl : v22 = nI y23 := ev22.trans ey23
                              refine lv_iconst (v := 1) hx hb dX8_laysLevels_202 (by decide) ?_
                              refine lv_iadd hx hb dX8_laysLevels_203 ?_
                              refine lv_topi (fun v24 ev24 => ?_)
                              obtain rfl : v24 = (nI (y23 + 1)) := by rw [ev24]; exact nI_add y23 1
                              refine lv_goto (tgt := 211) hx hb dX8_laysLevels_204 (by decide) ?_
                              refine va_put (D := D) (ci := 8) (v := .int (nI (y23 + 1))) (ty := .int) (C := RX8) (T := TX8) (N := 46) hx hb hts hiX8 tyX8 tyX8_ok nmX8 hown hE.1 hP hD hS 0 rfl rfl 31 (by decide) (hts _ (List.mem_cons_of_mem _ wd_422)) (fun _ h9 => h9) rfl (by decide +kernel) rfl rfl (Nat.le_of_ble_eq_true rfl) dX8_laysLevels_211 (fun H locs hP hD hS => ?_)
                              refine k_re (w := [(oX8 g gi0 (nI mn) g2 g3 g4 g5 g6 g7 g8 g9 g10 (nI ml) g12 g13 gi14 g15 g16 g17 gi18 g19 g20 g21 g22 g23 g24 g25 g26 g27 g28 gi29 v16 (nI (y23 + 1)) gi32 g33 g34 g35 g36 g37 g38 g39 gi40 g41 g42 gi43 g44 g45), (aIc cI g7 8 G7), (aIc cI g24 8 G24), (aIc cI g25 8 a_g25_73)]) hP hD (fun hP hD => ?_)
                              refine lv_iload_n hx hb dX8_laysLevels_214 rfl (lv_at hl 3 rfl) ?_
                              refine lv_iconst (v := 1) hx hb dX8_laysLevels_215 (by decide) ?_
                              refine lv_iload_n hx hb dX8_laysLevels_216 rfl (lv_at hl 1 rfl) ?_
                              refine lv_ishl hx hb dX8_laysLevels_217 ?_
                              refine lv_topi (fun v25 ev25 => ?_)
                              refine lv_ior hx hb dX8_laysLevels_218 ?_
                              refine lv_topi (fun v26 ev26 => ?_)
                              refine lv_istore_n (lv' := [(1, .int v26), (4, .int (nI j73)), (3, .int (nI i22)), (2, .int (nI h2_22)), (0, .ref g)]) hx hb dX8_laysLevels_219 rfl hl (by decide) rfl (fun ls hl => ?_)
                              refine lv_iconst (v := 1) hx hb dX8_laysLevels_220 (by decide) ?_
                              refine lv_istore_n (lv' := [(2, .int 1), (1, .int v26), (4, .int (nI j73)), (3, .int (nI i22)), (0, .ref g)]) hx hb dX8_laysLevels_221 rfl hl (by decide) rfl (fun ls hl => ?_)
                              refine lv_iinc (v := (nI (i22 + 1))) (lv' := [(3, .int (nI (i22 + 1))), (2, .int 1), (1, .int v26), (4, .int (nI j73)), (0, .ref g)]) hx hb dX8_laysLevels_222 hl (k := 3) rfl (nI_1 _) (by decide) rfl (fun ls hl => ?_)
                              refine lv_goto (tgt := 22) hx hb dX8_laysLevels_225 (by decide) ?_
                              have hkc : kc v26 = kc h1_22 + 1 := kc_or (by omega) hkb ev25 ev26
                              exact ih22 (i22 + 1) v26 1 a_g25_73 v16 (y23 + 1) (by omega) (lq_new (by omega) hkb hLQ_73 ev25 ev26) (by omega) (by omega) (by omega) (by omega) (by omega) _ _ _ hP hD hS (lv_sub hl [0, 1, 2, 4] rfl)
                          · skip
                            refine lv_aload_n hx hb dX8_laysLevels_155 rfl (lv_at hl 4 rfl) ?_
                            refine va_get (D := D) (ci := 8) (v := .ref g24) (C := RX8) (T := TX8) (N := 46) hx hb hts hiX8 hown hE.1 hP 0 rfl rfl 24 (by decide) (hts _ (List.mem_cons_of_mem _ wd_135)) (fun _ h9 => h9) rfl dX8_laysLevels_156 ?_
                            refine lv_iload_n hx hb dX8_laysLevels_159 rfl (lv_at hl 1 rfl) ?_
                            refine va_iald hx hb hE.1 hP 2 0 rfl rfl (vp_in_nI (n := i22) (by omega) (by decide)) dX8_laysLevels_160 ?_
                            refine lv_topi (fun v27 ev27 => ?_)
                            refine lv_aload_n hx hb dX8_laysLevels_161 rfl (lv_at hl 4 rfl) ?_
                            refine va_get (D := D) (ci := 8) (v := .int f8_30_22) (C := RX8) (T := TX8) (N := 46) hx hb hts hiX8 hown hE.1 hP 0 rfl rfl 30 (by decide) (hts _ (List.mem_cons_of_mem _ wd_445)) (fun _ h9 => h9) rfl dX8_laysLevels_162 ?_
                            refine lv_iconst (v := (-1)) hx hb dX8_laysLevels_165 (by decide) ?_
                            refine lv_ixor hx hb dX8_laysLevels_166 ?_
                            refine lv_topi (fun v28 ev28 => ?_)
                            refine lv_iand hx hb dX8_laysLevels_167 ?_
                            refine lv_topi (fun v29 ev29 => ?_)
                            refine lv_if_eq (tgt := 177) hx hb dX8_laysLevels_168 (by decide) (fun c30 => ?_) (fun c30 => ?_)
                            · skip
                              refine lv_iconst (v := 0) hx hb dX8_laysLevels_177 (by decide) ?_
                              refine lv_ior hx hb dX8_laysLevels_178 ?_
                              refine lv_topi (fun v31 ev31 => ?_)
                              refine va_put (D := D) (ci := 8) (v := .int v31) (ty := .int) (C := RX8) (T := TX8) (N := 46) hx hb hts hiX8 tyX8 tyX8_ok nmX8 hown hE.1 hP hD hS 0 rfl rfl 30 (by decide) (hts _ (List.mem_cons_of_mem _ wd_445)) (fun _ h9 => h9) rfl (by decide +kernel) rfl rfl (Nat.le_of_ble_eq_true rfl) dX8_laysLevels_179 (fun H locs hP hD hS => ?_)
                              refine k_re (w := [(oX8 g gi0 (nI mn) g2 g3 g4 g5 g6 g7 g8 g9 g10 (nI ml) g12 g13 gi14 g15 g16 g17 gi18 g19 g20 g21 g22 g23 g24 g25 g26 g27 g28 gi29 v31 (nI f8_31_22) gi32 g33 g34 g35 g36 g37 g38 g39 gi40 g41 g42 gi43 g44 g45), (aIc cI g7 8 G7), (aIc cI g24 8 G24), (aIc cI g25 8 a_g25_73)]) hP hD (fun hP hD => ?_)
                              refine lv_aload_n hx hb dX8_laysLevels_182 rfl (lv_at hl 4 rfl) ?_
                              refine lv_aload_n hx hb dX8_laysLevels_183 rfl (lv_at hl 4 rfl) ?_
                              refine va_get (D := D) (ci := 8) (v := .ref g25) (C := RX8) (T := TX8) (N := 46) hx hb hts hiX8 hown hE.1 hP 0 rfl rfl 25 (by decide) (hts _ (List.mem_cons_of_mem _ wd_136)) (fun _ h9 => h9) rfl dX8_laysLevels_184 ?_
                              refine lv_iload_n hx hb dX8_laysLevels_187 rfl (lv_at hl 1 rfl) ?_
                              refine va_iald hx hb hE.1 hP 3 0 rfl rfl (vp_in_nI (n := i22) (by omega) (by decide)) dX8_laysLevels_188 ?_
                              refine lv_topi (fun v32 ev32 => ?_)
                              obtain ⟨y33, hy33, ey33⟩ := lq_p hLQ_73 (by omega)
                              obtain rfl : v32 = nI y33 := ev32.trans ey33
                              refine lv_aload_n hx hb dX8_laysLevels_189 rfl (lv_at hl 4 rfl) ?_
                              refine va_get (D := D) (ci := 8) (v := .int (nI f8_31_22)) (C := RX8) (T := TX8) (N := 46) hx hb hts hiX8 hown hE.1 hP 0 rfl rfl 31 (by decide) (hts _ (List.mem_cons_of_mem _ wd_422)) (fun _ h9 => h9) rfl dX8_laysLevels_190 ?_
                              refine lv_icmp_lt (tgt := 207) hx hb dX8_laysLevels_193 (by decide) (fun c34 => ?_) (fun c34 => ?_)
                              · skip
                                have nc34 : y33 < f8_31_22 := (nI_ltI (a := y33) (b := f8_31_22) (by omega) (by omega)).mp c34
                                refine lv_aload_n hx hb dX8_laysLevels_207 rfl (lv_at hl 4 rfl) ?_
                                refine va_get (D := D) (ci := 8) (v := .int (nI f8_31_22)) (C := RX8) (T := TX8) (N := 46) hx hb hts hiX8 hown hE.1 hP 0 rfl rfl 31 (by decide) (hts _ (List.mem_cons_of_mem _ wd_422)) (fun _ h9 => h9) rfl dX8_laysLevels_208 ?_
                                refine va_put (D := D) (ci := 8) (v := .int (nI f8_31_22)) (ty := .int) (C := RX8) (T := TX8) (N := 46) hx hb hts hiX8 tyX8 tyX8_ok nmX8 hown hE.1 hP hD hS 0 rfl rfl 31 (by decide) (hts _ (List.mem_cons_of_mem _ wd_422)) (fun _ h9 => h9) rfl (by decide +kernel) rfl rfl (Nat.le_of_ble_eq_true rfl) dX8_laysLevels_211 (fun H locs hP hD hS => ?_)
                                refine k_re (w := [(oX8 g gi0 (nI mn) g2 g3 g4 g5 g6 g7 g8 g9 g10 (nI ml) g12 g13 gi14 g15 g16 g17 gi18 g19 g20 g21 g22 g23 g24 g25 g26 g27 g28 gi29 v31 (nI f8_31_22) gi32 g33 g34 g35 g36 g37 g38 g39 gi40 g41 g42 gi43 g44 g45), (aIc cI g7 8 G7), (aIc cI g24 8 G24), (aIc cI g25 8 a_g25_73)]) hP hD (fun hP hD => ?_)
                                refine lv_iload_n hx hb dX8_laysLevels_214 rfl (lv_at hl 3 rfl) ?_
                                refine lv_iconst (v := 1) hx hb dX8_laysLevels_215 (by decide) ?_
                                refine lv_iload_n hx hb dX8_laysLevels_216 rfl (lv_at hl 1 rfl) ?_
                                refine lv_ishl hx hb dX8_laysLevels_217 ?_
                                refine lv_topi (fun v35 ev35 => ?_)
                                refine lv_ior hx hb dX8_laysLevels_218 ?_
                                refine lv_topi (fun v36 ev36 => ?_)
                                refine lv_istore_n (lv' := [(1, .int v36), (4, .int (nI j73)), (3, .int (nI i22)), (2, .int (nI h2_22)), (0, .ref g)]) hx hb dX8_laysLevels_219 rfl hl (by decide) rfl (fun ls hl => ?_)
                                refine lv_iconst (v := 1) hx hb dX8_laysLevels_220 (by decide) ?_
                                refine lv_istore_n (lv' := [(2, .int 1), (1, .int v36), (4, .int (nI j73)), (3, .int (nI i22)), (0, .ref g)]) hx hb dX8_laysLevels_221 rfl hl (by decide) rfl (fun ls hl => ?_)
                                refine lv_iinc (v := (nI (i22 + 1))) (lv' := [(3, .int (nI (i22 + 1))), (2, .int 1), (1, .int v36), (4, .int (nI j73)), (0, .ref g)]) hx hb dX8_laysLevels_222 hl (k := 3) rfl (nI_1 _) (by decide) rfl (fun ls hl => ?_)
                                refine lv_goto (tgt := 22) hx hb dX8_laysLevels_225 (by decide) ?_
                                have hkc : kc v36 = kc h1_22 + 1 := kc_or (by omega) hkb ev35 ev36
                                exact ih22 (i22 + 1) v36 1 a_g25_73 v31 f8_31_22 (by omega) (lq_new (by omega) hkb hLQ_73 ev35 ev36) (by omega) (by omega) (by omega) (by omega) (by omega) _ _ _ hP hD hS (lv_sub hl [0, 1, 2, 4] rfl)
                              · skip
                                have nc34 : ¬ y33 < f8_31_22 := fun q9 => c34 ((nI_ltI (a := y33) (b := f8_31_22) (by omega) (by omega)).mpr q9)
                                refine lv_aload_n hx hb dX8_laysLevels_196 rfl (lv_at hl 4 rfl) ?_
                                refine va_get (D := D) (ci := 8) (v := .ref g25) (C := RX8) (T := TX8) (N := 46) hx hb hts hiX8 hown hE.1 hP 0 rfl rfl 25 (by decide) (hts _ (List.mem_cons_of_mem _ wd_136)) (fun _ h9 => h9) rfl dX8_laysLevels_197 ?_
                                refine lv_iload_n hx hb dX8_laysLevels_200 rfl (lv_at hl 1 rfl) ?_
                                refine va_iald hx hb hE.1 hP 3 0 rfl rfl (vp_in_nI (n := i22) (by omega) (by decide)) dX8_laysLevels_201 ?_
                                refine lv_topi (fun v37 ev37 => ?_)
                                obtain ⟨y38, hy38, ey38⟩ := lq_p hLQ_73 (by omega)
                                obtain rfl : v37 = nI y38 := ev37.trans ey38
                                refine lv_iconst (v := 1) hx hb dX8_laysLevels_202 (by decide) ?_
                                refine lv_iadd hx hb dX8_laysLevels_203 ?_
                                refine lv_topi (fun v39 ev39 => ?_)
                                obtain rfl : v39 = (nI (y38 + 1)) := by rw [ev39]; exact nI_add y38 1
                                refine lv_goto (tgt := 211) hx hb dX8_laysLevels_204 (by decide) ?_
                                refine va_put (D := D) (ci := 8) (v := .int (nI (y38 + 1))) (ty := .int) (C := RX8) (T := TX8) (N := 46) hx hb hts hiX8 tyX8 tyX8_ok nmX8 hown hE.1 hP hD hS 0 rfl rfl 31 (by decide) (hts _ (List.mem_cons_of_mem _ wd_422)) (fun _ h9 => h9) rfl (by decide +kernel) rfl rfl (Nat.le_of_ble_eq_true rfl) dX8_laysLevels_211 (fun H locs hP hD hS => ?_)
                                refine k_re (w := [(oX8 g gi0 (nI mn) g2 g3 g4 g5 g6 g7 g8 g9 g10 (nI ml) g12 g13 gi14 g15 g16 g17 gi18 g19 g20 g21 g22 g23 g24 g25 g26 g27 g28 gi29 v31 (nI (y38 + 1)) gi32 g33 g34 g35 g36 g37 g38 g39 gi40 g41 g42 gi43 g44 g45), (aIc cI g7 8 G7), (aIc cI g24 8 G24), (aIc cI g25 8 a_g25_73)]) hP hD (fun hP hD => ?_)
                                refine lv_iload_n hx hb dX8_laysLevels_214 rfl (lv_at hl 3 rfl) ?_
                                refine lv_iconst (v := 1) hx hb dX8_laysLevels_215 (by decide) ?_
                                refine lv_iload_n hx hb dX8_laysLevels_216 rfl (lv_at hl 1 rfl) ?_
                                refine lv_ishl hx hb dX8_laysLevels_217 ?_
                                refine lv_topi (fun v40 ev40 => ?_)
                                refine lv_ior hx hb dX8_laysLevels_218 ?_
                                refine lv_topi (fun v41 ev41 => ?_)
                                refine lv_istore_n (lv' := [(1, .int v41), (4, .int (nI j73)), (3, .int (nI i22)), (2, .int (nI h2_22)), (0, .ref g)]) hx hb dX8_laysLevels_219 rfl hl (by decide) rfl (fun ls hl => ?_)
                                refine lv_iconst (v := 1) hx hb dX8_laysLevels_220 (by decide) ?_
                                refine lv_istore_n (lv' := [(2, .int 1), (1, .int v41), (4, .int (nI j73)), (3, .int (nI i22)), (0, .ref g)]) hx hb dX8_laysLevels_221 rfl hl (by decide) rfl (fun ls hl => ?_)
                                refine lv_iinc (v := (nI (i22 + 1))) (lv' := [(3, .int (nI (i22 + 1))), (2, .int 1), (1, .int v41), (4, .int (nI j73)), (0, .ref g)]) hx hb dX8_laysLevels_222 hl (k := 3) rfl (nI_1 _) (by decide) rfl (fun ls hl => ?_)
                                refine lv_goto (tgt := 22) hx hb dX8_laysLevels_225 (by decide) ?_
                                have hkc : kc v41 = kc h1_22 + 1 := kc_or (by omega) hkb ev40 ev41
                                exact ih22 (i22 + 1) v41 1 a_g25_73 v31 (y38 + 1) (by omega) (lq_new (by omega) hkb hLQ_73 ev40 ev41) (by omega) (by omega) (by omega) (by omega) (by omega) _ _ _ hP hD hS (lv_sub hl [0, 1, 2, 4] rfl)
                            · skip
                              refine lv_iconst (v := 1) hx hb dX8_laysLevels_171 (by decide) ?_
                              refine lv_iload_n hx hb dX8_laysLevels_172 rfl (lv_at hl 1 rfl) ?_
                              refine lv_ishl hx hb dX8_laysLevels_173 ?_
                              refine lv_topi (fun v42 ev42 => ?_)
                              refine lv_goto (tgt := 178) hx hb dX8_laysLevels_174 (by decide) ?_
                              refine lv_ior hx hb dX8_laysLevels_178 ?_
                              refine lv_topi (fun v43 ev43 => ?_)
                              refine va_put (D := D) (ci := 8) (v := .int v43) (ty := .int) (C := RX8) (T := TX8) (N := 46) hx hb hts hiX8 tyX8 tyX8_ok nmX8 hown hE.1 hP hD hS 0 rfl rfl 30 (by decide) (hts _ (List.mem_cons_of_mem _ wd_445)) (fun _ h9 => h9) rfl (by decide +kernel) rfl rfl (Nat.le_of_ble_eq_true rfl) dX8_laysLevels_179 (fun H locs hP hD hS => ?_)
                              refine k_re (w := [(oX8 g gi0 (nI mn) g2 g3 g4 g5 g6 g7 g8 g9 g10 (nI ml) g12 g13 gi14 g15 g16 g17 gi18 g19 g20 g21 g22 g23 g24 g25 g26 g27 g28 gi29 v43 (nI f8_31_22) gi32 g33 g34 g35 g36 g37 g38 g39 gi40 g41 g42 gi43 g44 g45), (aIc cI g7 8 G7), (aIc cI g24 8 G24), (aIc cI g25 8 a_g25_73)]) hP hD (fun hP hD => ?_)
                              refine lv_aload_n hx hb dX8_laysLevels_182 rfl (lv_at hl 4 rfl) ?_
                              refine lv_aload_n hx hb dX8_laysLevels_183 rfl (lv_at hl 4 rfl) ?_
                              refine va_get (D := D) (ci := 8) (v := .ref g25) (C := RX8) (T := TX8) (N := 46) hx hb hts hiX8 hown hE.1 hP 0 rfl rfl 25 (by decide) (hts _ (List.mem_cons_of_mem _ wd_136)) (fun _ h9 => h9) rfl dX8_laysLevels_184 ?_
                              refine lv_iload_n hx hb dX8_laysLevels_187 rfl (lv_at hl 1 rfl) ?_
                              refine va_iald hx hb hE.1 hP 3 0 rfl rfl (vp_in_nI (n := i22) (by omega) (by decide)) dX8_laysLevels_188 ?_
                              refine lv_topi (fun v44 ev44 => ?_)
                              obtain ⟨y45, hy45, ey45⟩ := lq_p hLQ_73 (by omega)
                              obtain rfl : v44 = nI y45 := ev44.trans ey45
                              refine lv_aload_n hx hb dX8_laysLevels_189 rfl (lv_at hl 4 rfl) ?_
                              refine va_get (D := D) (ci := 8) (v := .int (nI f8_31_22)) (C := RX8) (T := TX8) (N := 46) hx hb hts hiX8 hown hE.1 hP 0 rfl rfl 31 (by decide) (hts _ (List.mem_cons_of_mem _ wd_422)) (fun _ h9 => h9) rfl dX8_laysLevels_190 ?_
                              refine lv_icmp_lt (tgt := 207) hx hb dX8_laysLevels_193 (by decide) (fun c46 => ?_) (fun c46 => ?_)
                              · skip
                                have nc46 : y45 < f8_31_22 := (nI_ltI (a := y45) (b := f8_31_22) (by omega) (by omega)).mp c46
                                refine lv_aload_n hx hb dX8_laysLevels_207 rfl (lv_at hl 4 rfl) ?_
                                refine va_get (D := D) (ci := 8) (v := .int (nI f8_31_22)) (C := RX8) (T := TX8) (N := 46) hx hb hts hiX8 hown hE.1 hP 0 rfl rfl 31 (by decide) (hts _ (List.mem_cons_of_mem _ wd_422)) (fun _ h9 => h9) rfl dX8_laysLevels_208 ?_
                                refine va_put (D := D) (ci := 8) (v := .int (nI f8_31_22)) (ty := .int) (C := RX8) (T := TX8) (N := 46) hx hb hts hiX8 tyX8 tyX8_ok nmX8 hown hE.1 hP hD hS 0 rfl rfl 31 (by decide) (hts _ (List.mem_cons_of_mem _ wd_422)) (fun _ h9 => h9) rfl (by decide +kernel) rfl rfl (Nat.le_of_ble_eq_true rfl) dX8_laysLevels_211 (fun H locs hP hD hS => ?_)
                                refine k_re (w := [(oX8 g gi0 (nI mn) g2 g3 g4 g5 g6 g7 g8 g9 g10 (nI ml) g12 g13 gi14 g15 g16 g17 gi18 g19 g20 g21 g22 g23 g24 g25 g26 g27 g28 gi29 v43 (nI f8_31_22) gi32 g33 g34 g35 g36 g37 g38 g39 gi40 g41 g42 gi43 g44 g45), (aIc cI g7 8 G7), (aIc cI g24 8 G24), (aIc cI g25 8 a_g25_73)]) hP hD (fun hP hD => ?_)
                                refine lv_iload_n hx hb dX8_laysLevels_214 rfl (lv_at hl 3 rfl) ?_
                                refine lv_iconst (v := 1) hx hb dX8_laysLevels_215 (by decide) ?_
                                refine lv_iload_n hx hb dX8_laysLevels_216 rfl (lv_at hl 1 rfl) ?_
                                refine lv_ishl hx hb dX8_laysLevels_217 ?_
                                refine lv_topi (fun v47 ev47 => ?_)
                                refine lv_ior hx hb dX8_laysLevels_218 ?_
                                refine lv_topi (fun v48 ev48 => ?_)
                                refine lv_istore_n (lv' := [(1, .int v48), (4, .int (nI j73)), (3, .int (nI i22)), (2, .int (nI h2_22)), (0, .ref g)]) hx hb dX8_laysLevels_219 rfl hl (by decide) rfl (fun ls hl => ?_)
                                refine lv_iconst (v := 1) hx hb dX8_laysLevels_220 (by decide) ?_
                                refine lv_istore_n (lv' := [(2, .int 1), (1, .int v48), (4, .int (nI j73)), (3, .int (nI i22)), (0, .ref g)]) hx hb dX8_laysLevels_221 rfl hl (by decide) rfl (fun ls hl => ?_)
                                refine lv_iinc (v := (nI (i22 + 1))) (lv' := [(3, .int (nI (i22 + 1))), (2, .int 1), (1, .int v48), (4, .int (nI j73)), (0, .ref g)]) hx hb dX8_laysLevels_222 hl (k := 3) rfl (nI_1 _) (by decide) rfl (fun ls hl => ?_)
                                refine lv_goto (tgt := 22) hx hb dX8_laysLevels_225 (by decide) ?_
                                have hkc : kc v48 = kc h1_22 + 1 := kc_or (by omega) hkb ev47 ev48
                                exact ih22 (i22 + 1) v48 1 a_g25_73 v43 f8_31_22 (by omega) (lq_new (by omega) hkb hLQ_73 ev47 ev48) (by omega) (by omega) (by omega) (by omega) (by omega) _ _ _ hP hD hS (lv_sub hl [0, 1, 2, 4] rfl)
                              · skip
                                have nc46 : ¬ y45 < f8_31_22 := fun q9 => c46 ((nI_ltI (a := y45) (b := f8_31_22) (by omega) (by omega)).mpr q9)
                                refine lv_aload_n hx hb dX8_laysLevels_196 rfl (lv_at hl 4 rfl) ?_
                                refine va_get (D := D) (ci := 8) (v := .ref g25) (C := RX8) (T := TX8) (N := 46) hx hb hts hiX8 hown hE.1 hP 0 rfl rfl 25 (by decide) (hts _ (List.mem_cons_of_mem _ wd_136)) (fun _ h9 => h9) rfl dX8_laysLevels_197 ?_
                                refine lv_iload_n hx hb dX8_laysLevels_200 rfl (lv_at hl 1 rfl) ?_
                                refine va_iald hx hb hE.1 hP 3 0 rfl rfl (vp_in_nI (n := i22) (by omega) (by decide)) dX8_laysLevels_201 ?_
                                refine lv_topi (fun v49 ev49 => ?_)
                                obtain ⟨y50, hy50, ey50⟩ := lq_p hLQ_73 (by omega)
                                obtain rfl : v49 = nI y50 := ev49.trans ey50
                                refine lv_iconst (v := 1) hx hb dX8_laysLevels_202 (by decide) ?_
                                refine lv_iadd hx hb dX8_laysLevels_203 ?_
                                refine lv_topi (fun v51 ev51 => ?_)
                                obtain rfl : v51 = (nI (y50 + 1)) := by rw [ev51]; exact nI_add y50 1
                                refine lv_goto (tgt := 211) hx hb dX8_laysLevels_204 (by decide) ?_
                                refine va_put (D := D) (ci := 8) (v := .int (nI (y50 + 1))) (ty := .int) (C := RX8) (T := TX8) (N := 46) hx hb hts hiX8 tyX8 tyX8_ok nmX8 hown hE.1 hP hD hS 0 rfl rfl 31 (by decide) (hts _ (List.mem_cons_of_mem _ wd_422)) (fun _ h9 => h9) rfl (by decide +kernel) rfl rfl (Nat.le_of_ble_eq_true rfl) dX8_laysLevels_211 (fun H locs hP hD hS => ?_)
                                refine k_re (w := [(oX8 g gi0 (nI mn) g2 g3 g4 g5 g6 g7 g8 g9 g10 (nI ml) g12 g13 gi14 g15 g16 g17 gi18 g19 g20 g21 g22 g23 g24 g25 g26 g27 g28 gi29 v43 (nI (y50 + 1)) gi32 g33 g34 g35 g36 g37 g38 g39 gi40 g41 g42 gi43 g44 g45), (aIc cI g7 8 G7), (aIc cI g24 8 G24), (aIc cI g25 8 a_g25_73)]) hP hD (fun hP hD => ?_)
                                refine lv_iload_n hx hb dX8_laysLevels_214 rfl (lv_at hl 3 rfl) ?_
                                refine lv_iconst (v := 1) hx hb dX8_laysLevels_215 (by decide) ?_
                                refine lv_iload_n hx hb dX8_laysLevels_216 rfl (lv_at hl 1 rfl) ?_
                                refine lv_ishl hx hb dX8_laysLevels_217 ?_
                                refine lv_topi (fun v52 ev52 => ?_)
                                refine lv_ior hx hb dX8_laysLevels_218 ?_
                                refine lv_topi (fun v53 ev53 => ?_)
                                refine lv_istore_n (lv' := [(1, .int v53), (4, .int (nI j73)), (3, .int (nI i22)), (2, .int (nI h2_22)), (0, .ref g)]) hx hb dX8_laysLevels_219 rfl hl (by decide) rfl (fun ls hl => ?_)
                                refine lv_iconst (v := 1) hx hb dX8_laysLevels_220 (by decide) ?_
                                refine lv_istore_n (lv' := [(2, .int 1), (1, .int v53), (4, .int (nI j73)), (3, .int (nI i22)), (0, .ref g)]) hx hb dX8_laysLevels_221 rfl hl (by decide) rfl (fun ls hl => ?_)
                                refine lv_iinc (v := (nI (i22 + 1))) (lv' := [(3, .int (nI (i22 + 1))), (2, .int 1), (1, .int v53), (4, .int (nI j73)), (0, .ref g)]) hx hb dX8_laysLevels_222 hl (k := 3) rfl (nI_1 _) (by decide) rfl (fun ls hl => ?_)
                                refine lv_goto (tgt := 22) hx hb dX8_laysLevels_225 (by decide) ?_
                                have hkc : kc v53 = kc h1_22 + 1 := kc_or (by omega) hkb ev52 ev53
                                exact ih22 (i22 + 1) v53 1 a_g25_73 v43 (y50 + 1) (by omega) (lq_new (by omega) hkb hLQ_73 ev52 ev53) (by omega) (by omega) (by omega) (by omega) (by omega) _ _ _ hP hD hS (lv_sub hl [0, 1, 2, 4] rfl)
                        · skip
                          have nc13 : ¬ 8 ≤ j73 := fun q9 => c13 ((nI_leI (a := 8) (b := j73) (by omega) (by omega)).mpr q9)
                          refine lv_aload_n hx hb dX8_laysLevels_80 rfl (lv_at hl 4 rfl) ?_
                          refine va_get (D := D) (ci := 8) (v := .ref g25) (C := RX8) (T := TX8) (N := 46) hx hb hts hiX8 hown hE.1 hP 0 rfl rfl 25 (by decide) (hts _ (List.mem_cons_of_mem _ wd_136)) (fun _ h9 => h9) rfl dX8_laysLevels_81 ?_
                          refine lv_iload_n hx hb dX8_laysLevels_84 rfl (lv_at hl 1 rfl) ?_
                          refine lv_aload_n hx hb dX8_laysLevels_85 rfl (lv_at hl 4 rfl) ?_
                          refine va_get (D := D) (ci := 8) (v := .ref g24) (C := RX8) (T := TX8) (N := 46) hx hb hts hiX8 hown hE.1 hP 0 rfl rfl 24 (by decide) (hts _ (List.mem_cons_of_mem _ wd_135)) (fun _ h9 => h9) rfl dX8_laysLevels_86 ?_
                          refine lv_iload_n hx hb dX8_laysLevels_89 rfl (lv_at hl 1 rfl) ?_
                          refine va_iald hx hb hE.1 hP 2 0 rfl rfl (vp_in_nI (n := i22) (by omega) (by decide)) dX8_laysLevels_90 ?_
                          refine lv_topi (fun v54 ev54 => ?_)
                          refine lv_iload hx hb dX8_laysLevels_91 (lv_at hl 0 rfl) ?_
                          refine k_iS (va_runS (As := [.int v54, .int (nI j73)]) (rest := [.int (nI i22), .ref g25]) ⟨hx, hb, hml, hown, hts⟩ (m_X8_isOn l D cI cJ H.size v54 (nI j73)) (va_cwS 2 hts gX8_laysLevels_X8_isOn rfl rfl rfl (by decide +kernel) ⟨Nat.le_of_ble_eq_true rfl, Nat.le_of_ble_eq_true rfl⟩) (k_pre hE hP hD [] (by decide +kernel) rfl) rfl rfl hl.1 rfl (lv_room (Nat.le_of_ble_eq_true rfl)) dX8_laysLevels_93 ⟨Nat.le_of_ble_eq_true rfl, Nat.le_of_ble_eq_true rfl⟩) hP hD hS hA [] rfl (fun _ _ h9 => h9.2) (fun r55 H locs hw56 hP hD hS => ?_)
                          obtain ⟨hw56, -⟩ := hw56
                          refine lv_if_eq (tgt := 127) hx hb dX8_laysLevels_96 (by decide) (fun c57 => ?_) (fun c57 => ?_)
                          · skip
                            have hc57 : ¬ ((v54 >>> ((nI j73) &&& 31)) &&& 1 = 1) := bz_0 hw56 c57
                            refine lv_aload_n hx hb dX8_laysLevels_127 rfl (lv_at hl 4 rfl) ?_
                            refine va_get (D := D) (ci := 8) (v := .ref g25) (C := RX8) (T := TX8) (N := 46) hx hb hts hiX8 hown hE.1 hP 0 rfl rfl 25 (by decide) (hts _ (List.mem_cons_of_mem _ wd_136)) (fun _ h9 => h9) rfl dX8_laysLevels_128 ?_
                            refine lv_iload_n hx hb dX8_laysLevels_131 rfl (lv_at hl 1 rfl) ?_
                            refine va_iald hx hb hE.1 hP 3 0 rfl rfl (vp_in_nI (n := i22) (by omega) (by decide)) dX8_laysLevels_132 ?_
                            refine lv_topi (fun v58 ev58 => ?_)
                            obtain ⟨y59, hy59, ey59⟩ := lq_p hLQ_73 (by omega)
                            obtain rfl : v58 = nI y59 := ev58.trans ey59
                            refine va_iast hx hb hE.1 hP hD hS 3 0 rfl rfl (vp_in_nI (n := i22) (by omega) (by decide)) dX8_laysLevels_133 (fun H locs hP hD hS => ?_)
                            refine k_re (w := [(oX8 g gi0 (nI mn) g2 g3 g4 g5 g6 g7 g8 g9 g10 (nI ml) g12 g13 gi14 g15 g16 g17 gi18 g19 g20 g21 g22 g23 g24 g25 g26 g27 g28 gi29 f8_30_22 (nI f8_31_22) gi32 g33 g34 g35 g36 g37 g38 g39 gi40 g41 g42 gi43 g44 g45), (aIc cI g7 8 G7), (aIc cI g24 8 G24), (aIc cI g25 8 (upd a_g25_73 (Int32.toNatClampNeg (nI i22)) (nI y59)))]) hP hD (fun hP hD => ?_)
                            refine lv_iinc (v := (nI (j73 + 1))) (lv' := [(4, .int (nI (j73 + 1))), (3, .int (nI i22)), (2, .int (nI h2_22)), (1, .int h1_22), (0, .ref g)]) hx hb dX8_laysLevels_134 hl (k := 0) rfl (nI_1 _) (by decide) rfl (fun ls hl => ?_)
                            refine lv_goto (tgt := 73) hx hb dX8_laysLevels_137 (by decide) ?_
                            exact ih73 (j73 + 1) (upd a_g25_73 (Int32.toNatClampNeg (nI i22)) (nI y59)) (by omega) (lq_up (by omega) hkb hLQ_73.1 (by omega)) (by omega) _ _ _ hP hD hS (lv_sub hl [0, 1, 2, 3, 4] rfl)
                          · skip
                            have hc57 : (v54 >>> ((nI j73) &&& 31)) &&& 1 = 1 := bz_1 hw56 c57
                            have htj : (G24 (Int32.toNatClampNeg (nI i22)) >>> (nI j73 &&& 31)) &&& 1 = 1 := by rw [← ev54]; exact hc57
                            refine lv_aload_n hx hb dX8_laysLevels_99 rfl (lv_at hl 4 rfl) ?_
                            refine va_get (D := D) (ci := 8) (v := .ref g25) (C := RX8) (T := TX8) (N := 46) hx hb hts hiX8 hown hE.1 hP 0 rfl rfl 25 (by decide) (hts _ (List.mem_cons_of_mem _ wd_136)) (fun _ h9 => h9) rfl dX8_laysLevels_100 ?_
                            refine lv_iload hx hb dX8_laysLevels_103 (lv_at hl 0 rfl) ?_
                            refine va_iald hx hb hE.1 hP 3 0 rfl rfl (vp_in_nI (n := j73) (by omega) (by decide)) dX8_laysLevels_105 ?_
                            refine lv_topi (fun v60 ev60 => ?_)
                            obtain ⟨y61, hy61, ey61⟩ := lq_q hLQ_73 (q := j73) (by omega) (bt_sub hkn (by omega) ((bt_on (by omega)).mp htj))
                            obtain rfl : v60 = nI y61 := ev60.trans ey61
                            refine lv_aload_n hx hb dX8_laysLevels_106 rfl (lv_at hl 4 rfl) ?_
                            refine va_get (D := D) (ci := 8) (v := .ref g25) (C := RX8) (T := TX8) (N := 46) hx hb hts hiX8 hown hE.1 hP 0 rfl rfl 25 (by decide) (hts _ (List.mem_cons_of_mem _ wd_136)) (fun _ h9 => h9) rfl dX8_laysLevels_107 ?_
                            refine lv_iload_n hx hb dX8_laysLevels_110 rfl (lv_at hl 1 rfl) ?_
                            refine va_iald hx hb hE.1 hP 3 0 rfl rfl (vp_in_nI (n := i22) (by omega) (by decide)) dX8_laysLevels_111 ?_
                            refine lv_topi (fun v62 ev62 => ?_)
                            obtain ⟨y63, hy63, ey63⟩ := lq_p hLQ_73 (by omega)
                            obtain rfl : v62 = nI y63 := ev62.trans ey63
                            refine lv_icmp_lt (tgt := 127) hx hb dX8_laysLevels_112 (by decide) (fun c64 => ?_) (fun c64 => ?_)
                            · skip
                              have nc64 : y61 < y63 := (nI_ltI (a := y61) (b := y63) (by omega) (by omega)).mp c64
                              refine lv_aload_n hx hb dX8_laysLevels_127 rfl (lv_at hl 4 rfl) ?_
                              refine va_get (D := D) (ci := 8) (v := .ref g25) (C := RX8) (T := TX8) (N := 46) hx hb hts hiX8 hown hE.1 hP 0 rfl rfl 25 (by decide) (hts _ (List.mem_cons_of_mem _ wd_136)) (fun _ h9 => h9) rfl dX8_laysLevels_128 ?_
                              refine lv_iload_n hx hb dX8_laysLevels_131 rfl (lv_at hl 1 rfl) ?_
                              refine va_iald hx hb hE.1 hP 3 0 rfl rfl (vp_in_nI (n := i22) (by omega) (by decide)) dX8_laysLevels_132 ?_
                              refine lv_topi (fun v65 ev65 => ?_)
                              obtain ⟨y66, hy66, ey66⟩ := lq_p hLQ_73 (by omega)
                              obtain rfl : v65 = nI y66 := ev65.trans ey66
                              refine va_iast hx hb hE.1 hP hD hS 3 0 rfl rfl (vp_in_nI (n := i22) (by omega) (by decide)) dX8_laysLevels_133 (fun H locs hP hD hS => ?_)
                              refine k_re (w := [(oX8 g gi0 (nI mn) g2 g3 g4 g5 g6 g7 g8 g9 g10 (nI ml) g12 g13 gi14 g15 g16 g17 gi18 g19 g20 g21 g22 g23 g24 g25 g26 g27 g28 gi29 f8_30_22 (nI f8_31_22) gi32 g33 g34 g35 g36 g37 g38 g39 gi40 g41 g42 gi43 g44 g45), (aIc cI g7 8 G7), (aIc cI g24 8 G24), (aIc cI g25 8 (upd a_g25_73 (Int32.toNatClampNeg (nI i22)) (nI y66)))]) hP hD (fun hP hD => ?_)
                              refine lv_iinc (v := (nI (j73 + 1))) (lv' := [(4, .int (nI (j73 + 1))), (3, .int (nI i22)), (2, .int (nI h2_22)), (1, .int h1_22), (0, .ref g)]) hx hb dX8_laysLevels_134 hl (k := 0) rfl (nI_1 _) (by decide) rfl (fun ls hl => ?_)
                              refine lv_goto (tgt := 73) hx hb dX8_laysLevels_137 (by decide) ?_
                              exact ih73 (j73 + 1) (upd a_g25_73 (Int32.toNatClampNeg (nI i22)) (nI y66)) (by omega) (lq_up (by omega) hkb hLQ_73.1 (by omega)) (by omega) _ _ _ hP hD hS (lv_sub hl [0, 1, 2, 3, 4] rfl)
                            · skip
                              have nc64 : ¬ y61 < y63 := fun q9 => c64 ((nI_ltI (a := y61) (b := y63) (by omega) (by omega)).mpr q9)
                              refine lv_aload_n hx hb dX8_laysLevels_115 rfl (lv_at hl 4 rfl) ?_
                              refine va_get (D := D) (ci := 8) (v := .ref g25) (C := RX8) (T := TX8) (N := 46) hx hb hts hiX8 hown hE.1 hP 0 rfl rfl 25 (by decide) (hts _ (List.mem_cons_of_mem _ wd_136)) (fun _ h9 => h9) rfl dX8_laysLevels_116 ?_
                              refine lv_iload hx hb dX8_laysLevels_119 (lv_at hl 0 rfl) ?_
                              refine va_iald hx hb hE.1 hP 3 0 rfl rfl (vp_in_nI (n := j73) (by omega) (by decide)) dX8_laysLevels_121 ?_
                              refine lv_topi (fun v67 ev67 => ?_)
                              obtain ⟨y68, hy68, ey68⟩ := lq_q hLQ_73 (q := j73) (by omega) (bt_sub hkn (by omega) ((bt_on (by omega)).mp htj))
                              obtain rfl : v67 = nI y68 := ev67.trans ey68
                              refine lv_iconst (v := 1) hx hb dX8_laysLevels_122 (by decide) ?_
                              refine lv_iadd hx hb dX8_laysLevels_123 ?_
                              refine lv_topi (fun v69 ev69 => ?_)
                              obtain rfl : v69 = (nI (y68 + 1)) := by rw [ev69]; exact nI_add y68 1
                              refine lv_goto (tgt := 133) hx hb dX8_laysLevels_124 (by decide) ?_
                              refine va_iast hx hb hE.1 hP hD hS 3 0 rfl rfl (vp_in_nI (n := i22) (by omega) (by decide)) dX8_laysLevels_133 (fun H locs hP hD hS => ?_)
                              refine k_re (w := [(oX8 g gi0 (nI mn) g2 g3 g4 g5 g6 g7 g8 g9 g10 (nI ml) g12 g13 gi14 g15 g16 g17 gi18 g19 g20 g21 g22 g23 g24 g25 g26 g27 g28 gi29 f8_30_22 (nI f8_31_22) gi32 g33 g34 g35 g36 g37 g38 g39 gi40 g41 g42 gi43 g44 g45), (aIc cI g7 8 G7), (aIc cI g24 8 G24), (aIc cI g25 8 (upd a_g25_73 (Int32.toNatClampNeg (nI i22)) (nI (y68 + 1))))]) hP hD (fun hP hD => ?_)
                              refine lv_iinc (v := (nI (j73 + 1))) (lv' := [(4, .int (nI (j73 + 1))), (3, .int (nI i22)), (2, .int (nI h2_22)), (1, .int h1_22), (0, .ref g)]) hx hb dX8_laysLevels_134 hl (k := 0) rfl (nI_1 _) (by decide) rfl (fun ls hl => ?_)
                              refine lv_goto (tgt := 73) hx hb dX8_laysLevels_137 (by decide) ?_
                              exact ih73 (j73 + 1) (upd a_g25_73 (Int32.toNatClampNeg (nI i22)) (nI (y68 + 1))) (by omega) (lq_up (by omega) hkb hLQ_73.1 (by omega)) (by omega) _ _ _ hP hD hS (lv_sub hl [0, 1, 2, 3, 4] rfl)
                    exact J73 _ 0 (upd a_g25_22 (Int32.toNatClampNeg (nI i22)) 0) (by omega) (lq_up (x := 0) (by omega) hkb hLV_22 (Nat.zero_le _)) (Nat.lt_succ_self _) _ _ _ hP hD hS (lv_sub hl [0, 1, 2, 3, 4] rfl)
                  · skip
                    refine lv_goto (tgt := 222) hx hb dX8_laysLevels_60 (by decide) ?_
                    refine lv_iinc (v := (nI (i22 + 1))) (lv' := [(3, .int (nI (i22 + 1))), (2, .int (nI h2_22)), (1, .int h1_22), (0, .ref g)]) hx hb dX8_laysLevels_222 hl (k := 0) rfl (nI_1 _) (by decide) rfl (fun ls hl => ?_)
                    refine lv_goto (tgt := 22) hx hb dX8_laysLevels_225 (by decide) ?_
                    exact ih22 (i22 + 1) h1_22 h2_22 a_g25_22 f8_30_22 f8_31_22 (by omega) hLV_22 (by omega) (by omega) (by omega) (by omega) (by omega) _ _ _ hP hD hS (lv_sub hl [0, 1, 2, 3] rfl)
        exact J22 _ 0 h1_14 0 a_g25_14 f8_30_14 f8_31_14 (by omega) hLV_14 (by omega) (by omega) (by omega) (by omega) (Nat.lt_succ_self _) _ _ _ hP hD hS (lv_sub hl [0, 1, 2, 3] rfl)
  exact J14 _ 0 1 G25 0 0 (lv_0 hLW) (Nat.zero_le _) (by omega) (Nat.lt_succ_self _) _ _ _ hP hD hS (lv_sub hl [0, 1, 2] rfl)

