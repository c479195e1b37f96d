theorem bc_div {a b S : Nat} {x y : Int64} {z : Int32} (ha : a ≤ 100000000) (hb : b ≤ 1000000) (hS : 0 < S) (hS2 : S < 2 ^ 31) (ex : x = Int32.toInt64 (nI a) * Int32.toInt64 (nI b)) (ey : y = x / lN S) (ez : z = Int64.toInt32 y) : z = nI (a * b / S) := by
  have h1 : a * b ≤ 100000000 * 1000000 := Nat.mul_le_mul ha hb
  rw [ez, ey, ex, nI_l (by omega), nI_l (by omega), lN_mul, pk_lDiv (by omega) hS (by omega)]
  exact lN_i _
theorem bc_rem {a b S : Nat} {x y : Int64} (ha : a ≤ 100000000) (hb : b ≤ 1000000) (hS : 0 < S) (hS2 : S < 2 ^ 31) (ex : x = Int32.toInt64 (nI a) * Int32.toInt64 (nI b)) (ey : y = x - x / lN S * lN S) : y = lN (a * b % S) := by
  have h1 : a * b ≤ 100000000 * 1000000 := Nat.mul_le_mul ha hb
  rw [ey, ex, nI_l (by omega), nI_l (by omega), lN_mul]
  exact pk_lRem (by omega) hS (by omega)
theorem lN_ne {S : Nat} (h : 0 < S) (h2 : S < 2 ^ 31) : ¬ lN S = 0 := fun q => by
  have := (lN_eq (a := S) (b := 0) h2 (by decide)).mp q
  omega
theorem pm1 {n : Nat} (h : 0 < n) : nI n + (-1) = nI (n - 1) := by
  obtain ⟨m, rfl⟩ : ∃ m, n = m + 1 := ⟨n - 1, by omega⟩
  exact pk_m1 m
theorem mxl_keep {rs : Nat → Int64} {j b : Nat} {v w : Int64} (hj : j < 8) (hb : b < 8) (h : ∀ k, k < j → rs k ≤ rs b) (ev : v = rs (Int32.toNatClampNeg (nI j))) (ew : w = rs (Int32.toNatClampNeg (nI b))) (c : v ≤ w) : ∀ k, k < j + 1 → rs k ≤ rs b := by
  rw [nI_clamp (by omega)] at ev ew
  intro k hk
  rcases Nat.lt_or_ge k j with q | q
  · exact h k q
  · obtain rfl : k = j := (by omega)
    rw [← ev, ← ew]; exact c
theorem mxl_new {rs : Nat → Int64} {j b : Nat} {v w : Int64} (hj : j < 8) (hb : b < 8) (h : ∀ k, k < j → rs k ≤ rs b) (ev : v = rs (Int32.toNatClampNeg (nI j))) (ew : w = rs (Int32.toNatClampNeg (nI b))) (c : ¬ v ≤ w) : ∀ k, k < j + 1 → rs k ≤ rs j := by
  rw [nI_clamp (by omega)] at ev ew
  intro k hk
  rcases Nat.lt_or_ge k j with q | q
  · refine Int64.le_trans (h k q) ?_
    rw [← ev, ← ew]
    exact Int64.le_of_lt (Int64.not_le.mp c)
  · obtain rfl : k = j := (by omega)
    exact Int64.le_refl _
theorem hov_step {ov du a b x : Nat} (h : ov = du - a) (e : b = a + x) (hb : b ≤ du) : ov - x = du - b := by omega
theorem mxl_1 {rs : Nat → Int64} : ∀ k, k < 1 → rs k ≤ rs 0 := fun k hk => by
  obtain rfl : k = 0 := (by omega)
  exact Int64.le_refl _
theorem dX8_byCaps_0 : decode cX8_byCaps 0 = .ok (.iload_n 1, 1) := by decide +kernel
theorem dX8_byCaps_1 : decode cX8_byCaps 1 = .ok (.istore 4, 2) := by decide +kernel
theorem dX8_byCaps_3 : decode cX8_byCaps 3 = .ok (.iconst 0, 1) := by decide +kernel
theorem dX8_byCaps_4 : decode cX8_byCaps 4 = .ok (.istore 5, 2) := by decide +kernel
theorem dX8_byCaps_6 : decode cX8_byCaps 6 = .ok (.iload 5, 2) := by decide +kernel
theorem dX8_byCaps_8 : decode cX8_byCaps 8 = .ok (.bipush 8, 2) := by decide +kernel
theorem dX8_byCaps_10 : decode cX8_byCaps 10 = .ok (.if_icmp .ge 62, 3) := by decide +kernel
theorem dX8_byCaps_13 : decode cX8_byCaps 13 = .ok (.aload_n 0, 1) := by decide +kernel
theorem dX8_byCaps_14 : decode cX8_byCaps 14 = .ok (.getfield 91, 3) := by decide +kernel
theorem dX8_byCaps_17 : decode cX8_byCaps 17 = .ok (.iload 5, 2) := by decide +kernel
theorem dX8_byCaps_19 : decode cX8_byCaps 19 = .ok (.iload_n 1, 1) := by decide +kernel
theorem dX8_byCaps_20 : decode cX8_byCaps 20 = .ok (.i2l, 1) := by decide +kernel
theorem dX8_byCaps_21 : decode cX8_byCaps 21 = .ok (.aload_n 0, 1) := by decide +kernel
theorem dX8_byCaps_22 : decode cX8_byCaps 22 = .ok (.getfield 88, 3) := by decide +kernel
theorem dX8_byCaps_25 : decode cX8_byCaps 25 = .ok (.iload 5, 2) := by decide +kernel
theorem dX8_byCaps_27 : decode cX8_byCaps 27 = .ok (.iaload, 1) := by decide +kernel
theorem dX8_byCaps_28 : decode cX8_byCaps 28 = .ok (.i2l, 1) := by decide +kernel
theorem dX8_byCaps_29 : decode cX8_byCaps 29 = .ok (.lmul, 1) := by decide +kernel
theorem dX8_byCaps_30 : decode cX8_byCaps 30 = .ok (.lload_n 2, 1) := by decide +kernel
theorem dX8_byCaps_31 : decode cX8_byCaps 31 = .ok (.ldiv, 1) := by decide +kernel
theorem dX8_byCaps_32 : decode cX8_byCaps 32 = .ok (.l2i, 1) := by decide +kernel
theorem dX8_byCaps_33 : decode cX8_byCaps 33 = .ok (.iastore, 1) := by decide +kernel
theorem dX8_byCaps_34 : decode cX8_byCaps 34 = .ok (.aload_n 0, 1) := by decide +kernel
theorem dX8_byCaps_35 : decode cX8_byCaps 35 = .ok (.getfield 94, 3) := by decide +kernel
theorem dX8_byCaps_38 : decode cX8_byCaps 38 = .ok (.iload 5, 2) := by decide +kernel
theorem dX8_byCaps_40 : decode cX8_byCaps 40 = .ok (.iload_n 1, 1) := by decide +kernel
theorem dX8_byCaps_41 : decode cX8_byCaps 41 = .ok (.i2l, 1) := by decide +kernel
theorem dX8_byCaps_42 : decode cX8_byCaps 42 = .ok (.aload_n 0, 1) := by decide +kernel
theorem dX8_byCaps_43 : decode cX8_byCaps 43 = .ok (.getfield 88, 3) := by decide +kernel
theorem dX8_byCaps_46 : decode cX8_byCaps 46 = .ok (.iload 5, 2) := by decide +kernel
theorem dX8_byCaps_48 : decode cX8_byCaps 48 = .ok (.iaload, 1) := by decide +kernel
theorem dX8_byCaps_49 : decode cX8_byCaps 49 = .ok (.i2l, 1) := by decide +kernel
theorem dX8_byCaps_50 : decode cX8_byCaps 50 = .ok (.lmul, 1) := by decide +kernel
theorem dX8_byCaps_51 : decode cX8_byCaps 51 = .ok (.lload_n 2, 1) := by decide +kernel
theorem dX8_byCaps_52 : decode cX8_byCaps 52 = .ok (.lrem, 1) := by decide +kernel
theorem dX8_byCaps_53 : decode cX8_byCaps 53 = .ok (.lastore, 1) := by decide +kernel
theorem dX8_byCaps_54 : decode cX8_byCaps 54 = .ok (.iload 4, 2) := by decide +kernel
theorem dX8_byCaps_56 : decode cX8_byCaps 56 = .ok (.aload_n 0, 1) := by decide +kernel
theorem dX8_byCaps_57 : decode cX8_byCaps 57 = .ok (.getfield 91, 3) := by decide +kernel
theorem dX8_byCaps_60 : decode cX8_byCaps 60 = .ok (.iload 5, 2) := by decide +kernel
theorem dX8_byCaps_62 : decode cX8_byCaps 62 = .ok (.iaload, 1) := by decide +kernel
theorem dX8_byCaps_63 : decode cX8_byCaps 63 = .ok (.isub, 1) := by decide +kernel
theorem dX8_byCaps_64 : decode cX8_byCaps 64 = .ok (.istore 4, 2) := by decide +kernel
theorem dX8_byCaps_66 : decode cX8_byCaps 66 = .ok (.iinc 5 1, 3) := by decide +kernel
theorem dX8_byCaps_69 : decode cX8_byCaps 69 = .ok (.goto (-63), 3) := by decide +kernel
theorem dX8_byCaps_72 : decode cX8_byCaps 72 = .ok (.iload 4, 2) := by decide +kernel
theorem dX8_byCaps_74 : decode cX8_byCaps 74 = .ok (.ifCond .le 76, 3) := by decide +kernel
theorem dX8_byCaps_77 : decode cX8_byCaps 77 = .ok (.iconst 0, 1) := by decide +kernel
theorem dX8_byCaps_78 : decode cX8_byCaps 78 = .ok (.istore 5, 2) := by decide +kernel
theorem dX8_byCaps_80 : decode cX8_byCaps 80 = .ok (.iconst 1, 1) := by decide +kernel
theorem dX8_byCaps_81 : decode cX8_byCaps 81 = .ok (.istore 6, 2) := by decide +kernel
theorem dX8_byCaps_83 : decode cX8_byCaps 83 = .ok (.iload 6, 2) := by decide +kernel
theorem dX8_byCaps_85 : decode cX8_byCaps 85 = .ok (.bipush 8, 2) := by decide +kernel
theorem dX8_byCaps_87 : decode cX8_byCaps 87 = .ok (.if_icmp .ge 36, 3) := by decide +kernel
theorem dX8_byCaps_90 : decode cX8_byCaps 90 = .ok (.aload_n 0, 1) := by decide +kernel
theorem dX8_byCaps_91 : decode cX8_byCaps 91 = .ok (.getfield 94, 3) := by decide +kernel
theorem dX8_byCaps_94 : decode cX8_byCaps 94 = .ok (.iload 6, 2) := by decide +kernel
theorem dX8_byCaps_96 : decode cX8_byCaps 96 = .ok (.laload, 1) := by decide +kernel
theorem dX8_byCaps_97 : decode cX8_byCaps 97 = .ok (.aload_n 0, 1) := by decide +kernel
theorem dX8_byCaps_98 : decode cX8_byCaps 98 = .ok (.getfield 94, 3) := by decide +kernel
theorem dX8_byCaps_101 : decode cX8_byCaps 101 = .ok (.iload 5, 2) := by decide +kernel
theorem dX8_byCaps_103 : decode cX8_byCaps 103 = .ok (.laload, 1) := by decide +kernel
theorem dX8_byCaps_104 : decode cX8_byCaps 104 = .ok (.lcmp, 1) := by decide +kernel
theorem dX8_byCaps_105 : decode cX8_byCaps 105 = .ok (.ifCond .le 8, 3) := by decide +kernel
theorem dX8_byCaps_108 : decode cX8_byCaps 108 = .ok (.iload 6, 2) := by decide +kernel
theorem dX8_byCaps_110 : decode cX8_byCaps 110 = .ok (.goto 5, 3) := by decide +kernel
theorem dX8_byCaps_113 : decode cX8_byCaps 113 = .ok (.iload 5, 2) := by decide +kernel
theorem dX8_byCaps_115 : decode cX8_byCaps 115 = .ok (.istore 5, 2) := by decide +kernel
theorem dX8_byCaps_117 : decode cX8_byCaps 117 = .ok (.iinc 6 1, 3) := by decide +kernel
theorem dX8_byCaps_120 : decode cX8_byCaps 120 = .ok (.goto (-37), 3) := by decide +kernel
theorem dX8_byCaps_123 : decode cX8_byCaps 123 = .ok (.aload_n 0, 1) := by decide +kernel
theorem dX8_byCaps_124 : decode cX8_byCaps 124 = .ok (.getfield 91, 3) := by decide +kernel
theorem dX8_byCaps_127 : decode cX8_byCaps 127 = .ok (.iload 5, 2) := by decide +kernel
theorem dX8_byCaps_129 : decode cX8_byCaps 129 = .ok (.dup2, 1) := by decide +kernel
theorem dX8_byCaps_130 : decode cX8_byCaps 130 = .ok (.iaload, 1) := by decide +kernel
theorem dX8_byCaps_131 : decode cX8_byCaps 131 = .ok (.iconst 1, 1) := by decide +kernel
theorem dX8_byCaps_132 : decode cX8_byCaps 132 = .ok (.iadd, 1) := by decide +kernel
theorem dX8_byCaps_133 : decode cX8_byCaps 133 = .ok (.iastore, 1) := by decide +kernel
theorem dX8_byCaps_134 : decode cX8_byCaps 134 = .ok (.aload_n 0, 1) := by decide +kernel
theorem dX8_byCaps_135 : decode cX8_byCaps 135 = .ok (.getfield 94, 3) := by decide +kernel
theorem dX8_byCaps_138 : decode cX8_byCaps 138 = .ok (.iload 5, 2) := by decide +kernel
theorem dX8_byCaps_140 : decode cX8_byCaps 140 = .ok (.ldc2_w 149, 3) := by decide +kernel
theorem dX8_byCaps_143 : decode cX8_byCaps 143 = .ok (.lastore, 1) := by decide +kernel
theorem dX8_byCaps_144 : decode cX8_byCaps 144 = .ok (.iinc 4 (-1), 3) := by decide +kernel
theorem dX8_byCaps_147 : decode cX8_byCaps 147 = .ok (.goto (-75), 3) := by decide +kernel
theorem dX8_byCaps_150 : decode cX8_byCaps 150 = .ok (.return_, 1) := by decide +kernel
set_option maxHeartbeats 4000000 in
set_option maxRecDepth 100000 in
theorem m_X8_byCaps (l : Launch) (D : va_G) (cI cJ : ClassId) (sz : Nat) (g g2 g3 g4 g5 g6 g7 g8 g9 g10 g12 g13 g15 g16 g17 g19 g20 g21 g22 g23 g24 g25 g26 g27 g28 g33 g34 g35 g36 g37 g38 g39 g41 g42 g44 g45 du mn ml mv : Nat) (gi0 gi14 gi18 gi29 gi30 gi32 gi40 gi43 : Int32) (G35 G36 : Nat → Int32) (G37 : Nat → Int64) (c0 : Nat → Nat) (hcv : nv G35 c0) (hcb : ∀ k, k < 8 → c0 k ≤ 1000000) (hdu : du ≤ 100000000) (hsum : du ≤ sm c0 8) (hS0 : 0 < sm c0 8) (hSb : sm c0 8 < 2 ^ 31) : Met l yX8_byCaps wtX8_byCaps { frames := 0, cells := 0, slots := 0, locals := 0 } (cPc D cI cJ [.ref g, .int (nI du), .long (lN (sm c0 8))] sz [(oX8 g gi0 (nI mn) g2 g3 g4 g5 g6 g7 g8 g9 g10 (nI ml) g12 g13 gi14 g15 g16 g17 gi18 g19 g20 g21 g22 g23 g24 g25 g26 g27 g28 gi29 gi30 (nI mv) gi32 g33 g34 g35 g36 g37 g38 g39 gi40 g41 g42 gi43 g44 g45), (aIc cI g35 8 G35), (aIc cI g36 8 G36), (aJc cJ g37 8 G37)]) (cQv D (fun u => ∃ (G36p : Nat → Int32) (G37p : Nat → Int64), (∃ pt : Nat → Nat, nv G36p pt ∧ sm pt 8 = du ∧ ∀ k, k < 8 → pt k ≤ c0 k) ∧ u = [(oX8 g gi0 (nI mn) g2 g3 g4 g5 g6 g7 g8 g9 g10 (nI ml) g12 g13 gi14 g15 g16 g17 gi18 g19 g20 g21 g22 g23 g24 g25 g26 g27 g28 gi29 gi30 (nI mv) gi32 g33 g34 g35 g36 g37 g38 g39 gi40 g41 g42 gi43 g44 g45), (aIc cI g35 8 G35), (aIc cI g36 8 G36p), (aJc cJ g37 8 G37p)]) (va_A [(oX8 g gi0 (nI mn) g2 g3 g4 g5 g6 g7 g8 g9 g10 (nI ml) g12 g13 gi14 g15 g16 g17 gi18 g19 g20 g21 g22 g23 g24 g25 g26 g27 g28 gi29 gi30 (nI mv) gi32 g33 g34 g35 g36 g37 g38 g39 gi40 g41 g42 gi43 g44 g45), (aIc cI g35 8 G35), (aIc cI g36 8 G36), (aJc cJ g37 8 G37)] sz)) 0 0 (va_A [(oX8 g gi0 (nI mn) g2 g3 g4 g5 g6 g7 g8 g9 g10 (nI ml) g12 g13 gi14 g15 g16 g17 gi18 g19 g20 g21 g22 g23 g24 g25 g26 g27 g28 gi29 gi30 (nI mv) gi32 g33 g34 g35 g36 g37 g38 g39 gi40 g41 g42 gi43 g44 g45), (aIc cI g35 8 G35), (aIc cI g36 8 G36), (aJc cJ g37 8 G37)] sz) := by
  refine k_ofW (Qc := cQv D (fun u => ∃ (G36p : Nat → Int32) (G37p : Nat → Int64), (∃ pt : Nat → Nat, nv G36p pt ∧ sm pt 8 = du ∧ ∀ k, k < 8 → pt k ≤ c0 k) ∧ u = [(oX8 g gi0 (nI mn) g2 g3 g4 g5 g6 g7 g8 g9 g10 (nI ml) g12 g13 gi14 g15 g16 g17 gi18 g19 g20 g21 g22 g23 g24 g25 g26 g27 g28 gi29 gi30 (nI mv) gi32 g33 g34 g35 g36 g37 g38 g39 gi40 g41 g42 gi43 g44 g45), (aIc cI g35 8 G35), (aIc cI g36 8 G36p), (aJc cJ g37 8 G37p)])) (by decide) rfl (Nat.le_of_ble_eq_true rfl) ?_
  intro p e s m below meth c A ls hx hb hr hml hts hown hlk hnm hsz hE hP hD hS hA hl
  have hown : s.vm.findClass RX8 = some m.cls := hown
  have hiX8 : ∀ w ∈ u_ws RX8 TX8 46, w ∈ wtX8_byCaps := fun w h => List.mem_cons_of_mem _ (iuX8 w h)
  have hl : lv_has ls 7 [(0, .ref g), (1, .int (nI du)), (2, .long (lN (sm c0 8)))] := hl
  refine lv_iload_n hx hb dX8_byCaps_0 rfl (lv_at hl 1 rfl) ?_
  refine lv_istore (lv' := [(4, .int (nI du)), (0, .ref g), (1, .int (nI du)), (2, .long (lN (sm c0 8)))]) hx hb dX8_byCaps_1 hl (by decide) rfl (fun ls hl => ?_)
  refine lv_iconst (v := 0) hx hb dX8_byCaps_3 (by decide) ?_
  refine lv_istore (lv' := [(5, .int 0), (4, .int (nI du)), (0, .ref g), (1, .int (nI du)), (2, .long (lN (sm c0 8)))]) hx hb dX8_byCaps_4 hl (by decide) rfl (fun ls hl => ?_)
  have J6 : ∀ (zz : Nat) (i6 h4_6 : Nat) (a_g36_6 : Nat → Int32) (a_g37_6 : Nat → Int64), (i6 ≤ 8) → (BL a_g36_6 a_g37_6 c0 du (sm c0 8) i6) → (h4_6 = du - sm (fun k => du * c0 k / sm c0 8) i6) → (8 - i6) < zz → ∀ (H : Heap) (locs : List Loc) (ls : Array Slot), va_P D vwCl [(oX8 g gi0 (nI mn) g2 g3 g4 g5 g6 g7 g8 g9 g10 (nI ml) g12 g13 gi14 g15 g16 g17 gi18 g19 g20 g21 g22 g23 g24 g25 g26 g27 g28 gi29 gi30 (nI mv) gi32 g33 g34 g35 g36 g37 g38 g39 gi40 g41 g42 gi43 g44 g45), (aIc cI g35 8 G35), (aIc cI g36 8 a_g36_6), (aJc cJ g37 8 a_g37_6)] H → va_D A [(oX8 g gi0 (nI mn) g2 g3 g4 g5 g6 g7 g8 g9 g10 (nI ml) g12 g13 gi14 g15 g16 g17 gi18 g19 g20 g21 g22 g23 g24 g25 g26 g27 g28 gi29 gi30 (nI mv) gi32 g33 g34 g35 g36 g37 g38 g39 gi40 g41 g42 gi43 g44 g45), (aIc cI g35 8 G35), (aIc cI g36 8 a_g36_6), (aJc cJ g37 8 a_g37_6)] → va_S A s.heap H locs → lv_has ls 7 [(5, .int (nI i6)), (4, .int (nI h4_6)), (0, .ref g), (1, .int (nI du)), (2, .long (lN (sm c0 8)))] → W p l e { frames := 0, cells := 0, slots := 0, locals := 0 } s m [.ref g, .int (nI du), .long (lN (sm c0 8))].toArray below meth c H locs 0 0 (MQ below (cQv D (fun u => ∃ (G36p : Nat → Int32) (G37p : Nat → Int64), (∃ pt : Nat → Nat, nv G36p pt ∧ sm pt 8 = du ∧ ∀ k, k < 8 → pt k ≤ c0 k) ∧ u = [(oX8 g gi0 (nI mn) g2 g3 g4 g5 g6 g7 g8 g9 g10 (nI ml) g12 g13 gi14 g15 g16 g17 gi18 g19 g20 g21 g22 g23 g24 g25 g26 g27 g28 gi29 gi30 (nI mv) gi32 g33 g34 g35 g36 g37 g38 g39 gi40 g41 g42 gi43 g44 g45), (aIc cI g35 8 G35), (aIc cI g36 8 G36p), (aJc cJ g37 8 G37p)]) A) [.ref g, .int (nI du), .long (lN (sm c0 8))].toArray s 0 0 A) (F0 m 6 ls []) := by
    intro zz
    induction zz with
    | zero => intro i6 h4_6 a_g36_6 a_g37_6 _ _ _; exact fun h => absurd h (Nat.not_lt_zero _)
    | succ zz ih6 =>
      intro i6 h4_6 a_g36_6 a_g37_6 hc5_6 hbl_6 hov_6 hmu6 H locs ls hP hD hS hl
      refine lv_iload hx hb dX8_byCaps_6 (lv_at hl 0 rfl) ?_
      refine lv_bipush (v := 8) hx hb dX8_byCaps_8 (by decide) ?_
      refine lv_icmp_ge (tgt := 72) hx hb dX8_byCaps_10 (by decide) (fun c1 => ?_) (fun c1 => ?_)
      · skip
        have nc1 : 8 ≤ i6 := (nI_leI (a := 8) (b := i6) (by omega) (by omega)).mp c1
        have J72 : ∀ (zz : Nat) (h4_72 : Nat) (a_g36_72 : Nat → Int32) (a_g37_72 : Nat → Int64), (BC a_g36_72 a_g37_72 c0 du h4_72) → (h4_72 ≤ 100000000) → h4_72 < zz → ∀ (H : Heap) (locs : List Loc) (ls : Array Slot), va_P D vwCl [(oX8 g gi0 (nI mn) g2 g3 g4 g5 g6 g7 g8 g9 g10 (nI ml) g12 g13 gi14 g15 g16 g17 gi18 g19 g20 g21 g22 g23 g24 g25 g26 g27 g28 gi29 gi30 (nI mv) gi32 g33 g34 g35 g36 g37 g38 g39 gi40 g41 g42 gi43 g44 g45), (aIc cI g35 8 G35), (aIc cI g36 8 a_g36_72), (aJc cJ g37 8 a_g37_72)] H → va_D A [(oX8 g gi0 (nI mn) g2 g3 g4 g5 g6 g7 g8 g9 g10 (nI ml) g12 g13 gi14 g15 g16 g17 gi18 g19 g20 g21 g22 g23 g24 g25 g26 g27 g28 gi29 gi30 (nI mv) gi32 g33 g34 g35 g36 g37 g38 g39 gi40 g41 g42 gi43 g44 g45), (aIc cI g35 8 G35), (aIc cI g36 8 a_g36_72), (aJc cJ g37 8 a_g37_72)] → va_S A s.heap H locs → lv_has ls 7 [(4, .int (nI h4_72)), (0, .ref g), (1, .int (nI du)), (2, .long (lN (sm c0 8)))] → W p l e { frames := 0, cells := 0, slots := 0, locals := 0 } s m [.ref g, .int (nI du), .long (lN (sm c0 8))].toArray below meth c H locs 0 0 (MQ below (cQv D (fun u => ∃ (G36p : Nat → Int32) (G37p : Nat → Int64), (∃ pt : Nat → Nat, nv G36p pt ∧ sm pt 8 = du ∧ ∀ k, k < 8 → pt k ≤ c0 k) ∧ u = [(oX8 g gi0 (nI mn) g2 g3 g4 g5 g6 g7 g8 g9 g10 (nI ml) g12 g13 gi14 g15 g16 g17 gi18 g19 g20 g21 g22 g23 g24 g25 g26 g27 g28 gi29 gi30 (nI mv) gi32 g33 g34 g35 g36 g37 g38 g39 gi40 g41 g42 gi43 g44 g45), (aIc cI g35 8 G35), (aIc cI g36 8 G36p), (aJc cJ g37 8 G37p)]) A) [.ref g, .int (nI du), .long (lN (sm c0 8))].toArray s 0 0 A) (F0 m 72 ls []) := by
          intro zz
          induction zz with
          | zero => intro h4_72 a_g36_72 a_g37_72 _ _; exact fun h => absurd h (Nat.not_lt_zero _)
          | succ zz ih72 =>
            intro h4_72 a_g36_72 a_g37_72 hbc_72 hov2_72 hmu72 H locs ls hP hD hS hl
            refine lv_iload hx hb dX8_byCaps_72 (lv_at hl 0 rfl) ?_
            refine lv_if_le (tgt := 150) hx hb dX8_byCaps_74 (by decide) (fun c2 => ?_) (fun c2 => ?_)
            · skip
              have nc2 : h4_72 ≤ 0 := (nI_leI (a := h4_72) (b := 0) (by omega) (by omega)).mp c2
              refine k_vret (u := [(oX8 g gi0 (nI mn) g2 g3 g4 g5 g6 g7 g8 g9 g10 (nI ml) g12 g13 gi14 g15 g16 g17 gi18 g19 g20 g21 g22 g23 g24 g25 g26 g27 g28 gi29 gi30 (nI mv) gi32 g33 g34 g35 g36 g37 g38 g39 gi40 g41 g42 gi43 g44 g45), (aIc cI g35 8 G35), (aIc cI g36 8 a_g36_72), (aJc cJ g37 8 a_g37_72)]) hx hb hr hlk hP hD hS dX8_byCaps_150 ?_
              exact ⟨a_g36_72, a_g37_72, (by obtain ⟨pt, q1, q2, q3, q4, q5⟩ := hbc_72; exact ⟨pt, q1, by omega, q3⟩), rfl⟩
            · skip
              have nc2 : ¬ h4_72 ≤ 0 := fun q9 => c2 ((nI_leI (a := h4_72) (b := 0) (by omega) (by omega)).mpr q9)
              refine lv_iconst (v := 0) hx hb dX8_byCaps_77 (by decide) ?_
              refine lv_istore (lv' := [(5, .int 0), (4, .int (nI h4_72)), (0, .ref g), (1, .int (nI du)), (2, .long (lN (sm c0 8)))]) hx hb dX8_byCaps_78 hl (by decide) rfl (fun ls hl => ?_)
              refine lv_iconst (v := 1) hx hb dX8_byCaps_80 (by decide) ?_
              refine lv_istore (lv' := [(6, .int 1), (5, .int 0), (4, .int (nI h4_72)), (0, .ref g), (1, .int (nI du)), (2, .long (lN (sm c0 8)))]) hx hb dX8_byCaps_81 hl (by decide) rfl (fun ls hl => ?_)
              have J83 : ∀ (zz : Nat) (j83 h5_83 : Nat), (j83 ≤ 8) → (h5_83 < 8) → (∀ k, k < j83 → a_g37_72 k ≤ a_g37_72 h5_83) → (1 ≤ j83) → (8 - j83) < zz → ∀ (H : Heap) (locs : List Loc) (ls : Array Slot), va_P D vwCl [(oX8 g gi0 (nI mn) g2 g3 g4 g5 g6 g7 g8 g9 g10 (nI ml) g12 g13 gi14 g15 g16 g17 gi18 g19 g20 g21 g22 g23 g24 g25 g26 g27 g28 gi29 gi30 (nI mv) gi32 g33 g34 g35 g36 g37 g38 g39 gi40 g41 g42 gi43 g44 g45), (aIc cI g35 8 G35), (aIc cI g36 8 a_g36_72), (aJc cJ g37 8 a_g37_72)] H → va_D A [(oX8 g gi0 (nI mn) g2 g3 g4 g5 g6 g7 g8 g9 g10 (nI ml) g12 g13 gi14 g15 g16 g17 gi18 g19 g20 g21 g22 g23 g24 g25 g26 g27 g28 gi29 gi30 (nI mv) gi32 g33 g34 g35 g36 g37 g38 g39 gi40 g41 g42 gi43 g44 g45), (aIc cI g35 8 G35), (aIc cI g36 8 a_g36_72), (aJc cJ g37 8 a_g37_72)] → va_S A s.heap H locs → lv_has ls 7 [(6, .int (nI j83)), (5, .int (nI h5_83)), (4, .int (nI h4_72)), (0, .ref g), (1, .int (nI du)), (2, .long (lN (sm c0 8)))] → W p l e { frames := 0, cells := 0, slots := 0, locals := 0 } s m [.ref g, .int (nI du), .long (lN (sm c0 8))].toArray below meth c H locs 0 0 (MQ below (cQv D (fun u => ∃ (G36p : Nat → Int32) (G37p : Nat → Int64), (∃ pt : Nat → Nat, nv G36p pt ∧ sm pt 8 = du ∧ ∀ k, k < 8 → pt k ≤ c0 k) ∧ u = [(oX8 g gi0 (nI mn) g2 g3 g4 g5 g6 g7 g8 g9 g10 (nI ml) g12 g13 gi14 g15 g16 g17 gi18 g19 g20 g21 g22 g23 g24 g25 g26 g27 g28 gi29 gi30 (nI mv) gi32 g33 g34 g35 g36 g37 g38 g39 gi40 g41 g42 gi43 g44 g45), (aIc cI g35 8 G35), (aIc cI g36 8 G36p), (aJc cJ g37 8 G37p)]) A) [.ref g, .int (nI du), .long (lN (sm c0 8))].toArray s 0 0 A) (F0 m 83 ls []) := by
                intro zz
                induction zz with
                | zero => intro j83 h5_83 _ _ _ _; exact fun h => absurd h (Nat.not_lt_zero _)
                | succ zz ih83 =>
                  intro j83 h5_83 hc6_83 hb8_83 hmx_83 hj1_83 hmu83 H locs ls hP hD hS hl
                  refine lv_iload hx hb dX8_byCaps_83 (lv_at hl 0 rfl) ?_
                  refine lv_bipush (v := 8) hx hb dX8_byCaps_85 (by decide) ?_
                  refine lv_icmp_ge (tgt := 123) hx hb dX8_byCaps_87 (by decide) (fun c3 => ?_) (fun c3 => ?_)
                  · skip
                    have nc3 : 8 ≤ j83 := (nI_leI (a := 8) (b := j83) (by omega) (by omega)).mp c3
                    refine lv_aload_n hx hb dX8_byCaps_123 rfl (lv_at hl 3 rfl) ?_
                    refine va_get (D := D) (ci := 8) (v := .ref g36) (C := RX8) (T := TX8) (N := 46) hx hb hts hiX8 hown hE.1 hP 0 rfl rfl 36 (by decide) (hts _ (List.mem_cons_of_mem _ wd_143)) (fun _ h9 => h9) rfl dX8_byCaps_124 ?_
                    refine lv_iload hx hb dX8_byCaps_127 (lv_at hl 1 rfl) ?_
                    refine lv_dup2_11 hx hb dX8_byCaps_129 rfl rfl ?_
                    refine va_iald hx hb hE.1 hP 2 0 rfl rfl (vp_in_nI (n := h5_83) (by omega) (by decide)) dX8_byCaps_130 ?_
                    refine lv_topi (fun v4 ev4 => ?_)
                    refine lv_iconst (v := 1) hx hb dX8_byCaps_131 (by decide) ?_
                    refine lv_iadd hx hb dX8_byCaps_132 ?_
                    refine lv_topi (fun v5 ev5 => ?_)
                    refine va_iast hx hb hE.1 hP hD hS 2 0 rfl rfl (vp_in_nI (n := h5_83) (by omega) (by decide)) dX8_byCaps_133 (fun H locs hP hD hS => ?_)
                    refine k_re (w := [(oX8 g gi0 (nI mn) g2 g3 g4 g5 g6 g7 g8 g9 g10 (nI ml) g12 g13 gi14 g15 g16 g17 gi18 g19 g20 g21 g22 g23 g24 g25 g26 g27 g28 gi29 gi30 (nI mv) gi32 g33 g34 g35 g36 g37 g38 g39 gi40 g41 g42 gi43 g44 g45), (aIc cI g35 8 G35), (aIc cI g36 8 (upd a_g36_72 (Int32.toNatClampNeg (nI h5_83)) v5)), (aJc cJ g37 8 a_g37_72)]) hP hD (fun hP hD => ?_)
                    refine lv_aload_n hx hb dX8_byCaps_134 rfl (lv_at hl 3 rfl) ?_
                    refine va_get (D := D) (ci := 8) (v := .ref g37) (C := RX8) (T := TX8) (N := 46) hx hb hts hiX8 hown hE.1 hP 0 rfl rfl 37 (by decide) (hts _ (List.mem_cons_of_mem _ wd_144)) (fun _ h9 => h9) rfl dX8_byCaps_135 ?_
                    refine lv_iload hx hb dX8_byCaps_138 (lv_at hl 1 rfl) ?_
                    refine lv_ldc2 (v := (-1)) hx hb hown (hts _ (List.mem_cons_of_mem _ wd_225)) dX8_byCaps_140 ?_
                    refine va_last hx hb hE.1 hP hD hS 3 1 rfl rfl (vp_in_nI (n := h5_83) (by omega) (by decide)) dX8_byCaps_143 (fun H locs hP hD hS => ?_)
                    refine k_re (w := [(oX8 g gi0 (nI mn) g2 g3 g4 g5 g6 g7 g8 g9 g10 (nI ml) g12 g13 gi14 g15 g16 g17 gi18 g19 g20 g21 g22 g23 g24 g25 g26 g27 g28 gi29 gi30 (nI mv) gi32 g33 g34 g35 g36 g37 g38 g39 gi40 g41 g42 gi43 g44 g45), (aIc cI g35 8 G35), (aIc cI g36 8 (upd a_g36_72 (Int32.toNatClampNeg (nI h5_83)) v5)), (aJc cJ g37 8 (vp_updL a_g37_72 (Int32.toNatClampNeg (nI h5_83)) (-1)))]) hP hD (fun hP hD => ?_)
                    obtain ⟨v6, ev6⟩ : ∃ y : Int32, y = (nI h4_72) + (-1) := ⟨_, rfl⟩
                    refine lv_iinc (v := v6) (lv' := [(4, .int v6), (6, .int (nI j83)), (5, .int (nI h5_83)), (0, .ref g), (1, .int (nI du)), (2, .long (lN (sm c0 8)))]) hx hb dX8_byCaps_144 hl (k := 2) rfl (by rw [ev6]; rfl) (by decide) rfl (fun ls hl => ?_)
                    obtain rfl : v6 = nI (h4_72 - 1) := by rw [ev6]; exact pm1 (by omega)
                    refine lv_goto (tgt := 72) hx hb dX8_byCaps_147 (by decide) ?_
                    exact ih72 (h4_72 - 1) (upd a_g36_72 (Int32.toNatClampNeg (nI h5_83)) v5) (vp_updL a_g37_72 (Int32.toNatClampNeg (nI h5_83)) (-1)) (bc_step hbc_72 (by omega) (by omega) (fun k hk => hmx_83 k (by omega)) hcb ev4 ev5) (by omega) (by omega) _ _ _ hP hD hS (lv_sub hl [0, 3, 4, 5] rfl)
                  · skip
                    have nc3 : ¬ 8 ≤ j83 := fun q9 => c3 ((nI_leI (a := 8) (b := j83) (by omega) (by omega)).mpr q9)
                    refine lv_aload_n hx hb dX8_byCaps_90 rfl (lv_at hl 3 rfl) ?_
                    refine va_get (D := D) (ci := 8) (v := .ref g37) (C := RX8) (T := TX8) (N := 46) hx hb hts hiX8 hown hE.1 hP 0 rfl rfl 37 (by decide) (hts _ (List.mem_cons_of_mem _ wd_144)) (fun _ h9 => h9) rfl dX8_byCaps_91 ?_
                    refine lv_iload hx hb dX8_byCaps_94 (lv_at hl 0 rfl) ?_
                    refine va_lald hx hb hE.1 hP 3 1 rfl rfl (vp_in_nI (n := j83) (by omega) (by decide)) dX8_byCaps_96 ?_
                    refine lv_topl (fun v7 ev7 => ?_)
                    refine lv_aload_n hx hb dX8_byCaps_97 rfl (lv_at hl 3 rfl) ?_
                    refine va_get (D := D) (ci := 8) (v := .ref g37) (C := RX8) (T := TX8) (N := 46) hx hb hts hiX8 hown hE.1 hP 0 rfl rfl 37 (by decide) (hts _ (List.mem_cons_of_mem _ wd_144)) (fun _ h9 => h9) rfl dX8_byCaps_98 ?_
                    refine lv_iload hx hb dX8_byCaps_101 (lv_at hl 1 rfl) ?_
                    refine va_lald hx hb hE.1 hP 3 1 rfl rfl (vp_in_nI (n := h5_83) (by omega) (by decide)) dX8_byCaps_103 ?_
                    refine lv_topl (fun v8 ev8 => ?_)
                    refine k_lcmp_le (tgt := 113) hx hb dX8_byCaps_104 dX8_byCaps_105 (by decide) (fun c9 => ?_) (fun c9 => ?_)
                    · skip
                      refine lv_iload hx hb dX8_byCaps_113 (lv_at hl 1 rfl) ?_
                      refine lv_istore (lv' := [(5, .int (nI h5_83)), (6, .int (nI j83)), (4, .int (nI h4_72)), (0, .ref g), (1, .int (nI du)), (2, .long (lN (sm c0 8)))]) hx hb dX8_byCaps_115 hl (by decide) rfl (fun ls hl => ?_)
                      refine lv_iinc (v := (nI (j83 + 1))) (lv' := [(6, .int (nI (j83 + 1))), (5, .int (nI h5_83)), (4, .int (nI h4_72)), (0, .ref g), (1, .int (nI du)), (2, .long (lN (sm c0 8)))]) hx hb dX8_byCaps_117 hl (k := 1) rfl (nI_1 _) (by decide) rfl (fun ls hl => ?_)
                      refine lv_goto (tgt := 83) hx hb dX8_byCaps_120 (by decide) ?_
                      exact ih83 (j83 + 1) h5_83 (by omega) (by omega) (mxl_keep (by omega) (by omega) hmx_83 ev7 ev8 c9) (by omega) (by omega) _ _ _ hP hD hS (lv_sub hl [0, 1, 2, 3, 4, 5] rfl)
                    · skip
                      refine lv_iload hx hb dX8_byCaps_108 (lv_at hl 0 rfl) ?_
                      refine lv_goto (tgt := 115) hx hb dX8_byCaps_110 (by decide) ?_
                      refine lv_istore (lv' := [(5, .int (nI j83)), (6, .int (nI j83)), (4, .int (nI h4_72)), (0, .ref g), (1, .int (nI du)), (2, .long (lN (sm c0 8)))]) hx hb dX8_byCaps_115 hl (by decide) rfl (fun ls hl => ?_)
                      refine lv_iinc (v := (nI (j83 + 1))) (lv' := [(6, .int (nI (j83 + 1))), (5, .int (nI j83)), (4, .int (nI h4_72)), (0, .ref g), (1, .int (nI du)), (2, .long (lN (sm c0 8)))]) hx hb dX8_byCaps_117 hl (k := 1) rfl (nI_1 _) (by decide) rfl (fun ls hl => ?_)
                      refine lv_goto (tgt := 83) hx hb dX8_byCaps_120 (by decide) ?_
                      exact ih83 (j83 + 1) j83 (by omega) (by omega) (mxl_new (by omega) (by omega) hmx_83 ev7 ev8 c9) (by omega) (by omega) _ _ _ hP hD hS (lv_sub hl [0, 1, 2, 3, 4, 5] rfl)
              exact J83 _ 1 0 (by omega) (by omega) mxl_1 (by omega) (Nat.lt_succ_self _) _ _ _ hP hD hS (lv_sub hl [0, 1, 2, 3, 4, 5] rfl)
        exact J72 _ h4_6 a_g36_6 a_g37_6 (by obtain rfl : i6 = 8 := (by omega); rw [hov_6]; exact bc_0 hbl_6 hS0 hSb hsum) (by omega) (Nat.lt_succ_self _) _ _ _ hP hD hS (lv_sub hl [1, 2, 3, 4] rfl)
      · skip
        have nc1 : ¬ 8 ≤ i6 := fun q9 => c1 ((nI_leI (a := 8) (b := i6) (by omega) (by omega)).mpr q9)
        refine lv_aload_n hx hb dX8_byCaps_13 rfl (lv_at hl 2 rfl) ?_
        refine va_get (D := D) (ci := 8) (v := .ref g36) (C := RX8) (T := TX8) (N := 46) hx hb hts hiX8 hown hE.1 hP 0 rfl rfl 36 (by decide) (hts _ (List.mem_cons_of_mem _ wd_143)) (fun _ h9 => h9) rfl dX8_byCaps_14 ?_
        refine lv_iload hx hb dX8_byCaps_17 (lv_at hl 0 rfl) ?_
        refine lv_iload_n hx hb dX8_byCaps_19 rfl (lv_at hl 3 rfl) ?_
        refine lv_i2l hx hb dX8_byCaps_20 rfl ?_
        refine lv_aload_n hx hb dX8_byCaps_21 rfl (lv_at hl 2 rfl) ?_
        refine va_get (D := D) (ci := 8) (v := .ref g35) (C := RX8) (T := TX8) (N := 46) hx hb hts hiX8 hown hE.1 hP 0 rfl rfl 35 (by decide) (hts _ (List.mem_cons_of_mem _ wd_142)) (fun _ h9 => h9) rfl dX8_byCaps_22 ?_
        refine lv_iload hx hb dX8_byCaps_25 (lv_at hl 0 rfl) ?_
        refine va_iald hx hb hE.1 hP 1 0 rfl rfl (vp_in_nI (n := i6) (by omega) (by decide)) dX8_byCaps_27 ?_
        refine lv_topi (fun v10 ev10 => ?_)
        have hcb_ := hcb i6 (by omega)
        obtain rfl : v10 = nI (c0 i6) := ev10.trans (nv_at hcv (by omega))
        refine lv_i2l hx hb dX8_byCaps_28 rfl ?_
        refine lv_lmul hx hb dX8_byCaps_29 ?_
        refine lv_topl (fun v11 ev11 => ?_)
        refine lv_lload_n hx hb dX8_byCaps_30 rfl (lv_at hl 4 rfl) ?_
        refine lv_ldiv hx hb dX8_byCaps_31 (lN_ne hS0 hSb) ?_
        refine lv_topl (fun v12 ev12 => ?_)
        refine lv_l2i hx hb dX8_byCaps_32 rfl ?_
        refine lv_topi (fun v13 ev13 => ?_)
        obtain rfl : v13 = nI (du * c0 i6 / sm c0 8) := bc_div hdu (hcb i6 (by omega)) hS0 hSb ev11 ev12 ev13
        refine va_iast hx hb hE.1 hP hD hS 2 0 rfl rfl (vp_in_nI (n := i6) (by omega) (by decide)) dX8_byCaps_33 (fun H locs hP hD hS => ?_)
        refine k_re (w := [(oX8 g gi0 (nI mn) g2 g3 g4 g5 g6 g7 g8 g9 g10 (nI ml) g12 g13 gi14 g15 g16 g17 gi18 g19 g20 g21 g22 g23 g24 g25 g26 g27 g28 gi29 gi30 (nI mv) gi32 g33 g34 g35 g36 g37 g38 g39 gi40 g41 g42 gi43 g44 g45), (aIc cI g35 8 G35), (aIc cI g36 8 (upd a_g36_6 (Int32.toNatClampNeg (nI i6)) (nI (du * c0 i6 / sm c0 8)))), (aJc cJ g37 8 a_g37_6)]) hP hD (fun hP hD => ?_)
        refine lv_aload_n hx hb dX8_byCaps_34 rfl (lv_at hl 2 rfl) ?_
        refine va_get (D := D) (ci := 8) (v := .ref g37) (C := RX8) (T := TX8) (N := 46) hx hb hts hiX8 hown hE.1 hP 0 rfl rfl 37 (by decide) (hts _ (List.mem_cons_of_mem _ wd_144)) (fun _ h9 => h9) rfl dX8_byCaps_35 ?_
        refine lv_iload hx hb dX8_byCaps_38 (lv_at hl 0 rfl) ?_
        refine lv_iload_n hx hb dX8_byCaps_40 rfl (lv_at hl 3 rfl) ?_
        refine lv_i2l hx hb dX8_byCaps_41 rfl ?_
        refine lv_aload_n hx hb dX8_byCaps_42 rfl (lv_at hl 2 rfl) ?_
        refine va_get (D := D) (ci := 8) (v := .ref g35) (C := RX8) (T := TX8) (N := 46) hx hb hts hiX8 hown hE.1 hP 0 rfl rfl 35 (by decide) (hts _ (List.mem_cons_of_mem _ wd_142)) (fun _ h9 => h9) rfl dX8_byCaps_43 ?_
        refine lv_iload hx hb dX8_byCaps_46 (lv_at hl 0 rfl) ?_
        refine va_iald hx hb hE.1 hP 1 0 rfl rfl (vp_in_nI (n := i6) (by omega) (by decide)) dX8_byCaps_48 ?_
        refine lv_topi (fun v14 ev14 => ?_)
        have hcb_ := hcb i6 (by omega)
        obtain rfl : v14 = nI (c0 i6) := ev14.trans (nv_at hcv (by omega))
        refine lv_i2l hx hb dX8_byCaps_49 rfl ?_
        refine lv_lmul hx hb dX8_byCaps_50 ?_
        refine lv_topl (fun v15 ev15 => ?_)
        refine lv_lload_n hx hb dX8_byCaps_51 rfl (lv_at hl 4 rfl) ?_
        refine lv_lrem hx hb dX8_byCaps_52 (lN_ne hS0 hSb) ?_
        refine lv_topl (fun v16 ev16 => ?_)
        have hrm : v16 = lN (du * c0 i6 % sm c0 8) := bc_rem hdu (hcb i6 (by omega)) hS0 hSb ev15 ev16
        refine va_last hx hb hE.1 hP hD hS 3 1 rfl rfl (vp_in_nI (n := i6) (by omega) (by decide)) dX8_byCaps_53 (fun H locs hP hD hS => ?_)
        refine k_re (w := [(oX8 g gi0 (nI mn) g2 g3 g4 g5 g6 g7 g8 g9 g10 (nI ml) g12 g13 gi14 g15 g16 g17 gi18 g19 g20 g21 g22 g23 g24 g25 g26 g27 g28 gi29 gi30 (nI mv) gi32 g33 g34 g35 g36 g37 g38 g39 gi40 g41 g42 gi43 g44 g45), (aIc cI g35 8 G35), (aIc cI g36 8 (upd a_g36_6 (Int32.toNatClampNeg (nI i6)) (nI (du * c0 i6 / sm c0 8)))), (aJc cJ g37 8 (vp_updL a_g37_6 (Int32.toNatClampNeg (nI i6)) v16))]) hP hD (fun hP hD => ?_)
        refine lv_iload hx hb dX8_byCaps_54 (lv_at hl 1 rfl) ?_
        refine lv_aload_n hx hb dX8_byCaps_56 rfl (lv_at hl 2 rfl) ?_
        refine va_get (D := D) (ci := 8) (v := .ref g36) (C := RX8) (T := TX8) (N := 46) hx hb hts hiX8 hown hE.1 hP 0 rfl rfl 36 (by decide) (hts _ (List.mem_cons_of_mem _ wd_143)) (fun _ h9 => h9) rfl dX8_byCaps_57 ?_
        refine lv_iload hx hb dX8_byCaps_60 (lv_at hl 0 rfl) ?_
        refine va_iald hx hb hE.1 hP 2 0 rfl rfl (vp_in_nI (n := i6) (by omega) (by decide)) dX8_byCaps_62 ?_
        refine lv_topi (fun v17 ev17 => ?_)
        obtain rfl : v17 = nI (du * c0 i6 / sm c0 8) := by rw [ev17]; exact pk_us
        have hfl : sm (fun k => du * c0 k / sm c0 8) (i6 + 1) ≤ du := fl_le hS0 (sm_mono c0 (by omega))
        have hfs : sm (fun k => du * c0 k / sm c0 8) (i6 + 1) = sm (fun k => du * c0 k / sm c0 8) i6 + du * c0 i6 / sm c0 8 := rfl
        refine lv_isub hx hb dX8_byCaps_63 ?_
        refine lv_topi (fun v18 ev18 => ?_)
        obtain rfl : v18 = nI (h4_6 - du * c0 i6 / sm c0 8) := by rw [ev18]; exact pk_sub (by omega)
        refine lv_istore (lv' := [(4, .int (nI (h4_6 - du * c0 i6 / sm c0 8))), (5, .int (nI i6)), (0, .ref g), (1, .int (nI du)), (2, .long (lN (sm c0 8)))]) hx hb dX8_byCaps_64 hl (by decide) rfl (fun ls hl => ?_)
        refine lv_iinc (v := (nI (i6 + 1))) (lv' := [(5, .int (nI (i6 + 1))), (4, .int (nI (h4_6 - du * c0 i6 / sm c0 8))), (0, .ref g), (1, .int (nI du)), (2, .long (lN (sm c0 8)))]) hx hb dX8_byCaps_66 hl (k := 1) rfl (nI_1 _) (by decide) rfl (fun ls hl => ?_)
        refine lv_goto (tgt := 6) hx hb dX8_byCaps_69 (by decide) ?_
        exact ih6 (i6 + 1) (h4_6 - du * c0 i6 / sm c0 8) (upd a_g36_6 (Int32.toNatClampNeg (nI i6)) (nI (du * c0 i6 / sm c0 8))) (vp_updL a_g37_6 (Int32.toNatClampNeg (nI i6)) v16) (by omega) (bl_step (by omega) hbl_6 rfl hrm) (hov_step hov_6 hfs hfl) (by omega) _ _ _ hP hD hS (lv_sub hl [0, 1, 2, 3, 4] rfl)
  exact J6 _ 0 du G36 G37 (by omega) (fun k hk => absurd hk (Nat.not_lt_zero k)) rfl (Nat.lt_succ_self _) _ _ _ hP hD hS (lv_sub hl [0, 1, 2, 3, 4] rfl)

