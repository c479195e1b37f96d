theorem sm_if (pt : Nat → Nat) (i x : Nat) : sm (fun k => if k = i then x else pt k) (i + 1) = sm pt i + x := by
  show sm (fun k => if k = i then x else pt k) i + (if i = i then x else pt i) = _
  rw [if_pos rfl, sm_cong (g := pt) (fun k hk => if_neg (by omega))]
def BS (f : Nat → Int32) (c0 : Nat → Nat) (h ov0 i ov : Nat) : Prop := ∃ pt : Nat → Nat, (∀ k, k < i → f k = nI (pt k) ∧ pt k ≤ c0 k) ∧ sm pt i + ov = sm (fun k => min (c0 k) h) i + ov0 ∧ (0 < ov → sm pt i = sm (fun k => min (c0 k) (h + 1)) i) ∧ ov ≤ ov0
theorem bs_0 {f : Nat → Int32} {c0 : Nat → Nat} {h ov0 : Nat} : BS f c0 h ov0 0 ov0 := ⟨fun _ => 0, fun k hk => absurd hk (Nat.not_lt_zero k), rfl, fun _ => rfl, Nat.le_refl _⟩
theorem bs_step {f : Nat → Int32} {c0 : Nat → Nat} {h ov0 i ov : Nat} (hi : i < 8) (H : BS f c0 h ov0 i ov) (x m : Nat) (hx : x = min (c0 i) h + m) (hm : m ≤ 1) (hm1 : m = 1 → h < c0 i ∧ 0 < ov) (hm0 : m = 0 → ¬ (h < c0 i ∧ 0 < ov)) : BS (upd f (Int32.toNatClampNeg (nI i)) (nI x)) c0 h ov0 (i + 1) (ov - m) := by
  obtain ⟨pt, h1, h2, h3, h4⟩ := H
  have hmin : min (c0 i) h = if c0 i ≤ h then c0 i else h := Nat.min_def
  have hmin2 : min (c0 i) (h + 1) = if c0 i ≤ h + 1 then c0 i else h + 1 := Nat.min_def
  have hmc : m = 0 ∨ m = 1 := by omega
  refine ⟨fun k => if k = i then x else pt k, ?_, ?_, ?_, by omega⟩
  · intro k hk
    rw [nI_clamp (by omega)]
    dsimp only
    by_cases e : k = i
    · subst e
      rw [pk_us, if_pos rfl]
      refine ⟨rfl, ?_⟩
      rcases hmc with q | q
      · split at hmin <;> omega
      · have := hm1 q
        split at hmin <;> omega
    · rw [pk_un e, if_neg e]
      exact h1 k (by omega)
  · rw [sm_if]
    show _ = sm (fun k => min (c0 k) h) i + min (c0 i) h + ov0
    rcases hmc with q | q
    · omega
    · have := (hm1 q).2
      omega
  · intro hp
    rw [sm_if]
    show _ = sm (fun k => min (c0 k) (h + 1)) i + min (c0 i) (h + 1)
    rw [h3 (by omega)]
    rcases hmc with q | q
    · have := hm0 q
      split at hmin <;> split at hmin2 <;> omega
    · have := hm1 q
      split at hmin <;> split at hmin2 <;> omega
theorem bs_end {f : Nat → Int32} {c0 : Nat → Nat} {h ov du : Nat} (H : BS f c0 h (du - sm (fun k => min (c0 k) h) 8) 8 ov) (hS : sm (fun k => min (c0 k) h) 8 ≤ du) (hd : du ≤ sm c0 8) (hT : (∀ k, k < 8 → c0 k ≤ h) ∨ du < sm (fun k => min (c0 k) (h + 1)) 8) : ∃ pt : Nat → Nat, nv f pt ∧ sm pt 8 = du ∧ ∀ k, k < 8 → pt k ≤ c0 k := by
  obtain ⟨pt, h1, h2, h3, h4⟩ := H
  have hov : ov = 0 := by
    rcases hT with q | q
    · have e : sm (fun k => min (c0 k) h) 8 = sm c0 8 := sm_cong (fun k hk => Nat.min_eq_left (q k hk))
      omega
    · rcases Nat.eq_zero_or_pos ov with z | z
      · exact z
      · have := h3 z
        omega
  exact ⟨pt, fun k hk => (h1 k hk).1, by omega, fun k hk => (h1 k hk).2⟩
theorem dX8_bySteps_0 : decode cX8_bySteps 0 = .ok (.aload_n 0, 1) := by decide +kernel
theorem dX8_bySteps_1 : decode cX8_bySteps 1 = .ok (.iload_n 1, 1) := by decide +kernel
theorem dX8_bySteps_2 : decode cX8_bySteps 2 = .ok (.invokevirtual 175, 3) := by decide +kernel
theorem dX8_bySteps_5 : decode cX8_bySteps 5 = .ok (.istore_n 2, 1) := by decide +kernel
theorem dX8_bySteps_6 : decode cX8_bySteps 6 = .ok (.iload_n 1, 1) := by decide +kernel
theorem dX8_bySteps_7 : decode cX8_bySteps 7 = .ok (.aload_n 0, 1) := by decide +kernel
theorem dX8_bySteps_8 : decode cX8_bySteps 8 = .ok (.iload_n 2, 1) := by decide +kernel
theorem dX8_bySteps_9 : decode cX8_bySteps 9 = .ok (.invokevirtual 171, 3) := by decide +kernel
theorem dX8_bySteps_12 : decode cX8_bySteps 12 = .ok (.l2i, 1) := by decide +kernel
theorem dX8_bySteps_13 : decode cX8_bySteps 13 = .ok (.isub, 1) := by decide +kernel
theorem dX8_bySteps_14 : decode cX8_bySteps 14 = .ok (.istore_n 3, 1) := by decide +kernel
theorem dX8_bySteps_15 : decode cX8_bySteps 15 = .ok (.iconst 0, 1) := by decide +kernel
theorem dX8_bySteps_16 : decode cX8_bySteps 16 = .ok (.istore 4, 2) := by decide +kernel
theorem dX8_bySteps_18 : decode cX8_bySteps 18 = .ok (.iload 4, 2) := by decide +kernel
theorem dX8_bySteps_20 : decode cX8_bySteps 20 = .ok (.bipush 8, 2) := by decide +kernel
theorem dX8_bySteps_22 : decode cX8_bySteps 22 = .ok (.if_icmp .ge 73, 3) := by decide +kernel
theorem dX8_bySteps_25 : decode cX8_bySteps 25 = .ok (.aload_n 0, 1) := by decide +kernel
theorem dX8_bySteps_26 : decode cX8_bySteps 26 = .ok (.getfield 88, 3) := by decide +kernel
theorem dX8_bySteps_29 : decode cX8_bySteps 29 = .ok (.iload 4, 2) := by decide +kernel
theorem dX8_bySteps_31 : decode cX8_bySteps 31 = .ok (.iaload, 1) := by decide +kernel
theorem dX8_bySteps_32 : decode cX8_bySteps 32 = .ok (.iload_n 2, 1) := by decide +kernel
theorem dX8_bySteps_33 : decode cX8_bySteps 33 = .ok (.if_icmp .le 11, 3) := by decide +kernel
theorem dX8_bySteps_36 : decode cX8_bySteps 36 = .ok (.iload_n 3, 1) := by decide +kernel
theorem dX8_bySteps_37 : decode cX8_bySteps 37 = .ok (.ifCond .le 7, 3) := by decide +kernel
theorem dX8_bySteps_40 : decode cX8_bySteps 40 = .ok (.iconst 1, 1) := by decide +kernel
theorem dX8_bySteps_41 : decode cX8_bySteps 41 = .ok (.goto 4, 3) := by decide +kernel
theorem dX8_bySteps_44 : decode cX8_bySteps 44 = .ok (.iconst 0, 1) := by decide +kernel
theorem dX8_bySteps_45 : decode cX8_bySteps 45 = .ok (.istore 5, 2) := by decide +kernel
theorem dX8_bySteps_47 : decode cX8_bySteps 47 = .ok (.aload_n 0, 1) := by decide +kernel
theorem dX8_bySteps_48 : decode cX8_bySteps 48 = .ok (.getfield 91, 3) := by decide +kernel
theorem dX8_bySteps_51 : decode cX8_bySteps 51 = .ok (.iload 4, 2) := by decide +kernel
theorem dX8_bySteps_53 : decode cX8_bySteps 53 = .ok (.aload_n 0, 1) := by decide +kernel
theorem dX8_bySteps_54 : decode cX8_bySteps 54 = .ok (.getfield 88, 3) := by decide +kernel
theorem dX8_bySteps_57 : decode cX8_bySteps 57 = .ok (.iload 4, 2) := by decide +kernel
theorem dX8_bySteps_59 : decode cX8_bySteps 59 = .ok (.iaload, 1) := by decide +kernel
theorem dX8_bySteps_60 : decode cX8_bySteps 60 = .ok (.iload_n 2, 1) := by decide +kernel
theorem dX8_bySteps_61 : decode cX8_bySteps 61 = .ok (.invokestatic 158, 3) := by decide +kernel
theorem dX8_bySteps_64 : decode cX8_bySteps 64 = .ok (.iload 5, 2) := by decide +kernel
theorem dX8_bySteps_66 : decode cX8_bySteps 66 = .ok (.ifCond .eq 7, 3) := by decide +kernel
theorem dX8_bySteps_69 : decode cX8_bySteps 69 = .ok (.iconst 1, 1) := by decide +kernel
theorem dX8_bySteps_70 : decode cX8_bySteps 70 = .ok (.goto 4, 3) := by decide +kernel
theorem dX8_bySteps_73 : decode cX8_bySteps 73 = .ok (.iconst 0, 1) := by decide +kernel
theorem dX8_bySteps_74 : decode cX8_bySteps 74 = .ok (.iadd, 1) := by decide +kernel
theorem dX8_bySteps_75 : decode cX8_bySteps 75 = .ok (.iastore, 1) := by decide +kernel
theorem dX8_bySteps_76 : decode cX8_bySteps 76 = .ok (.iload_n 3, 1) := by decide +kernel
theorem dX8_bySteps_77 : decode cX8_bySteps 77 = .ok (.iload 5, 2) := by decide +kernel
theorem dX8_bySteps_79 : decode cX8_bySteps 79 = .ok (.ifCond .eq 7, 3) := by decide +kernel
theorem dX8_bySteps_82 : decode cX8_bySteps 82 = .ok (.iconst 1, 1) := by decide +kernel
theorem dX8_bySteps_83 : decode cX8_bySteps 83 = .ok (.goto 4, 3) := by decide +kernel
theorem dX8_bySteps_86 : decode cX8_bySteps 86 = .ok (.iconst 0, 1) := by decide +kernel
theorem dX8_bySteps_87 : decode cX8_bySteps 87 = .ok (.isub, 1) := by decide +kernel
theorem dX8_bySteps_88 : decode cX8_bySteps 88 = .ok (.istore_n 3, 1) := by decide +kernel
theorem dX8_bySteps_89 : decode cX8_bySteps 89 = .ok (.iinc 4 1, 3) := by decide +kernel
theorem dX8_bySteps_92 : decode cX8_bySteps 92 = .ok (.goto (-74), 3) := by decide +kernel
theorem dX8_bySteps_95 : decode cX8_bySteps 95 = .ok (.return_, 1) := by decide +kernel
theorem gX8_bySteps_X8_byHeight : GoodIn wtX8_bySteps (wsV RX8 171 RX8 yX8_byHeight wtX8_byHeight) := tb_good (tb_v0 wd_470 wd_471 wd_472 wd_5 wd_473)
theorem gX8_bySteps_X8_heightFor : GoodIn wtX8_bySteps (wsV RX8 175 RX8 yX8_heightFor wtX8_heightFor) := tb_good (tb_v0 wd_466 wd_467 wd_468 wd_5 wd_469)
theorem gX8_bySteps_X8_least : GoodIn wtX8_bySteps (va_wsS RX8 158 yX8_least wtX8_least) := tb_good (tb_s0 wd_430 wd_431 wd_5 wd_432)
set_option maxHeartbeats 4000000 in
set_option maxRecDepth 100000 in
theorem m_X8_bySteps (l : Launch) (D : va_G) (cI cJ : ClassId) (sz : Nat) (g g2 g3 g4 g5 g6 g7 g8 g9 g10 g12 g13 g15 g16 g17 g19 g20 g21 g22 g23 g24 g25 g26 g27 g28 g33 g34 g35 g36 g37 g38 g39 g41 g42 g44 g45 du mn ml mv : Nat) (gi0 gi14 gi18 gi29 gi30 gi32 gi40 gi43 : Int32) (G35 G36 : Nat → Int32) (c0 : Nat → Nat) (hcv : nv G35 c0) (hcb : ∀ k, k < 8 → c0 k ≤ 1000000) (hdu : du ≤ 100000000) (hsum : du ≤ sm c0 8) : Met l yX8_bySteps wtX8_bySteps { frames := 3, cells := 0, slots := 0, locals := 69 } (cPc D cI cJ [.ref g, .int (nI du)] sz [(oX8 g gi0 (nI mn) g2 g3 g4 g5 g6 g7 g8 g9 g10 (nI ml) g12 g13 gi14 g15 g16 g17 gi18 g19 g20 g21 g22 g23 g24 g25 g26 g27 g28 gi29 gi30 (nI mv) gi32 g33 g34 g35 g36 g37 g38 g39 gi40 g41 g42 gi43 g44 g45), (aIc cI g35 8 G35), (aIc cI g36 8 G36)]) (cQv D (fun u => ∃ (G36p : Nat → Int32), (∃ pt : Nat → Nat, nv G36p pt ∧ sm pt 8 = du ∧ ∀ k, k < 8 → pt k ≤ c0 k) ∧ u = [(oX8 g gi0 (nI mn) g2 g3 g4 g5 g6 g7 g8 g9 g10 (nI ml) g12 g13 gi14 g15 g16 g17 gi18 g19 g20 g21 g22 g23 g24 g25 g26 g27 g28 gi29 gi30 (nI mv) gi32 g33 g34 g35 g36 g37 g38 g39 gi40 g41 g42 gi43 g44 g45), (aIc cI g35 8 G35), (aIc cI g36 8 G36p)]) (va_A [(oX8 g gi0 (nI mn) g2 g3 g4 g5 g6 g7 g8 g9 g10 (nI ml) g12 g13 gi14 g15 g16 g17 gi18 g19 g20 g21 g22 g23 g24 g25 g26 g27 g28 gi29 gi30 (nI mv) gi32 g33 g34 g35 g36 g37 g38 g39 gi40 g41 g42 gi43 g44 g45), (aIc cI g35 8 G35), (aIc cI g36 8 G36)] sz)) 0 0 (va_A [(oX8 g gi0 (nI mn) g2 g3 g4 g5 g6 g7 g8 g9 g10 (nI ml) g12 g13 gi14 g15 g16 g17 gi18 g19 g20 g21 g22 g23 g24 g25 g26 g27 g28 gi29 gi30 (nI mv) gi32 g33 g34 g35 g36 g37 g38 g39 gi40 g41 g42 gi43 g44 g45), (aIc cI g35 8 G35), (aIc cI g36 8 G36)] sz) := by
  refine k_ofW (Qc := cQv D (fun u => ∃ (G36p : Nat → Int32), (∃ pt : Nat → Nat, nv G36p pt ∧ sm pt 8 = du ∧ ∀ k, k < 8 → pt k ≤ c0 k) ∧ u = [(oX8 g gi0 (nI mn) g2 g3 g4 g5 g6 g7 g8 g9 g10 (nI ml) g12 g13 gi14 g15 g16 g17 gi18 g19 g20 g21 g22 g23 g24 g25 g26 g27 g28 gi29 gi30 (nI mv) gi32 g33 g34 g35 g36 g37 g38 g39 gi40 g41 g42 gi43 g44 g45), (aIc cI g35 8 G35), (aIc cI g36 8 G36p)])) (by decide) rfl (Nat.le_of_ble_eq_true rfl) ?_
  intro p e s m below meth c A ls hx hb hr hml hts hown hlk hnm hsz hE hP hD hS hA hl
  have hown : s.vm.findClass RX8 = some m.cls := hown
  have hiX8 : ∀ w ∈ u_ws RX8 TX8 46, w ∈ wtX8_bySteps := fun w h => List.mem_cons_of_mem _ (iuX8 w h)
  have hl : lv_has ls 6 [(0, .ref g), (1, .int (nI du))] := hl
  refine lv_aload_n hx hb dX8_bySteps_0 rfl (lv_at hl 0 rfl) ?_
  refine lv_iload_n hx hb dX8_bySteps_1 rfl (lv_at hl 1 rfl) ?_
  refine k_iS (va_runV (As := [.int (nI du)]) (rest := []) ⟨hx, hb, hml, hown, hts⟩ (m_X8_heightFor l D cI cJ (s.heap).size g g2 g3 g4 g5 g6 g7 g8 g9 g10 g12 g13 g15 g16 g17 g19 g20 g21 g22 g23 g24 g25 g26 g27 g28 g33 g34 g35 g36 g37 g38 g39 g41 g42 g44 g45 du mn ml mv gi0 gi14 gi18 gi29 gi30 gi32 gi40 gi43 G35 c0 hcv hcb (by omega)) (cwV 1 hts gX8_bySteps_X8_heightFor rfl rfl rfl (by decide +kernel) ⟨Nat.le_of_ble_eq_true rfl, Nat.le_of_ble_eq_true rfl⟩) (k_preV hE hP hD [0, 1] (by decide +kernel) rfl 0 rfl rfl) rfl rfl hl.1 rfl (lv_room (Nat.le_of_ble_eq_true rfl)) dX8_bySteps_2 ⟨Nat.le_of_ble_eq_true rfl, Nat.le_of_ble_eq_true rfl⟩) hP hD hS hA [0, 1] rfl (fun _ _ ⟨_, _, _, _, _, h9⟩ => h9) (fun r1 H locs hw2 hP hD hS => ?_)
  obtain ⟨z3, hz4, hz5, hz6, rfl, -⟩ := hw2
  refine lv_istore_n (lv' := [(2, .int (nI z3)), (0, .ref g), (1, .int (nI du))]) hx hb dX8_bySteps_5 rfl hl (by decide) rfl (fun ls hl => ?_)
  refine lv_iload_n hx hb dX8_bySteps_6 rfl (lv_at hl 2 rfl) ?_
  refine lv_aload_n hx hb dX8_bySteps_7 rfl (lv_at hl 1 rfl) ?_
  refine lv_iload_n hx hb dX8_bySteps_8 rfl (lv_at hl 0 rfl) ?_
  refine k_lS (va_runV (As := [.int (nI z3)]) (rest := [.int (nI du)]) ⟨hx, hb, hml, hown, hts⟩ (m_X8_byHeight l D cI cJ H.size g g2 g3 g4 g5 g6 g7 g8 g9 g10 g12 g13 g15 g16 g17 g19 g20 g21 g22 g23 g24 g25 g26 g27 g28 g33 g34 g35 g36 g37 g38 g39 g41 g42 g44 g45 z3 mn ml mv gi0 gi14 gi18 gi29 gi30 gi32 gi40 gi43 G35 c0 hcv hcb (by omega)) (cwV 1 hts gX8_bySteps_X8_byHeight rfl rfl rfl (by decide +kernel) ⟨Nat.le_of_ble_eq_true rfl, Nat.le_of_ble_eq_true rfl⟩) (k_preV hE hP hD [0, 1] (by decide +kernel) rfl 0 rfl rfl) rfl rfl hl.1 rfl (lv_room (Nat.le_of_ble_eq_true rfl)) dX8_bySteps_9 ⟨Nat.le_of_ble_eq_true rfl, Nat.le_of_ble_eq_true rfl⟩) hP hD hS hA [0, 1] rfl (fun _ _ ⟨_, h9⟩ => h9) (fun r7 H locs hw8 hP hD hS => ?_)
  obtain ⟨rfl, -⟩ := hw8
  refine lv_l2i hx hb dX8_bySteps_12 rfl ?_
  refine lv_topi (fun v9 ev9 => ?_)
  obtain rfl : v9 = nI (sm (fun k => min (c0 k) z3) 8) := by rw [ev9]; exact lN_i _
  refine lv_isub hx hb dX8_bySteps_13 ?_
  refine lv_topi (fun v10 ev10 => ?_)
  obtain rfl : v10 = nI (du - sm (fun k => min (c0 k) z3) 8) := by rw [ev10]; exact pk_sub (by omega)
  refine lv_istore_n (lv' := [(3, .int (nI (du - sm (fun k => min (c0 k) z3) 8))), (2, .int (nI z3)), (0, .ref g), (1, .int (nI du))]) hx hb dX8_bySteps_14 rfl hl (by decide) rfl (fun ls hl => ?_)
  refine lv_iconst (v := 0) hx hb dX8_bySteps_15 (by decide) ?_
  refine lv_istore (lv' := [(4, .int 0), (3, .int (nI (du - sm (fun k => min (c0 k) z3) 8))), (2, .int (nI z3)), (0, .ref g), (1, .int (nI du))]) hx hb dX8_bySteps_16 hl (by decide) rfl (fun ls hl => ?_)
  have J18 : ∀ (zz : Nat) (i18 h3_18 : Nat) (a_g36_18 : Nat → Int32), (i18 ≤ 8) → (BS a_g36_18 c0 z3 (du - sm (fun k => min (c0 k) z3) 8) i18 h3_18) → (h3_18 ≤ 100000000) → (8 - i18) < zz → ∀ (H : Heap) (locs : List Loc) (ls : Array Slot), va_P D vwCl [(oX8 g gi0 (nI mn) g2 g3 g4 g5 g6 g7 g8 g9 g10 (nI ml) g12 g13 gi14 g15 g16 g17 gi18 g19 g20 g21 g22 g23 g24 g25 g26 g27 g28 gi29 gi30 (nI mv) gi32 g33 g34 g35 g36 g37 g38 g39 gi40 g41 g42 gi43 g44 g45), (aIc cI g35 8 G35), (aIc cI g36 8 a_g36_18)] H → va_D A [(oX8 g gi0 (nI mn) g2 g3 g4 g5 g6 g7 g8 g9 g10 (nI ml) g12 g13 gi14 g15 g16 g17 gi18 g19 g20 g21 g22 g23 g24 g25 g26 g27 g28 gi29 gi30 (nI mv) gi32 g33 g34 g35 g36 g37 g38 g39 gi40 g41 g42 gi43 g44 g45), (aIc cI g35 8 G35), (aIc cI g36 8 a_g36_18)] → va_S A s.heap H locs → lv_has ls 6 [(4, .int (nI i18)), (3, .int (nI h3_18)), (2, .int (nI z3)), (0, .ref g), (1, .int (nI du))] → W p l e { frames := 3, cells := 0, slots := 0, locals := 69 } s m [.ref g, .int (nI du)].toArray below meth c H locs 0 0 (MQ below (cQv D (fun u => ∃ (G36p : Nat → Int32), (∃ pt : Nat → Nat, nv G36p pt ∧ sm pt 8 = du ∧ ∀ k, k < 8 → pt k ≤ c0 k) ∧ u = [(oX8 g gi0 (nI mn) g2 g3 g4 g5 g6 g7 g8 g9 g10 (nI ml) g12 g13 gi14 g15 g16 g17 gi18 g19 g20 g21 g22 g23 g24 g25 g26 g27 g28 gi29 gi30 (nI mv) gi32 g33 g34 g35 g36 g37 g38 g39 gi40 g41 g42 gi43 g44 g45), (aIc cI g35 8 G35), (aIc cI g36 8 G36p)]) A) [.ref g, .int (nI du)].toArray s 0 0 A) (F0 m 18 ls []) := by
    intro zz
    induction zz with
    | zero => intro i18 h3_18 a_g36_18 _ _ _; exact fun h => absurd h (Nat.not_lt_zero _)
    | succ zz ih18 =>
      intro i18 h3_18 a_g36_18 hc4_18 hbs_18 hov_18 hmu18 H locs ls hP hD hS hl
      refine lv_iload hx hb dX8_bySteps_18 (lv_at hl 0 rfl) ?_
      refine lv_bipush (v := 8) hx hb dX8_bySteps_20 (by decide) ?_
      refine lv_icmp_ge (tgt := 95) hx hb dX8_bySteps_22 (by decide) (fun c11 => ?_) (fun c11 => ?_)
      · skip
        have nc11 : 8 ≤ i18 := (nI_leI (a := 8) (b := i18) (by omega) (by omega)).mp c11
        refine k_vret (u := [(oX8 g gi0 (nI mn) g2 g3 g4 g5 g6 g7 g8 g9 g10 (nI ml) g12 g13 gi14 g15 g16 g17 gi18 g19 g20 g21 g22 g23 g24 g25 g26 g27 g28 gi29 gi30 (nI mv) gi32 g33 g34 g35 g36 g37 g38 g39 gi40 g41 g42 gi43 g44 g45), (aIc cI g35 8 G35), (aIc cI g36 8 a_g36_18)]) hx hb hr hlk hP hD hS dX8_bySteps_95 ?_
        exact ⟨a_g36_18, (bs_end (by obtain rfl : i18 = 8 := (by omega); exact hbs_18) hz5 hsum hz6), rfl⟩
      · skip
        have nc11 : ¬ 8 ≤ i18 := fun q9 => c11 ((nI_leI (a := 8) (b := i18) (by omega) (by omega)).mpr q9)
        refine lv_aload_n hx hb dX8_bySteps_25 rfl (lv_at hl 3 rfl) ?_
        refine va_get (D := D) (ci := 8) (v := .ref g35) (C := RX8) (T := TX8) (N := 46) hx hb hts hiX8 hown hE.1 hP 0 rfl rfl 35 (by decide) (hts _ (List.mem_cons_of_mem _ wd_142)) (fun _ h9 => h9) rfl dX8_bySteps_26 ?_
        refine lv_iload hx hb dX8_bySteps_29 (lv_at hl 0 rfl) ?_
        refine va_iald hx hb hE.1 hP 1 0 rfl rfl (vp_in_nI (n := i18) (by omega) (by decide)) dX8_bySteps_31 ?_
        refine lv_topi (fun v12 ev12 => ?_)
        have hcb_ := hcb i18 (by omega)
        obtain rfl : v12 = nI (c0 i18) := ev12.trans (nv_at hcv (by omega))
        refine lv_iload_n hx hb dX8_bySteps_32 rfl (lv_at hl 2 rfl) ?_
        refine lv_icmp_le (tgt := 44) hx hb dX8_bySteps_33 (by decide) (fun c13 => ?_) (fun c13 => ?_)
        · skip
          have nc13 : c0 i18 ≤ z3 := (nI_leI (a := (c0 i18)) (b := z3) (by omega) (by omega)).mp c13
          refine lv_iconst (v := 0) hx hb dX8_bySteps_44 (by decide) ?_
          refine lv_istore (lv' := [(5, .int 0), (4, .int (nI i18)), (3, .int (nI h3_18)), (2, .int (nI z3)), (0, .ref g), (1, .int (nI du))]) hx hb dX8_bySteps_45 hl (by decide) rfl (fun ls hl => ?_)
          refine lv_aload_n hx hb dX8_bySteps_47 rfl (lv_at hl 4 rfl) ?_
          refine va_get (D := D) (ci := 8) (v := .ref g36) (C := RX8) (T := TX8) (N := 46) hx hb hts hiX8 hown hE.1 hP 0 rfl rfl 36 (by decide) (hts _ (List.mem_cons_of_mem _ wd_143)) (fun _ h9 => h9) rfl dX8_bySteps_48 ?_
          refine lv_iload hx hb dX8_bySteps_51 (lv_at hl 1 rfl) ?_
          refine lv_aload_n hx hb dX8_bySteps_53 rfl (lv_at hl 4 rfl) ?_
          refine va_get (D := D) (ci := 8) (v := .ref g35) (C := RX8) (T := TX8) (N := 46) hx hb hts hiX8 hown hE.1 hP 0 rfl rfl 35 (by decide) (hts _ (List.mem_cons_of_mem _ wd_142)) (fun _ h9 => h9) rfl dX8_bySteps_54 ?_
          refine lv_iload hx hb dX8_bySteps_57 (lv_at hl 1 rfl) ?_
          refine va_iald hx hb hE.1 hP 1 0 rfl rfl (vp_in_nI (n := i18) (by omega) (by decide)) dX8_bySteps_59 ?_
          refine lv_topi (fun v14 ev14 => ?_)
          have hcb_ := hcb i18 (by omega)
          obtain rfl : v14 = nI (c0 i18) := ev14.trans (nv_at hcv (by omega))
          refine lv_iload_n hx hb dX8_bySteps_60 rfl (lv_at hl 3 rfl) ?_
          refine k_iS (va_runS (As := [.int (nI (c0 i18)), .int (nI z3)]) (rest := [.int (nI i18), .ref g36]) ⟨hx, hb, hml, hown, hts⟩ (m_X8_least l D cI cJ H.size (c0 i18) z3 (by omega) (by omega)) (va_cwS 2 hts gX8_bySteps_X8_least rfl rfl rfl (by decide +kernel) ⟨Nat.le_of_ble_eq_true rfl, Nat.le_of_ble_eq_true rfl⟩) (k_pre hE hP hD [] (by decide +kernel) rfl) rfl rfl hl.1 rfl (lv_room (Nat.le_of_ble_eq_true rfl)) dX8_bySteps_61 ⟨Nat.le_of_ble_eq_true rfl, Nat.le_of_ble_eq_true rfl⟩) hP hD hS hA [] rfl (fun _ _ ⟨_, h9⟩ => h9) (fun r15 H locs hw16 hP hD hS => ?_)
          obtain ⟨rfl, -⟩ := hw16
          refine lv_iload hx hb dX8_bySteps_64 (lv_at hl 0 rfl) ?_
          refine lv_if_eq (tgt := 73) hx hb dX8_bySteps_66 (by decide) (fun _ => ?_) (fun c17 => absurd (by decide) c17)
          refine lv_iconst (v := 0) hx hb dX8_bySteps_73 (by decide) ?_
          refine lv_iadd hx hb dX8_bySteps_74 ?_
          refine lv_topi (fun v18 ev18 => ?_)
          obtain rfl : v18 = (nI (min (c0 i18) z3)) := by rw [ev18]; exact nI_add (min (c0 i18) z3) 0
          refine va_iast hx hb hE.1 hP hD hS 2 0 rfl rfl (vp_in_nI (n := i18) (by omega) (by decide)) dX8_bySteps_75 (fun H locs hP hD hS => ?_)
          refine k_re (w := [(oX8 g gi0 (nI mn) g2 g3 g4 g5 g6 g7 g8 g9 g10 (nI ml) g12 g13 gi14 g15 g16 g17 gi18 g19 g20 g21 g22 g23 g24 g25 g26 g27 g28 gi29 gi30 (nI mv) gi32 g33 g34 g35 g36 g37 g38 g39 gi40 g41 g42 gi43 g44 g45), (aIc cI g35 8 G35), (aIc cI g36 8 (upd a_g36_18 (Int32.toNatClampNeg (nI i18)) (nI (min (c0 i18) z3))))]) hP hD (fun hP hD => ?_)
          refine lv_iload_n hx hb dX8_bySteps_76 rfl (lv_at hl 2 rfl) ?_
          refine lv_iload hx hb dX8_bySteps_77 (lv_at hl 0 rfl) ?_
          refine lv_if_eq (tgt := 86) hx hb dX8_bySteps_79 (by decide) (fun _ => ?_) (fun c19 => absurd (by decide) c19)
          refine lv_iconst (v := 0) hx hb dX8_bySteps_86 (by decide) ?_
          refine lv_isub hx hb dX8_bySteps_87 ?_
          refine lv_topi (fun v20 ev20 => ?_)
          obtain rfl : v20 = nI (h3_18 - 0) := by rw [ev20]; exact pk_sub (a := h3_18) (b := 0) (by omega)
          refine lv_istore_n (lv' := [(3, .int (nI (h3_18 - 0))), (5, .int 0), (4, .int (nI i18)), (2, .int (nI z3)), (0, .ref g), (1, .int (nI du))]) hx hb dX8_bySteps_88 rfl hl (by decide) rfl (fun ls hl => ?_)
          refine lv_iinc (v := (nI (i18 + 1))) (lv' := [(4, .int (nI (i18 + 1))), (3, .int (nI (h3_18 - 0))), (5, .int 0), (2, .int (nI z3)), (0, .ref g), (1, .int (nI du))]) hx hb dX8_bySteps_89 hl (k := 2) rfl (nI_1 _) (by decide) rfl (fun ls hl => ?_)
          refine lv_goto (tgt := 18) hx hb dX8_bySteps_92 (by decide) ?_
          exact ih18 (i18 + 1) (h3_18 - 0) (upd a_g36_18 (Int32.toNatClampNeg (nI i18)) (nI (min (c0 i18) z3))) (by omega) (bs_step (by omega) hbs_18 (min (c0 i18) z3) 0 rfl (by decide) (fun q => absurd q (by decide)) (fun _ => by omega)) (by omega) (by omega) _ _ _ hP hD hS (lv_sub hl [0, 1, 3, 4, 5] rfl)
        · skip
          have nc13 : ¬ c0 i18 ≤ z3 := fun q9 => c13 ((nI_leI (a := (c0 i18)) (b := z3) (by omega) (by omega)).mpr q9)
          refine lv_iload_n hx hb dX8_bySteps_36 rfl (lv_at hl 1 rfl) ?_
          refine lv_if_le (tgt := 44) hx hb dX8_bySteps_37 (by decide) (fun c21 => ?_) (fun c21 => ?_)
          · skip
            have nc21 : h3_18 ≤ 0 := (nI_leI (a := h3_18) (b := 0) (by omega) (by omega)).mp c21
            refine lv_iconst (v := 0) hx hb dX8_bySteps_44 (by decide) ?_
            refine lv_istore (lv' := [(5, .int 0), (4, .int (nI i18)), (3, .int (nI h3_18)), (2, .int (nI z3)), (0, .ref g), (1, .int (nI du))]) hx hb dX8_bySteps_45 hl (by decide) rfl (fun ls hl => ?_)
            refine lv_aload_n hx hb dX8_bySteps_47 rfl (lv_at hl 4 rfl) ?_
            refine va_get (D := D) (ci := 8) (v := .ref g36) (C := RX8) (T := TX8) (N := 46) hx hb hts hiX8 hown hE.1 hP 0 rfl rfl 36 (by decide) (hts _ (List.mem_cons_of_mem _ wd_143)) (fun _ h9 => h9) rfl dX8_bySteps_48 ?_
            refine lv_iload hx hb dX8_bySteps_51 (lv_at hl 1 rfl) ?_
            refine lv_aload_n hx hb dX8_bySteps_53 rfl (lv_at hl 4 rfl) ?_
            refine va_get (D := D) (ci := 8) (v := .ref g35) (C := RX8) (T := TX8) (N := 46) hx hb hts hiX8 hown hE.1 hP 0 rfl rfl 35 (by decide) (hts _ (List.mem_cons_of_mem _ wd_142)) (fun _ h9 => h9) rfl dX8_bySteps_54 ?_
            refine lv_iload hx hb dX8_bySteps_57 (lv_at hl 1 rfl) ?_
            refine va_iald hx hb hE.1 hP 1 0 rfl rfl (vp_in_nI (n := i18) (by omega) (by decide)) dX8_bySteps_59 ?_
            refine lv_topi (fun v22 ev22 => ?_)
            have hcb_ := hcb i18 (by omega)
            obtain rfl : v22 = nI (c0 i18) := ev22.trans (nv_at hcv (by omega))
            refine lv_iload_n hx hb dX8_bySteps_60 rfl (lv_at hl 3 rfl) ?_
            refine k_iS (va_runS (As := [.int (nI (c0 i18)), .int (nI z3)]) (rest := [.int (nI i18), .ref g36]) ⟨hx, hb, hml, hown, hts⟩ (m_X8_least l D cI cJ H.size (c0 i18) z3 (by omega) (by omega)) (va_cwS 2 hts gX8_bySteps_X8_least rfl rfl rfl (by decide +kernel) ⟨Nat.le_of_ble_eq_true rfl, Nat.le_of_ble_eq_true rfl⟩) (k_pre hE hP hD [] (by decide +kernel) rfl) rfl rfl hl.1 rfl (lv_room (Nat.le_of_ble_eq_true rfl)) dX8_bySteps_61 ⟨Nat.le_of_ble_eq_true rfl, Nat.le_of_ble_eq_true rfl⟩) hP hD hS hA [] rfl (fun _ _ ⟨_, h9⟩ => h9) (fun r23 H locs hw24 hP hD hS => ?_)
            obtain ⟨rfl, -⟩ := hw24
            refine lv_iload hx hb dX8_bySteps_64 (lv_at hl 0 rfl) ?_
            refine lv_if_eq (tgt := 73) hx hb dX8_bySteps_66 (by decide) (fun _ => ?_) (fun c25 => absurd (by decide) c25)
            refine lv_iconst (v := 0) hx hb dX8_bySteps_73 (by decide) ?_
            refine lv_iadd hx hb dX8_bySteps_74 ?_
            refine lv_topi (fun v26 ev26 => ?_)
            obtain rfl : v26 = (nI (min (c0 i18) z3)) := by rw [ev26]; exact nI_add (min (c0 i18) z3) 0
            refine va_iast hx hb hE.1 hP hD hS 2 0 rfl rfl (vp_in_nI (n := i18) (by omega) (by decide)) dX8_bySteps_75 (fun H locs hP hD hS => ?_)
            refine k_re (w := [(oX8 g gi0 (nI mn) g2 g3 g4 g5 g6 g7 g8 g9 g10 (nI ml) g12 g13 gi14 g15 g16 g17 gi18 g19 g20 g21 g22 g23 g24 g25 g26 g27 g28 gi29 gi30 (nI mv) gi32 g33 g34 g35 g36 g37 g38 g39 gi40 g41 g42 gi43 g44 g45), (aIc cI g35 8 G35), (aIc cI g36 8 (upd a_g36_18 (Int32.toNatClampNeg (nI i18)) (nI (min (c0 i18) z3))))]) hP hD (fun hP hD => ?_)
            refine lv_iload_n hx hb dX8_bySteps_76 rfl (lv_at hl 2 rfl) ?_
            refine lv_iload hx hb dX8_bySteps_77 (lv_at hl 0 rfl) ?_
            refine lv_if_eq (tgt := 86) hx hb dX8_bySteps_79 (by decide) (fun _ => ?_) (fun c27 => absurd (by decide) c27)
            refine lv_iconst (v := 0) hx hb dX8_bySteps_86 (by decide) ?_
            refine lv_isub hx hb dX8_bySteps_87 ?_
            refine lv_topi (fun v28 ev28 => ?_)
            obtain rfl : v28 = nI (h3_18 - 0) := by rw [ev28]; exact pk_sub (a := h3_18) (b := 0) (by omega)
            refine lv_istore_n (lv' := [(3, .int (nI (h3_18 - 0))), (5, .int 0), (4, .int (nI i18)), (2, .int (nI z3)), (0, .ref g), (1, .int (nI du))]) hx hb dX8_bySteps_88 rfl hl (by decide) rfl (fun ls hl => ?_)
            refine lv_iinc (v := (nI (i18 + 1))) (lv' := [(4, .int (nI (i18 + 1))), (3, .int (nI (h3_18 - 0))), (5, .int 0), (2, .int (nI z3)), (0, .ref g), (1, .int (nI du))]) hx hb dX8_bySteps_89 hl (k := 2) rfl (nI_1 _) (by decide) rfl (fun ls hl => ?_)
            refine lv_goto (tgt := 18) hx hb dX8_bySteps_92 (by decide) ?_
            exact ih18 (i18 + 1) (h3_18 - 0) (upd a_g36_18 (Int32.toNatClampNeg (nI i18)) (nI (min (c0 i18) z3))) (by omega) (bs_step (by omega) hbs_18 (min (c0 i18) z3) 0 rfl (by decide) (fun q => absurd q (by decide)) (fun _ => by omega)) (by omega) (by omega) _ _ _ hP hD hS (lv_sub hl [0, 1, 3, 4, 5] rfl)
          · skip
            have nc21 : ¬ h3_18 ≤ 0 := fun q9 => c21 ((nI_leI (a := h3_18) (b := 0) (by omega) (by omega)).mpr q9)
            refine lv_iconst (v := 1) hx hb dX8_bySteps_40 (by decide) ?_
            refine lv_goto (tgt := 45) hx hb dX8_bySteps_41 (by decide) ?_
            refine lv_istore (lv' := [(5, .int 1), (4, .int (nI i18)), (3, .int (nI h3_18)), (2, .int (nI z3)), (0, .ref g), (1, .int (nI du))]) hx hb dX8_bySteps_45 hl (by decide) rfl (fun ls hl => ?_)
            refine lv_aload_n hx hb dX8_bySteps_47 rfl (lv_at hl 4 rfl) ?_
            refine va_get (D := D) (ci := 8) (v := .ref g36) (C := RX8) (T := TX8) (N := 46) hx hb hts hiX8 hown hE.1 hP 0 rfl rfl 36 (by decide) (hts _ (List.mem_cons_of_mem _ wd_143)) (fun _ h9 => h9) rfl dX8_bySteps_48 ?_
            refine lv_iload hx hb dX8_bySteps_51 (lv_at hl 1 rfl) ?_
            refine lv_aload_n hx hb dX8_bySteps_53 rfl (lv_at hl 4 rfl) ?_
            refine va_get (D := D) (ci := 8) (v := .ref g35) (C := RX8) (T := TX8) (N := 46) hx hb hts hiX8 hown hE.1 hP 0 rfl rfl 35 (by decide) (hts _ (List.mem_cons_of_mem _ wd_142)) (fun _ h9 => h9) rfl dX8_bySteps_54 ?_
            refine lv_iload hx hb dX8_bySteps_57 (lv_at hl 1 rfl) ?_
            refine va_iald hx hb hE.1 hP 1 0 rfl rfl (vp_in_nI (n := i18) (by omega) (by decide)) dX8_bySteps_59 ?_
            refine lv_topi (fun v29 ev29 => ?_)
            have hcb_ := hcb i18 (by omega)
            obtain rfl : v29 = nI (c0 i18) := ev29.trans (nv_at hcv (by omega))
            refine lv_iload_n hx hb dX8_bySteps_60 rfl (lv_at hl 3 rfl) ?_
            refine k_iS (va_runS (As := [.int (nI (c0 i18)), .int (nI z3)]) (rest := [.int (nI i18), .ref g36]) ⟨hx, hb, hml, hown, hts⟩ (m_X8_least l D cI cJ H.size (c0 i18) z3 (by omega) (by omega)) (va_cwS 2 hts gX8_bySteps_X8_least rfl rfl rfl (by decide +kernel) ⟨Nat.le_of_ble_eq_true rfl, Nat.le_of_ble_eq_true rfl⟩) (k_pre hE hP hD [] (by decide +kernel) rfl) rfl rfl hl.1 rfl (lv_room (Nat.le_of_ble_eq_true rfl)) dX8_bySteps_61 ⟨Nat.le_of_ble_eq_true rfl, Nat.le_of_ble_eq_true rfl⟩) hP hD hS hA [] rfl (fun _ _ ⟨_, h9⟩ => h9) (fun r30 H locs hw31 hP hD hS => ?_)
            obtain ⟨rfl, -⟩ := hw31
            refine lv_iload hx hb dX8_bySteps_64 (lv_at hl 0 rfl) ?_
            refine lv_if_eq (tgt := 73) hx hb dX8_bySteps_66 (by decide) (fun c32 => absurd c32 (by decide)) (fun _ => ?_)
            refine lv_iconst (v := 1) hx hb dX8_bySteps_69 (by decide) ?_
            refine lv_goto (tgt := 74) hx hb dX8_bySteps_70 (by decide) ?_
            refine lv_iadd hx hb dX8_bySteps_74 ?_
            refine lv_topi (fun v33 ev33 => ?_)
            obtain rfl : v33 = (nI ((min (c0 i18) z3) + 1)) := by rw [ev33]; exact nI_add (min (c0 i18) z3) 1
            refine va_iast hx hb hE.1 hP hD hS 2 0 rfl rfl (vp_in_nI (n := i18) (by omega) (by decide)) dX8_bySteps_75 (fun H locs hP hD hS => ?_)
            refine k_re (w := [(oX8 g gi0 (nI mn) g2 g3 g4 g5 g6 g7 g8 g9 g10 (nI ml) g12 g13 gi14 g15 g16 g17 gi18 g19 g20 g21 g22 g23 g24 g25 g26 g27 g28 gi29 gi30 (nI mv) gi32 g33 g34 g35 g36 g37 g38 g39 gi40 g41 g42 gi43 g44 g45), (aIc cI g35 8 G35), (aIc cI g36 8 (upd a_g36_18 (Int32.toNatClampNeg (nI i18)) (nI ((min (c0 i18) z3) + 1))))]) hP hD (fun hP hD => ?_)
            refine lv_iload_n hx hb dX8_bySteps_76 rfl (lv_at hl 2 rfl) ?_
            refine lv_iload hx hb dX8_bySteps_77 (lv_at hl 0 rfl) ?_
            refine lv_if_eq (tgt := 86) hx hb dX8_bySteps_79 (by decide) (fun c34 => absurd c34 (by decide)) (fun _ => ?_)
            refine lv_iconst (v := 1) hx hb dX8_bySteps_82 (by decide) ?_
            refine lv_goto (tgt := 87) hx hb dX8_bySteps_83 (by decide) ?_
            refine lv_isub hx hb dX8_bySteps_87 ?_
            refine lv_topi (fun v35 ev35 => ?_)
            obtain rfl : v35 = nI (h3_18 - 1) := by rw [ev35]; exact pk_sub (a := h3_18) (b := 1) (by omega)
            refine lv_istore_n (lv' := [(3, .int (nI (h3_18 - 1))), (5, .int 1), (4, .int (nI i18)), (2, .int (nI z3)), (0, .ref g), (1, .int (nI du))]) hx hb dX8_bySteps_88 rfl hl (by decide) rfl (fun ls hl => ?_)
            refine lv_iinc (v := (nI (i18 + 1))) (lv' := [(4, .int (nI (i18 + 1))), (3, .int (nI (h3_18 - 1))), (5, .int 1), (2, .int (nI z3)), (0, .ref g), (1, .int (nI du))]) hx hb dX8_bySteps_89 hl (k := 2) rfl (nI_1 _) (by decide) rfl (fun ls hl => ?_)
            refine lv_goto (tgt := 18) hx hb dX8_bySteps_92 (by decide) ?_
            exact ih18 (i18 + 1) (h3_18 - 1) (upd a_g36_18 (Int32.toNatClampNeg (nI i18)) (nI ((min (c0 i18) z3) + 1))) (by omega) (bs_step (by omega) hbs_18 (min (c0 i18) z3 + 1) 1 rfl (by decide) (fun _ => ⟨by omega, by omega⟩) (fun q => absurd q (by decide))) (by omega) (by omega) _ _ _ hP hD hS (lv_sub hl [0, 1, 3, 4, 5] rfl)
  exact J18 _ 0 (du - sm (fun k => min (c0 k) z3) 8) G36 (by omega) bs_0 (by omega) (Nat.lt_succ_self _) _ _ _ hP hD hS (lv_sub hl [0, 1, 2, 3, 4] rfl)

