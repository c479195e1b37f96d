theorem dX7_sub_0 : decode cX7_sub 0 = .ok (.aload_n 0, 1) := by decide +kernel
theorem dX7_sub_1 : decode cX7_sub 1 = .ok (.iload_n 1, 1) := by decide +kernel
theorem dX7_sub_2 : decode cX7_sub 2 = .ok (.invokevirtual 74, 3) := by decide +kernel
theorem dX7_sub_5 : decode cX7_sub 5 = .ok (.ifCond .eq 44, 3) := by decide +kernel
theorem dX7_sub_8 : decode cX7_sub 8 = .ok (.iload_n 2, 1) := by decide +kernel
theorem dX7_sub_9 : decode cX7_sub 9 = .ok (.invokestatic 91, 3) := by decide +kernel
theorem dX7_sub_12 : decode cX7_sub 12 = .ok (.ifCond .eq 37, 3) := by decide +kernel
theorem dX7_sub_15 : decode cX7_sub 15 = .ok (.iload_n 3, 1) := by decide +kernel
theorem dX7_sub_16 : decode cX7_sub 16 = .ok (.iconst (-1), 1) := by decide +kernel
theorem dX7_sub_17 : decode cX7_sub 17 = .ok (.ldc 46, 2) := by decide +kernel
theorem dX7_sub_19 : decode cX7_sub 19 = .ok (.invokestatic 47, 3) := by decide +kernel
theorem dX7_sub_22 : decode cX7_sub 22 = .ok (.ifCond .eq 27, 3) := by decide +kernel
theorem dX7_sub_25 : decode cX7_sub 25 = .ok (.aload_n 0, 1) := by decide +kernel
theorem dX7_sub_26 : decode cX7_sub 26 = .ok (.getfield 20, 3) := by decide +kernel
theorem dX7_sub_29 : decode cX7_sub 29 = .ok (.getfield 94, 3) := by decide +kernel
theorem dX7_sub_32 : decode cX7_sub 32 = .ok (.iload_n 1, 1) := by decide +kernel
theorem dX7_sub_33 : decode cX7_sub 33 = .ok (.bipush 8, 2) := by decide +kernel
theorem dX7_sub_35 : decode cX7_sub 35 = .ok (.imul, 1) := by decide +kernel
theorem dX7_sub_36 : decode cX7_sub 36 = .ok (.iload_n 2, 1) := by decide +kernel
theorem dX7_sub_37 : decode cX7_sub 37 = .ok (.iadd, 1) := by decide +kernel
theorem dX7_sub_38 : decode cX7_sub 38 = .ok (.iload_n 3, 1) := by decide +kernel
theorem dX7_sub_39 : decode cX7_sub 39 = .ok (.invokestatic 87, 3) := by decide +kernel
theorem dX7_sub_42 : decode cX7_sub 42 = .ok (.ifCond .eq 7, 3) := by decide +kernel
theorem dX7_sub_45 : decode cX7_sub 45 = .ok (.iconst 1, 1) := by decide +kernel
theorem dX7_sub_46 : decode cX7_sub 46 = .ok (.goto 4, 3) := by decide +kernel
theorem dX7_sub_49 : decode cX7_sub 49 = .ok (.iconst 0, 1) := by decide +kernel
theorem dX7_sub_50 : decode cX7_sub 50 = .ok (.ireturn, 1) := by decide +kernel
theorem gX7_sub_X7_changed : GoodIn wtX7_sub (va_wsS RX7 87 yX7_changed wtX7_changed) := tb_good (tb_s0 wd_206 wd_207 wd_2 wd_208)
theorem gX7_sub_X7_isItem : GoodIn wtX7_sub (va_wsS RX7 91 yX7_isItem wtX7_isItem) := tb_good (tb_s0 wd_218 wd_219 wd_2 wd_220)
theorem gX7_sub_X7_isPolicy : GoodIn wtX7_sub (wsV RX7 74 RX7 yX7_isPolicy wtX7_isPolicy) := tb_good (tb_v0 wd_186 wd_187 wd_188 wd_2 wd_189)
theorem gX7_sub_X7_within : GoodIn wtX7_sub (va_wsS RX7 47 yX7_within wtX7_within) := tb_good (tb_s0 wd_164 wd_165 wd_2 wd_166)
set_option maxHeartbeats 4000000 in
set_option maxRecDepth 100000 in
theorem m_X7_sub (l : Launch) (D : va_G) (cI cJ : ClassId) (sz : Nat) (x x0 x1 x2 x3 x4 x5 b0 b1 b2 b3 b4 b5 b6 b7 b8 b9 b10 b11 np nl : Nat) (bi14 p0 p1 p2 : Int32) (B8 : Nat → Int32) (hnp : np ≤ 8) : Met l yX7_sub wtX7_sub { frames := 2, cells := 0, slots := 0, locals := 43 } (cPc D cI cJ [.ref x, .int p0, .int p1, .int p2] sz [(oX7 x x0 x1 x2 x3 x4 x5), (oX0 x0 b0 b1 b2 b3 b4 b5 b6 b7 b8 b9 b10 b11 (nI np) (nI nl) bi14), (aIc cI b8 64 B8)]) (cQi D (fun r u => (((0 ≤ p0 ∧ p0 ≤ nI np - 1) ∧ (0 ≤ p1 ∧ p1 ≤ 7) ∧ ((-1) ≤ p2 ∧ p2 ≤ 1000000) ∧ ¬ B8 (Int32.toNatClampNeg ((p0 * 8) + p1)) = p2) ∧ r = 1 ∧ u = [(oX7 x x0 x1 x2 x3 x4 x5), (oX0 x0 b0 b1 b2 b3 b4 b5 b6 b7 b8 b9 b10 b11 (nI np) (nI nl) bi14), (aIc cI b8 64 (upd B8 (Int32.toNatClampNeg ((p0 * 8) + p1)) p2))]) ∨ ((¬ ((0 ≤ p0 ∧ p0 ≤ nI np - 1) ∧ (0 ≤ p1 ∧ p1 ≤ 7) ∧ ((-1) ≤ p2 ∧ p2 ≤ 1000000) ∧ ¬ B8 (Int32.toNatClampNeg ((p0 * 8) + p1)) = p2)) ∧ r = 0 ∧ u = [(oX7 x x0 x1 x2 x3 x4 x5), (oX0 x0 b0 b1 b2 b3 b4 b5 b6 b7 b8 b9 b10 b11 (nI np) (nI nl) bi14), (aIc cI b8 64 B8)])) (va_A [(oX7 x x0 x1 x2 x3 x4 x5), (oX0 x0 b0 b1 b2 b3 b4 b5 b6 b7 b8 b9 b10 b11 (nI np) (nI nl) bi14), (aIc cI b8 64 B8)] sz)) 0 0 (va_A [(oX7 x x0 x1 x2 x3 x4 x5), (oX0 x0 b0 b1 b2 b3 b4 b5 b6 b7 b8 b9 b10 b11 (nI np) (nI nl) bi14), (aIc cI b8 64 B8)] sz) := by
  refine k_ofW (Qc := cQi D (fun r u => (((0 ≤ p0 ∧ p0 ≤ nI np - 1) ∧ (0 ≤ p1 ∧ p1 ≤ 7) ∧ ((-1) ≤ p2 ∧ p2 ≤ 1000000) ∧ ¬ B8 (Int32.toNatClampNeg ((p0 * 8) + p1)) = p2) ∧ r = 1 ∧ u = [(oX7 x x0 x1 x2 x3 x4 x5), (oX0 x0 b0 b1 b2 b3 b4 b5 b6 b7 b8 b9 b10 b11 (nI np) (nI nl) bi14), (aIc cI b8 64 (upd B8 (Int32.toNatClampNeg ((p0 * 8) + p1)) p2))]) ∨ ((¬ ((0 ≤ p0 ∧ p0 ≤ nI np - 1) ∧ (0 ≤ p1 ∧ p1 ≤ 7) ∧ ((-1) ≤ p2 ∧ p2 ≤ 1000000) ∧ ¬ B8 (Int32.toNatClampNeg ((p0 * 8) + p1)) = p2)) ∧ r = 0 ∧ u = [(oX7 x x0 x1 x2 x3 x4 x5), (oX0 x0 b0 b1 b2 b3 b4 b5 b6 b7 b8 b9 b10 b11 (nI np) (nI nl) bi14), (aIc cI b8 64 B8)]))) (by decide) rfl (Nat.le_of_ble_eq_true rfl) ?_
  intro p e s m below meth c A ls hx hb hr hml hts hown hlk hnm hsz hE hP hD hS hA hl
  have hown : s.vm.findClass RX7 = some m.cls := hown
  have hiX7 : ∀ w ∈ u_ws RX7 TX7 6, w ∈ wtX7_sub := fun w h => List.mem_cons_of_mem _ (iuX7 w h)
  have hiX0 : ∀ w ∈ u_ws RX0 TX0 15, w ∈ wtX7_sub := fun w h => List.mem_cons_of_mem _ (iuX0 w h)
  have hl : lv_has ls 4 [(0, .ref x), (1, .int p0), (2, .int p1), (3, .int p2)] := hl
  refine lv_aload_n hx hb dX7_sub_0 rfl (lv_at hl 0 rfl) ?_
  refine lv_iload_n hx hb dX7_sub_1 rfl (lv_at hl 1 rfl) ?_
  refine k_iS (va_runV (As := [.int p0]) (rest := []) ⟨hx, hb, hml, hown, hts⟩ (m_X7_isPolicy l D cI cJ (s.heap).size x x0 x1 x2 x3 x4 x5 b0 b1 b2 b3 b4 b5 b6 b7 b8 b9 b10 b11 (nI np) (nI nl) bi14 p0) (cwV 1 hts gX7_sub_X7_isPolicy rfl rfl rfl (by decide +kernel) ⟨Nat.le_of_ble_eq_true rfl, Nat.le_of_ble_eq_true rfl⟩) (k_preV hE hP hD [0, 1] (by decide +kernel) rfl 0 rfl rfl) rfl rfl hl.1 rfl (lv_room (Nat.le_of_ble_eq_true rfl)) dX7_sub_2 ⟨Nat.le_of_ble_eq_true rfl, Nat.le_of_ble_eq_true rfl⟩) hP hD hS hA [0, 1] rfl (fun _ _ h9 => h9.2) (fun r1 H locs hw2 hP hD hS => ?_)
  obtain ⟨hw2, -⟩ := hw2
  refine lv_if_eq (tgt := 49) hx hb dX7_sub_5 (by decide) (fun c3 => ?_) (fun c3 => ?_)
  · skip
    have hc3 : ¬ (0 ≤ p0 ∧ p0 ≤ (nI np) - 1) := bz_0 hw2 c3
    refine lv_iconst (v := 0) hx hb dX7_sub_49 (by decide) ?_
    refine k_zret (u := [(oX7 x x0 x1 x2 x3 x4 x5), (oX0 x0 b0 b1 b2 b3 b4 b5 b6 b7 b8 b9 b10 b11 (nI np) (nI nl) bi14), (aIc cI b8 64 B8)]) hx hb hr (by decide) hlk hP hD hS dX7_sub_50 ?_
    exact Or.inr ⟨(fun q => hc3 q.1), rfl, rfl⟩
  · skip
    have hc3 : 0 ≤ p0 ∧ p0 ≤ (nI np) - 1 := bz_1 hw2 c3
    refine lv_iload_n hx hb dX7_sub_8 rfl (lv_at hl 2 rfl) ?_
    refine k_iS (va_runS (As := [.int p1]) (rest := []) ⟨hx, hb, hml, hown, hts⟩ (m_X7_isItem l D cI cJ H.size p1) (va_cwS 1 hts gX7_sub_X7_isItem rfl rfl rfl (by decide +kernel) ⟨Nat.le_of_ble_eq_true rfl, Nat.le_of_ble_eq_true rfl⟩) (k_pre hE hP hD [] (by decide +kernel) rfl) rfl rfl hl.1 rfl (lv_room (Nat.le_of_ble_eq_true rfl)) dX7_sub_9 ⟨Nat.le_of_ble_eq_true rfl, Nat.le_of_ble_eq_true rfl⟩) hP hD hS hA [] rfl (fun _ _ h9 => h9.2) (fun r4 H locs hw5 hP hD hS => ?_)
    obtain ⟨hw5, -⟩ := hw5
    refine lv_if_eq (tgt := 49) hx hb dX7_sub_12 (by decide) (fun c6 => ?_) (fun c6 => ?_)
    · skip
      have hc6 : ¬ (0 ≤ p1 ∧ p1 ≤ 7) := bz_0 hw5 c6
      refine lv_iconst (v := 0) hx hb dX7_sub_49 (by decide) ?_
      refine k_zret (u := [(oX7 x x0 x1 x2 x3 x4 x5), (oX0 x0 b0 b1 b2 b3 b4 b5 b6 b7 b8 b9 b10 b11 (nI np) (nI nl) bi14), (aIc cI b8 64 B8)]) hx hb hr (by decide) hlk hP hD hS dX7_sub_50 ?_
      exact Or.inr ⟨(fun q => hc6 q.2.1), rfl, rfl⟩
    · skip
      have hc6 : 0 ≤ p1 ∧ p1 ≤ 7 := bz_1 hw5 c6
      refine lv_iload_n hx hb dX7_sub_15 rfl (lv_at hl 3 rfl) ?_
      refine lv_iconst (v := (-1)) hx hb dX7_sub_16 (by decide) ?_
      refine lv_ldc (v := 1000000) hx hb hown (hts _ (List.mem_cons_of_mem _ wd_155)) dX7_sub_17 ?_
      refine k_iS (va_runS (As := [.int p2, .int (-1), .int 1000000]) (rest := []) ⟨hx, hb, hml, hown, hts⟩ (m_X7_within l D cI cJ H.size p2 (-1) 1000000) (va_cwS 3 hts gX7_sub_X7_within rfl rfl rfl (by decide +kernel) ⟨Nat.le_of_ble_eq_true rfl, Nat.le_of_ble_eq_true rfl⟩) (k_pre hE hP hD [] (by decide +kernel) rfl) rfl rfl hl.1 rfl (lv_room (Nat.le_of_ble_eq_true rfl)) dX7_sub_19 ⟨Nat.le_of_ble_eq_true rfl, Nat.le_of_ble_eq_true rfl⟩) hP hD hS hA [] rfl (fun _ _ h9 => h9.2) (fun r7 H locs hw8 hP hD hS => ?_)
      obtain ⟨hw8, -⟩ := hw8
      refine lv_if_eq (tgt := 49) hx hb dX7_sub_22 (by decide) (fun c9 => ?_) (fun c9 => ?_)
      · skip
        have hc9 : ¬ ((-1) ≤ p2 ∧ p2 ≤ 1000000) := bz_0 hw8 c9
        refine lv_iconst (v := 0) hx hb dX7_sub_49 (by decide) ?_
        refine k_zret (u := [(oX7 x x0 x1 x2 x3 x4 x5), (oX0 x0 b0 b1 b2 b3 b4 b5 b6 b7 b8 b9 b10 b11 (nI np) (nI nl) bi14), (aIc cI b8 64 B8)]) hx hb hr (by decide) hlk hP hD hS dX7_sub_50 ?_
        exact Or.inr ⟨(fun q => hc9 q.2.2.1), rfl, rfl⟩
      · skip
        have hc9 : (-1) ≤ p2 ∧ p2 ≤ 1000000 := bz_1 hw8 c9
        refine lv_aload_n hx hb dX7_sub_25 rfl (lv_at hl 0 rfl) ?_
        refine va_get (D := D) (ci := 7) (v := .ref x0) (C := RX7) (T := TX7) (N := 6) hx hb hts hiX7 hown hE.1 hP 0 rfl rfl 0 (by decide) (hts _ (List.mem_cons_of_mem _ wd_19)) (fun _ h9 => h9) rfl dX7_sub_26 ?_
        refine va_get (D := D) (ci := 0) (v := .ref b8) (C := RX0) (T := TX0) (N := 15) hx hb hts hiX0 hown hE.1 hP 1 rfl rfl 8 (by decide) (hts _ (List.mem_cons_of_mem _ wd_217)) (fun _ h9 => h9) rfl dX7_sub_29 ?_
        refine lv_iload_n hx hb dX7_sub_32 rfl (lv_at hl 1 rfl) ?_
        refine lv_bipush (v := 8) hx hb dX7_sub_33 (by decide) ?_
        refine lv_imul hx hb dX7_sub_35 ?_
        refine lv_iload_n hx hb dX7_sub_36 rfl (lv_at hl 2 rfl) ?_
        refine lv_iadd hx hb dX7_sub_37 ?_
        refine lv_iload_n hx hb dX7_sub_38 rfl (lv_at hl 3 rfl) ?_
        refine k_i (va_runS (As := [.ref b8, .int ((p0 * 8) + p1), .int p2]) (rest := []) ⟨hx, hb, hml, hown, hts⟩ (m_X7_changed l D cI cJ H.size b8 64 ((p0 * 8) + p1) p2 B8 (by decide)) (va_cwS 3 hts gX7_sub_X7_changed rfl rfl rfl (by decide +kernel) ⟨Nat.le_of_ble_eq_true rfl, Nat.le_of_ble_eq_true rfl⟩) (k_pre hE hP hD [2] (by decide +kernel) rfl) rfl rfl hl.1 rfl (lv_room (Nat.le_of_ble_eq_true rfl)) dX7_sub_39 ⟨Nat.le_of_ble_eq_true rfl, Nat.le_of_ble_eq_true rfl⟩) hP hD hS hA [2] [0, 1] rfl (wr := [(oX7 x x0 x1 x2 x3 x4 x5), (oX0 x0 b0 b1 b2 b3 b4 b5 b6 b7 b8 b9 b10 b11 (nI np) (nI nl) bi14)]) rfl (by decide +kernel) (by decide +kernel) (fun r10 u H locs hw11 hP hD hS => ?_)
        rcases hw11 with ⟨ha12, rfl, rfl⟩ | ⟨ha13, rfl, rfl⟩
        · skip
          refine k_re (w := [(oX7 x x0 x1 x2 x3 x4 x5), (oX0 x0 b0 b1 b2 b3 b4 b5 b6 b7 b8 b9 b10 b11 (nI np) (nI nl) bi14), (aIc cI b8 64 (upd B8 (Int32.toNatClampNeg ((p0 * 8) + p1)) p2))]) hP hD (fun hP hD => ?_)
          refine lv_if_eq (tgt := 49) hx hb dX7_sub_42 (by decide) (fun c14 => absurd c14 (by decide)) (fun _ => ?_)
          refine lv_iconst (v := 1) hx hb dX7_sub_45 (by decide) ?_
          refine lv_goto (tgt := 50) hx hb dX7_sub_46 (by decide) ?_
          refine k_zret (u := [(oX7 x x0 x1 x2 x3 x4 x5), (oX0 x0 b0 b1 b2 b3 b4 b5 b6 b7 b8 b9 b10 b11 (nI np) (nI nl) bi14), (aIc cI b8 64 (upd B8 (Int32.toNatClampNeg ((p0 * 8) + p1)) p2))]) hx hb hr (by decide) hlk hP hD hS dX7_sub_50 ?_
          exact Or.inl ⟨⟨hc3, hc6, hc9, ha12.2.2⟩, rfl, rfl⟩
        · skip
          refine k_re (w := [(oX7 x x0 x1 x2 x3 x4 x5), (oX0 x0 b0 b1 b2 b3 b4 b5 b6 b7 b8 b9 b10 b11 (nI np) (nI nl) bi14), (aIc cI b8 64 B8)]) hP hD (fun hP hD => ?_)
          refine lv_if_eq (tgt := 49) hx hb dX7_sub_42 (by decide) (fun _ => ?_) (fun c15 => absurd (by decide) c15)
          refine lv_iconst (v := 0) hx hb dX7_sub_49 (by decide) ?_
          refine k_zret (u := [(oX7 x x0 x1 x2 x3 x4 x5), (oX0 x0 b0 b1 b2 b3 b4 b5 b6 b7 b8 b9 b10 b11 (nI np) (nI nl) bi14), (aIc cI b8 64 B8)]) hx hb hr (by decide) hlk hP hD hS dX7_sub_50 ?_
          exact Or.inr ⟨(fun q => ha13 ⟨(chg_s hnp hc3 hc6).1, (chg_s hnp hc3 hc6).2, q.2.2.2⟩), rfl, rfl⟩
theorem dX7_value_0 : decode cX7_value 0 = .ok (.iload_n 1, 1) := by decide +kernel
theorem dX7_value_1 : decode cX7_value 1 = .ok (.ifCond .eq 41, 3) := by decide +kernel
theorem dX7_value_4 : decode cX7_value 4 = .ok (.iload_n 2, 1) := by decide +kernel
theorem dX7_value_5 : decode cX7_value 5 = .ok (.invokestatic 91, 3) := by decide +kernel
theorem dX7_value_8 : decode cX7_value 8 = .ok (.ifCond .eq 32, 3) := by decide +kernel
theorem dX7_value_11 : decode cX7_value 11 = .ok (.iload_n 3, 1) := by decide +kernel
theorem dX7_value_12 : decode cX7_value 12 = .ok (.iconst 0, 1) := by decide +kernel
theorem dX7_value_13 : decode cX7_value 13 = .ok (.ldc 51, 2) := by decide +kernel
theorem dX7_value_15 : decode cX7_value 15 = .ok (.invokestatic 47, 3) := by decide +kernel
theorem dX7_value_18 : decode cX7_value 18 = .ok (.ifCond .eq 22, 3) := by decide +kernel
theorem dX7_value_21 : decode cX7_value 21 = .ok (.aload_n 0, 1) := by decide +kernel
theorem dX7_value_22 : decode cX7_value 22 = .ok (.getfield 20, 3) := by decide +kernel
theorem dX7_value_25 : decode cX7_value 25 = .ok (.getfield 97, 3) := by decide +kernel
theorem dX7_value_28 : decode cX7_value 28 = .ok (.iload_n 2, 1) := by decide +kernel
theorem dX7_value_29 : decode cX7_value 29 = .ok (.iload_n 3, 1) := by decide +kernel
theorem dX7_value_30 : decode cX7_value 30 = .ok (.invokestatic 87, 3) := by decide +kernel
theorem dX7_value_33 : decode cX7_value 33 = .ok (.ifCond .eq 7, 3) := by decide +kernel
theorem dX7_value_36 : decode cX7_value 36 = .ok (.iconst 1, 1) := by decide +kernel
theorem dX7_value_37 : decode cX7_value 37 = .ok (.goto 4, 3) := by decide +kernel
theorem dX7_value_40 : decode cX7_value 40 = .ok (.iconst 0, 1) := by decide +kernel
theorem dX7_value_41 : decode cX7_value 41 = .ok (.ireturn, 1) := by decide +kernel
theorem dX7_value_42 : decode cX7_value 42 = .ok (.aload_n 0, 1) := by decide +kernel
theorem dX7_value_43 : decode cX7_value 43 = .ok (.iload_n 2, 1) := by decide +kernel
theorem dX7_value_44 : decode cX7_value 44 = .ok (.invokevirtual 74, 3) := by decide +kernel
theorem dX7_value_47 : decode cX7_value 47 = .ok (.ifCond .eq 32, 3) := by decide +kernel
theorem dX7_value_50 : decode cX7_value 50 = .ok (.iload_n 3, 1) := by decide +kernel
theorem dX7_value_51 : decode cX7_value 51 = .ok (.iconst 0, 1) := by decide +kernel
theorem dX7_value_52 : decode cX7_value 52 = .ok (.ldc 52, 2) := by decide +kernel
theorem dX7_value_54 : decode cX7_value 54 = .ok (.invokestatic 47, 3) := by decide +kernel
theorem dX7_value_57 : decode cX7_value 57 = .ok (.ifCond .eq 22, 3) := by decide +kernel
theorem dX7_value_60 : decode cX7_value 60 = .ok (.aload_n 0, 1) := by decide +kernel
theorem dX7_value_61 : decode cX7_value 61 = .ok (.getfield 20, 3) := by decide +kernel
theorem dX7_value_64 : decode cX7_value 64 = .ok (.getfield 100, 3) := by decide +kernel
theorem dX7_value_67 : decode cX7_value 67 = .ok (.iload_n 2, 1) := by decide +kernel
theorem dX7_value_68 : decode cX7_value 68 = .ok (.iload_n 3, 1) := by decide +kernel
theorem dX7_value_69 : decode cX7_value 69 = .ok (.invokestatic 87, 3) := by decide +kernel
theorem dX7_value_72 : decode cX7_value 72 = .ok (.ifCond .eq 7, 3) := by decide +kernel
theorem dX7_value_75 : decode cX7_value 75 = .ok (.iconst 1, 1) := by decide +kernel
theorem dX7_value_76 : decode cX7_value 76 = .ok (.goto 4, 3) := by decide +kernel
theorem dX7_value_79 : decode cX7_value 79 = .ok (.iconst 0, 1) := by decide +kernel
theorem dX7_value_80 : decode cX7_value 80 = .ok (.ireturn, 1) := by decide +kernel
theorem gX7_value_X7_changed : GoodIn wtX7_value (va_wsS RX7 87 yX7_changed wtX7_changed) := tb_good (tb_s0 wd_206 wd_207 wd_2 wd_208)
theorem gX7_value_X7_isItem : GoodIn wtX7_value (va_wsS RX7 91 yX7_isItem wtX7_isItem) := tb_good (tb_s0 wd_218 wd_219 wd_2 wd_220)
theorem gX7_value_X7_isPolicy : GoodIn wtX7_value (wsV RX7 74 RX7 yX7_isPolicy wtX7_isPolicy) := tb_good (tb_v0 wd_186 wd_187 wd_188 wd_2 wd_189)
theorem gX7_value_X7_within : GoodIn wtX7_value (va_wsS RX7 47 yX7_within wtX7_within) := tb_good (tb_s0 wd_164 wd_165 wd_2 wd_166)
set_option maxHeartbeats 4000000 in
set_option maxRecDepth 100000 in
theorem m_X7_value (l : Launch) (D : va_G) (cI cJ : ClassId) (sz : Nat) (x x0 x1 x2 x3 x4 x5 b0 b1 b2 b3 b4 b5 b6 b7 b8 b9 b10 b11 np nl : Nat) (bi14 p0 p1 p2 : Int32) (B7 B9 : Nat → Int32) (hnp : np ≤ 8) : Met l yX7_value wtX7_value { frames := 2, cells := 0, slots := 0, locals := 43 } (cPc D cI cJ [.ref x, .int p0, .int p1, .int p2] sz [(oX7 x x0 x1 x2 x3 x4 x5), (oX0 x0 b0 b1 b2 b3 b4 b5 b6 b7 b8 b9 b10 b11 (nI np) (nI nl) bi14), (aIc cI b7 8 B7), (aIc cI b9 8 B9)]) (cQi D (fun r u => ((¬ p0 = 0 ∧ (0 ≤ p1 ∧ p1 ≤ 7) ∧ (0 ≤ p2 ∧ p2 ≤ 9000000) ∧ ¬ B9 (Int32.toNatClampNeg p1) = p2) ∧ r = 1 ∧ u = [(oX7 x x0 x1 x2 x3 x4 x5), (oX0 x0 b0 b1 b2 b3 b4 b5 b6 b7 b8 b9 b10 b11 (nI np) (nI nl) bi14), (aIc cI b7 8 B7), (aIc cI b9 8 (upd B9 (Int32.toNatClampNeg p1) p2))]) ∨ ((p0 = 0 ∧ (0 ≤ p1 ∧ p1 ≤ nI np - 1) ∧ (0 ≤ p2 ∧ p2 ≤ 99999) ∧ ¬ B7 (Int32.toNatClampNeg p1) = p2) ∧ r = 1 ∧ u = [(oX7 x x0 x1 x2 x3 x4 x5), (oX0 x0 b0 b1 b2 b3 b4 b5 b6 b7 b8 b9 b10 b11 (nI np) (nI nl) bi14), (aIc cI b7 8 (upd B7 (Int32.toNatClampNeg p1) p2)), (aIc cI b9 8 B9)]) ∨ ((¬ (¬ p0 = 0 ∧ (0 ≤ p1 ∧ p1 ≤ 7) ∧ (0 ≤ p2 ∧ p2 ≤ 9000000) ∧ ¬ B9 (Int32.toNatClampNeg p1) = p2) ∧ ¬ (p0 = 0 ∧ (0 ≤ p1 ∧ p1 ≤ nI np - 1) ∧ (0 ≤ p2 ∧ p2 ≤ 99999) ∧ ¬ B7 (Int32.toNatClampNeg p1) = p2)) ∧ r = 0 ∧ u = [(oX7 x x0 x1 x2 x3 x4 x5), (oX0 x0 b0 b1 b2 b3 b4 b5 b6 b7 b8 b9 b10 b11 (nI np) (nI nl) bi14), (aIc cI b7 8 B7), (aIc cI b9 8 B9)])) (va_A [(oX7 x x0 x1 x2 x3 x4 x5), (oX0 x0 b0 b1 b2 b3 b4 b5 b6 b7 b8 b9 b10 b11 (nI np) (nI nl) bi14), (aIc cI b7 8 B7), (aIc cI b9 8 B9)] sz)) 0 0 (va_A [(oX7 x x0 x1 x2 x3 x4 x5), (oX0 x0 b0 b1 b2 b3 b4 b5 b6 b7 b8 b9 b10 b11 (nI np) (nI nl) bi14), (aIc cI b7 8 B7), (aIc cI b9 8 B9)] sz) := by
  refine k_ofW (Qc := cQi D (fun r u => ((¬ p0 = 0 ∧ (0 ≤ p1 ∧ p1 ≤ 7) ∧ (0 ≤ p2 ∧ p2 ≤ 9000000) ∧ ¬ B9 (Int32.toNatClampNeg p1) = p2) ∧ r = 1 ∧ u = [(oX7 x x0 x1 x2 x3 x4 x5), (oX0 x0 b0 b1 b2 b3 b4 b5 b6 b7 b8 b9 b10 b11 (nI np) (nI nl) bi14), (aIc cI b7 8 B7), (aIc cI b9 8 (upd B9 (Int32.toNatClampNeg p1) p2))]) ∨ ((p0 = 0 ∧ (0 ≤ p1 ∧ p1 ≤ nI np - 1) ∧ (0 ≤ p2 ∧ p2 ≤ 99999) ∧ ¬ B7 (Int32.toNatClampNeg p1) = p2) ∧ r = 1 ∧ u = [(oX7 x x0 x1 x2 x3 x4 x5), (oX0 x0 b0 b1 b2 b3 b4 b5 b6 b7 b8 b9 b10 b11 (nI np) (nI nl) bi14), (aIc cI b7 8 (upd B7 (Int32.toNatClampNeg p1) p2)), (aIc cI b9 8 B9)]) ∨ ((¬ (¬ p0 = 0 ∧ (0 ≤ p1 ∧ p1 ≤ 7) ∧ (0 ≤ p2 ∧ p2 ≤ 9000000) ∧ ¬ B9 (Int32.toNatClampNeg p1) = p2) ∧ ¬ (p0 = 0 ∧ (0 ≤ p1 ∧ p1 ≤ nI np - 1) ∧ (0 ≤ p2 ∧ p2 ≤ 99999) ∧ ¬ B7 (Int32.toNatClampNeg p1) = p2)) ∧ r = 0 ∧ u = [(oX7 x x0 x1 x2 x3 x4 x5), (oX0 x0 b0 b1 b2 b3 b4 b5 b6 b7 b8 b9 b10 b11 (nI np) (nI nl) bi14), (aIc cI b7 8 B7), (aIc cI b9 8 B9)]))) (by decide) rfl (Nat.le_of_ble_eq_true rfl) ?_
  intro p e s m below meth c A ls hx hb hr hml hts hown hlk hnm hsz hE hP hD hS hA hl
  have hown : s.vm.findClass RX7 = some m.cls := hown
  have hiX7 : ∀ w ∈ u_ws RX7 TX7 6, w ∈ wtX7_value := fun w h => List.mem_cons_of_mem _ (iuX7 w h)
  have hiX0 : ∀ w ∈ u_ws RX0 TX0 15, w ∈ wtX7_value := fun w h => List.mem_cons_of_mem _ (iuX0 w h)
  have hl : lv_has ls 4 [(0, .ref x), (1, .int p0), (2, .int p1), (3, .int p2)] := hl
  refine lv_iload_n hx hb dX7_value_0 rfl (lv_at hl 1 rfl) ?_
  refine lv_if_eq (tgt := 42) hx hb dX7_value_1 (by decide) (fun c1 => ?_) (fun c1 => ?_)
  · skip
    refine lv_aload_n hx hb dX7_value_42 rfl (lv_at hl 0 rfl) ?_
    refine lv_iload_n hx hb dX7_value_43 rfl (lv_at hl 2 rfl) ?_
    refine k_iS (va_runV (As := [.int p1]) (rest := []) ⟨hx, hb, hml, hown, hts⟩ (m_X7_isPolicy l D cI cJ (s.heap).size x x0 x1 x2 x3 x4 x5 b0 b1 b2 b3 b4 b5 b6 b7 b8 b9 b10 b11 (nI np) (nI nl) bi14 p1) (cwV 1 hts gX7_value_X7_isPolicy rfl rfl rfl (by decide +kernel) ⟨Nat.le_of_ble_eq_true rfl, Nat.le_of_ble_eq_true rfl⟩) (k_preV hE hP hD [0, 1] (by decide +kernel) rfl 0 rfl rfl) rfl rfl hl.1 rfl (lv_room (Nat.le_of_ble_eq_true rfl)) dX7_value_44 ⟨Nat.le_of_ble_eq_true rfl, Nat.le_of_ble_eq_true rfl⟩) hP hD hS hA [0, 1] rfl (fun _ _ h9 => h9.2) (fun r2 H locs hw3 hP hD hS => ?_)
    obtain ⟨hw3, -⟩ := hw3
    refine lv_if_eq (tgt := 79) hx hb dX7_value_47 (by decide) (fun c4 => ?_) (fun c4 => ?_)
    · skip
      have hc4 : ¬ (0 ≤ p1 ∧ p1 ≤ (nI np) - 1) := bz_0 hw3 c4
      refine lv_iconst (v := 0) hx hb dX7_value_79 (by decide) ?_
      refine k_zret (u := [(oX7 x x0 x1 x2 x3 x4 x5), (oX0 x0 b0 b1 b2 b3 b4 b5 b6 b7 b8 b9 b10 b11 (nI np) (nI nl) bi14), (aIc cI b7 8 B7), (aIc cI b9 8 B9)]) hx hb hr (by decide) hlk hP hD hS dX7_value_80 ?_
      exact Or.inr (Or.inr ⟨⟨fun q => q.1 c1, (fun q => hc4 q.2.1)⟩, rfl, rfl⟩)
    · skip
      have hc4 : 0 ≤ p1 ∧ p1 ≤ (nI np) - 1 := bz_1 hw3 c4
      refine lv_iload_n hx hb dX7_value_50 rfl (lv_at hl 3 rfl) ?_
      refine lv_iconst (v := 0) hx hb dX7_value_51 (by decide) ?_
      refine lv_ldc (v := 99999) hx hb hown (hts _ (List.mem_cons_of_mem _ wd_157)) dX7_value_52 ?_
      refine k_iS (va_runS (As := [.int p2, .int 0, .int 99999]) (rest := []) ⟨hx, hb, hml, hown, hts⟩ (m_X7_within l D cI cJ H.size p2 0 99999) (va_cwS 3 hts gX7_value_X7_within rfl rfl rfl (by decide +kernel) ⟨Nat.le_of_ble_eq_true rfl, Nat.le_of_ble_eq_true rfl⟩) (k_pre hE hP hD [] (by decide +kernel) rfl) rfl rfl hl.1 rfl (lv_room (Nat.le_of_ble_eq_true rfl)) dX7_value_54 ⟨Nat.le_of_ble_eq_true rfl, Nat.le_of_ble_eq_true rfl⟩) hP hD hS hA [] rfl (fun _ _ h9 => h9.2) (fun r5 H locs hw6 hP hD hS => ?_)
      obtain ⟨hw6, -⟩ := hw6
      refine lv_if_eq (tgt := 79) hx hb dX7_value_57 (by decide) (fun c7 => ?_) (fun c7 => ?_)
      · skip
        have hc7 : ¬ (0 ≤ p2 ∧ p2 ≤ 99999) := bz_0 hw6 c7
        refine lv_iconst (v := 0) hx hb dX7_value_79 (by decide) ?_
        refine k_zret (u := [(oX7 x x0 x1 x2 x3 x4 x5), (oX0 x0 b0 b1 b2 b3 b4 b5 b6 b7 b8 b9 b10 b11 (nI np) (nI nl) bi14), (aIc cI b7 8 B7), (aIc cI b9 8 B9)]) hx hb hr (by decide) hlk hP hD hS dX7_value_80 ?_
        exact Or.inr (Or.inr ⟨⟨fun q => q.1 c1, (fun q => hc7 q.2.2.1)⟩, rfl, rfl⟩)
      · skip
        have hc7 : 0 ≤ p2 ∧ p2 ≤ 99999 := bz_1 hw6 c7
        refine lv_aload_n hx hb dX7_value_60 rfl (lv_at hl 0 rfl) ?_
        refine va_get (D := D) (ci := 7) (v := .ref x0) (C := RX7) (T := TX7) (N := 6) hx hb hts hiX7 hown hE.1 hP 0 rfl rfl 0 (by decide) (hts _ (List.mem_cons_of_mem _ wd_19)) (fun _ h9 => h9) rfl dX7_value_61 ?_
        refine va_get (D := D) (ci := 0) (v := .ref b7) (C := RX0) (T := TX0) (N := 15) hx hb hts hiX0 hown hE.1 hP 1 rfl rfl 7 (by decide) (hts _ (List.mem_cons_of_mem _ wd_235)) (fun _ h9 => h9) rfl dX7_value_64 ?_
        refine lv_iload_n hx hb dX7_value_67 rfl (lv_at hl 2 rfl) ?_
        refine lv_iload_n hx hb dX7_value_68 rfl (lv_at hl 3 rfl) ?_
        refine k_i (va_runS (As := [.ref b7, .int p1, .int p2]) (rest := []) ⟨hx, hb, hml, hown, hts⟩ (m_X7_changed l D cI cJ H.size b7 8 p1 p2 B7 (by decide)) (va_cwS 3 hts gX7_value_X7_changed rfl rfl rfl (by decide +kernel) ⟨Nat.le_of_ble_eq_true rfl, Nat.le_of_ble_eq_true rfl⟩) (k_pre hE hP hD [2] (by decide +kernel) rfl) rfl rfl hl.1 rfl (lv_room (Nat.le_of_ble_eq_true rfl)) dX7_value_69 ⟨Nat.le_of_ble_eq_true rfl, Nat.le_of_ble_eq_true rfl⟩) hP hD hS hA [2] [0, 1, 3] rfl (wr := [(oX7 x x0 x1 x2 x3 x4 x5), (oX0 x0 b0 b1 b2 b3 b4 b5 b6 b7 b8 b9 b10 b11 (nI np) (nI nl) bi14), (aIc cI b9 8 B9)]) rfl (by decide +kernel) (by decide +kernel) (fun r8 u H locs hw9 hP hD hS => ?_)
        rcases hw9 with ⟨ha10, rfl, rfl⟩ | ⟨ha11, rfl, rfl⟩
        · skip
          refine k_re (w := [(oX7 x x0 x1 x2 x3 x4 x5), (oX0 x0 b0 b1 b2 b3 b4 b5 b6 b7 b8 b9 b10 b11 (nI np) (nI nl) bi14), (aIc cI b9 8 B9), (aIc cI b7 8 (upd B7 (Int32.toNatClampNeg p1) p2))]) hP hD (fun hP hD => ?_)
          refine lv_if_eq (tgt := 79) hx hb dX7_value_72 (by decide) (fun c12 => absurd c12 (by decide)) (fun _ => ?_)
          refine lv_iconst (v := 1) hx hb dX7_value_75 (by decide) ?_
          refine lv_goto (tgt := 80) hx hb dX7_value_76 (by decide) ?_
          refine k_zret (u := [(oX7 x x0 x1 x2 x3 x4 x5), (oX0 x0 b0 b1 b2 b3 b4 b5 b6 b7 b8 b9 b10 b11 (nI np) (nI nl) bi14), (aIc cI b7 8 (upd B7 (Int32.toNatClampNeg p1) p2)), (aIc cI b9 8 B9)]) hx hb hr (by decide) hlk (k_sub hP [0, 1, 3, 2] rfl) (hD.sub [0, 1, 3, 2] (by decide +kernel) rfl) hS dX7_value_80 ?_
          exact Or.inr (Or.inl ⟨⟨c1, hc4, hc7, ha10.2.2⟩, rfl, rfl⟩)
        · skip
          refine k_re (w := [(oX7 x x0 x1 x2 x3 x4 x5), (oX0 x0 b0 b1 b2 b3 b4 b5 b6 b7 b8 b9 b10 b11 (nI np) (nI nl) bi14), (aIc cI b9 8 B9), (aIc cI b7 8 B7)]) hP hD (fun hP hD => ?_)
          refine lv_if_eq (tgt := 79) hx hb dX7_value_72 (by decide) (fun _ => ?_) (fun c13 => absurd (by decide) c13)
          refine lv_iconst (v := 0) hx hb dX7_value_79 (by decide) ?_
          refine k_zret (u := [(oX7 x x0 x1 x2 x3 x4 x5), (oX0 x0 b0 b1 b2 b3 b4 b5 b6 b7 b8 b9 b10 b11 (nI np) (nI nl) bi14), (aIc cI b7 8 B7), (aIc cI b9 8 B9)]) hx hb hr (by decide) hlk (k_sub hP [0, 1, 3, 2] rfl) (hD.sub [0, 1, 3, 2] (by decide +kernel) rfl) hS dX7_value_80 ?_
          exact Or.inr (Or.inr ⟨⟨fun q => q.1 c1, (fun q => ha11 ⟨(chg_p hnp (by decide) hc4).1, (chg_p hnp (by decide) hc4).2, q.2.2.2⟩)⟩, rfl, rfl⟩)
  · skip
    refine lv_iload_n hx hb dX7_value_4 rfl (lv_at hl 2 rfl) ?_
    refine k_iS (va_runS (As := [.int p1]) (rest := []) ⟨hx, hb, hml, hown, hts⟩ (m_X7_isItem l D cI cJ (s.heap).size p1) (va_cwS 1 hts gX7_value_X7_isItem rfl rfl rfl (by decide +kernel) ⟨Nat.le_of_ble_eq_true rfl, Nat.le_of_ble_eq_true rfl⟩) (k_pre hE hP hD [] (by decide +kernel) rfl) rfl rfl hl.1 rfl (lv_room (Nat.le_of_ble_eq_true rfl)) dX7_value_5 ⟨Nat.le_of_ble_eq_true rfl, Nat.le_of_ble_eq_true rfl⟩) hP hD hS hA [] rfl (fun _ _ h9 => h9.2) (fun r14 H locs hw15 hP hD hS => ?_)
    obtain ⟨hw15, -⟩ := hw15
    refine lv_if_eq (tgt := 40) hx hb dX7_value_8 (by decide) (fun c16 => ?_) (fun c16 => ?_)
    · skip
      have hc16 : ¬ (0 ≤ p1 ∧ p1 ≤ 7) := bz_0 hw15 c16
      refine lv_iconst (v := 0) hx hb dX7_value_40 (by decide) ?_
      refine k_zret (u := [(oX7 x x0 x1 x2 x3 x4 x5), (oX0 x0 b0 b1 b2 b3 b4 b5 b6 b7 b8 b9 b10 b11 (nI np) (nI nl) bi14), (aIc cI b7 8 B7), (aIc cI b9 8 B9)]) hx hb hr (by decide) hlk hP hD hS dX7_value_41 ?_
      exact Or.inr (Or.inr ⟨⟨(fun q => hc16 q.2.1), fun q => c1 q.1⟩, rfl, rfl⟩)
    · skip
      have hc16 : 0 ≤ p1 ∧ p1 ≤ 7 := bz_1 hw15 c16
      refine lv_iload_n hx hb dX7_value_11 rfl (lv_at hl 3 rfl) ?_
      refine lv_iconst (v := 0) hx hb dX7_value_12 (by decide) ?_
      refine lv_ldc (v := 9000000) hx hb hown (hts _ (List.mem_cons_of_mem _ wd_156)) dX7_value_13 ?_
      refine k_iS (va_runS (As := [.int p2, .int 0, .int 9000000]) (rest := []) ⟨hx, hb, hml, hown, hts⟩ (m_X7_within l D cI cJ H.size p2 0 9000000) (va_cwS 3 hts gX7_value_X7_within rfl rfl rfl (by decide +kernel) ⟨Nat.le_of_ble_eq_true rfl, Nat.le_of_ble_eq_true rfl⟩) (k_pre hE hP hD [] (by decide +kernel) rfl) rfl rfl hl.1 rfl (lv_room (Nat.le_of_ble_eq_true rfl)) dX7_value_15 ⟨Nat.le_of_ble_eq_true rfl, Nat.le_of_ble_eq_true rfl⟩) hP hD hS hA [] rfl (fun _ _ h9 => h9.2) (fun r17 H locs hw18 hP hD hS => ?_)
      obtain ⟨hw18, -⟩ := hw18
      refine lv_if_eq (tgt := 40) hx hb dX7_value_18 (by decide) (fun c19 => ?_) (fun c19 => ?_)
      · skip
        have hc19 : ¬ (0 ≤ p2 ∧ p2 ≤ 9000000) := bz_0 hw18 c19
        refine lv_iconst (v := 0) hx hb dX7_value_40 (by decide) ?_
        refine k_zret (u := [(oX7 x x0 x1 x2 x3 x4 x5), (oX0 x0 b0 b1 b2 b3 b4 b5 b6 b7 b8 b9 b10 b11 (nI np) (nI nl) bi14), (aIc cI b7 8 B7), (aIc cI b9 8 B9)]) hx hb hr (by decide) hlk hP hD hS dX7_value_41 ?_
        exact Or.inr (Or.inr ⟨⟨(fun q => hc19 q.2.2.1), fun q => c1 q.1⟩, rfl, rfl⟩)
      · skip
        have hc19 : 0 ≤ p2 ∧ p2 ≤ 9000000 := bz_1 hw18 c19
        refine lv_aload_n hx hb dX7_value_21 rfl (lv_at hl 0 rfl) ?_
        refine va_get (D := D) (ci := 7) (v := .ref x0) (C := RX7) (T := TX7) (N := 6) hx hb hts hiX7 hown hE.1 hP 0 rfl rfl 0 (by decide) (hts _ (List.mem_cons_of_mem _ wd_19)) (fun _ h9 => h9) rfl dX7_value_22 ?_
        refine va_get (D := D) (ci := 0) (v := .ref b9) (C := RX0) (T := TX0) (N := 15) hx hb hts hiX0 hown hE.1 hP 1 rfl rfl 9 (by decide) (hts _ (List.mem_cons_of_mem _ wd_234)) (fun _ h9 => h9) rfl dX7_value_25 ?_
        refine lv_iload_n hx hb dX7_value_28 rfl (lv_at hl 2 rfl) ?_
        refine lv_iload_n hx hb dX7_value_29 rfl (lv_at hl 3 rfl) ?_
        refine k_i (va_runS (As := [.ref b9, .int p1, .int p2]) (rest := []) ⟨hx, hb, hml, hown, hts⟩ (m_X7_changed l D cI cJ H.size b9 8 p1 p2 B9 (by decide)) (va_cwS 3 hts gX7_value_X7_changed rfl rfl rfl (by decide +kernel) ⟨Nat.le_of_ble_eq_true rfl, Nat.le_of_ble_eq_true rfl⟩) (k_pre hE hP hD [3] (by decide +kernel) rfl) rfl rfl hl.1 rfl (lv_room (Nat.le_of_ble_eq_true rfl)) dX7_value_30 ⟨Nat.le_of_ble_eq_true rfl, Nat.le_of_ble_eq_true rfl⟩) hP hD hS hA [3] [0, 1, 2] rfl (wr := [(oX7 x x0 x1 x2 x3 x4 x5), (oX0 x0 b0 b1 b2 b3 b4 b5 b6 b7 b8 b9 b10 b11 (nI np) (nI nl) bi14), (aIc cI b7 8 B7)]) rfl (by decide +kernel) (by decide +kernel) (fun r20 u H locs hw21 hP hD hS => ?_)
        rcases hw21 with ⟨ha22, rfl, rfl⟩ | ⟨ha23, rfl, rfl⟩
        · skip
          refine k_re (w := [(oX7 x x0 x1 x2 x3 x4 x5), (oX0 x0 b0 b1 b2 b3 b4 b5 b6 b7 b8 b9 b10 b11 (nI np) (nI nl) bi14), (aIc cI b7 8 B7), (aIc cI b9 8 (upd B9 (Int32.toNatClampNeg p1) p2))]) hP hD (fun hP hD => ?_)
          refine lv_if_eq (tgt := 40) hx hb dX7_value_33 (by decide) (fun c24 => absurd c24 (by decide)) (fun _ => ?_)
          refine lv_iconst (v := 1) hx hb dX7_value_36 (by decide) ?_
          refine lv_goto (tgt := 41) hx hb dX7_value_37 (by decide) ?_
          refine k_zret (u := [(oX7 x x0 x1 x2 x3 x4 x5), (oX0 x0 b0 b1 b2 b3 b4 b5 b6 b7 b8 b9 b10 b11 (nI np) (nI nl) bi14), (aIc cI b7 8 B7), (aIc cI b9 8 (upd B9 (Int32.toNatClampNeg p1) p2))]) hx hb hr (by decide) hlk hP hD hS dX7_value_41 ?_
          exact Or.inl ⟨⟨c1, hc16, hc19, ha22.2.2⟩, rfl, rfl⟩
        · skip
          refine k_re (w := [(oX7 x x0 x1 x2 x3 x4 x5), (oX0 x0 b0 b1 b2 b3 b4 b5 b6 b7 b8 b9 b10 b11 (nI np) (nI nl) bi14), (aIc cI b7 8 B7), (aIc cI b9 8 B9)]) hP hD (fun hP hD => ?_)
          refine lv_if_eq (tgt := 40) hx hb dX7_value_33 (by decide) (fun _ => ?_) (fun c25 => absurd (by decide) c25)
          refine lv_iconst (v := 0) hx hb dX7_value_40 (by decide) ?_
          refine k_zret (u := [(oX7 x x0 x1 x2 x3 x4 x5), (oX0 x0 b0 b1 b2 b3 b4 b5 b6 b7 b8 b9 b10 b11 (nI np) (nI nl) bi14), (aIc cI b7 8 B7), (aIc cI b9 8 B9)]) hx hb hr (by decide) hlk hP hD hS dX7_value_41 ?_
          exact Or.inr (Or.inr ⟨⟨(fun q => ha23 ⟨(chg_7 hc16).1, (chg_7 hc16).2, q.2.2.2⟩), fun q => c1 q.1⟩, rfl, rfl⟩)
theorem dX7_loss_0 : decode cX7_loss 0 = .ok (.iload_n 1, 1) := by decide +kernel
theorem dX7_loss_1 : decode cX7_loss 1 = .ok (.invokestatic 91, 3) := by decide +kernel
theorem dX7_loss_4 : decode cX7_loss 4 = .ok (.ifCond .eq 25, 3) := by decide +kernel
theorem dX7_loss_7 : decode cX7_loss 7 = .ok (.iload_n 2, 1) := by decide +kernel
theorem dX7_loss_8 : decode cX7_loss 8 = .ok (.iconst 1, 1) := by decide +kernel
theorem dX7_loss_9 : decode cX7_loss 9 = .ok (.ldc 46, 2) := by decide +kernel
theorem dX7_loss_11 : decode cX7_loss 11 = .ok (.invokestatic 47, 3) := by decide +kernel
theorem dX7_loss_14 : decode cX7_loss 14 = .ok (.ifCond .eq 15, 3) := by decide +kernel
theorem dX7_loss_17 : decode cX7_loss 17 = .ok (.aload_n 0, 1) := by decide +kernel
theorem dX7_loss_18 : decode cX7_loss 18 = .ok (.getfield 20, 3) := by decide +kernel
theorem dX7_loss_21 : decode cX7_loss 21 = .ok (.getfield 103, 3) := by decide +kernel
theorem dX7_loss_24 : decode cX7_loss 24 = .ok (.bipush 10, 2) := by decide +kernel
theorem dX7_loss_26 : decode cX7_loss 26 = .ok (.if_icmp .lt 5, 3) := by decide +kernel
theorem dX7_loss_29 : decode cX7_loss 29 = .ok (.iconst (-1), 1) := by decide +kernel
theorem dX7_loss_30 : decode cX7_loss 30 = .ok (.ireturn, 1) := by decide +kernel
theorem dX7_loss_31 : decode cX7_loss 31 = .ok (.aload_n 0, 1) := by decide +kernel
theorem dX7_loss_32 : decode cX7_loss 32 = .ok (.getfield 20, 3) := by decide +kernel
theorem dX7_loss_35 : decode cX7_loss 35 = .ok (.getfield 103, 3) := by decide +kernel
theorem dX7_loss_38 : decode cX7_loss 38 = .ok (.istore_n 3, 1) := by decide +kernel
theorem dX7_loss_39 : decode cX7_loss 39 = .ok (.aload_n 0, 1) := by decide +kernel
theorem dX7_loss_40 : decode cX7_loss 40 = .ok (.getfield 20, 3) := by decide +kernel
theorem dX7_loss_43 : decode cX7_loss 43 = .ok (.getfield 106, 3) := by decide +kernel
theorem dX7_loss_46 : decode cX7_loss 46 = .ok (.iload_n 3, 1) := by decide +kernel
theorem dX7_loss_47 : decode cX7_loss 47 = .ok (.iload_n 1, 1) := by decide +kernel
theorem dX7_loss_48 : decode cX7_loss 48 = .ok (.iastore, 1) := by decide +kernel
theorem dX7_loss_49 : decode cX7_loss 49 = .ok (.aload_n 0, 1) := by decide +kernel
theorem dX7_loss_50 : decode cX7_loss 50 = .ok (.getfield 20, 3) := by decide +kernel
theorem dX7_loss_53 : decode cX7_loss 53 = .ok (.getfield 109, 3) := by decide +kernel
theorem dX7_loss_56 : decode cX7_loss 56 = .ok (.iload_n 3, 1) := by decide +kernel
theorem dX7_loss_57 : decode cX7_loss 57 = .ok (.iload_n 2, 1) := by decide +kernel
theorem dX7_loss_58 : decode cX7_loss 58 = .ok (.iastore, 1) := by decide +kernel
theorem dX7_loss_59 : decode cX7_loss 59 = .ok (.aload_n 0, 1) := by decide +kernel
theorem dX7_loss_60 : decode cX7_loss 60 = .ok (.getfield 20, 3) := by decide +kernel
theorem dX7_loss_63 : decode cX7_loss 63 = .ok (.iload_n 3, 1) := by decide +kernel
theorem dX7_loss_64 : decode cX7_loss 64 = .ok (.iconst 1, 1) := by decide +kernel
theorem dX7_loss_65 : decode cX7_loss 65 = .ok (.iadd, 1) := by decide +kernel
theorem dX7_loss_66 : decode cX7_loss 66 = .ok (.putfield 103, 3) := by decide +kernel
theorem dX7_loss_69 : decode cX7_loss 69 = .ok (.iload_n 3, 1) := by decide +kernel
theorem dX7_loss_70 : decode cX7_loss 70 = .ok (.ireturn, 1) := by decide +kernel
theorem gX7_loss_X7_isItem : GoodIn wtX7_loss (va_wsS RX7 91 yX7_isItem wtX7_isItem) := tb_good (tb_s0 wd_218 wd_219 wd_2 wd_220)
theorem gX7_loss_X7_within : GoodIn wtX7_loss (va_wsS RX7 47 yX7_within wtX7_within) := tb_good (tb_s0 wd_164 wd_165 wd_2 wd_166)
set_option maxHeartbeats 4000000 in
set_option maxRecDepth 100000 in
theorem m_X7_loss (l : Launch) (D : va_G) (cI cJ : ClassId) (sz : Nat) (x x0 x1 x2 x3 x4 x5 b0 b1 b2 b3 b4 b5 b6 b7 b8 b9 b10 b11 np nl : Nat) (bi14 p0 p1 : Int32) (B10 B11 : Nat → Int32) (hnl : nl ≤ 10) : Met l yX7_loss wtX7_loss { frames := 2, cells := 0, slots := 0, locals := 42 } (cPc D cI cJ [.ref x, .int p0, .int p1] sz [(oX7 x x0 x1 x2 x3 x4 x5), (oX0 x0 b0 b1 b2 b3 b4 b5 b6 b7 b8 b9 b10 b11 (nI np) (nI nl) bi14), (aIc cI b10 10 B10), (aIc cI b11 10 B11)]) (cQi D (fun r u => (((0 ≤ p0 ∧ p0 ≤ 7) ∧ (1 ≤ p1 ∧ p1 ≤ 1000000) ∧ nl < 10) ∧ r = nI nl ∧ u = [(oX7 x x0 x1 x2 x3 x4 x5), (oX0 x0 b0 b1 b2 b3 b4 b5 b6 b7 b8 b9 b10 b11 (nI np) (nI (nl + 1)) bi14), (aIc cI b10 10 (upd B10 (Int32.toNatClampNeg (nI nl)) p0)), (aIc cI b11 10 (upd B11 (Int32.toNatClampNeg (nI nl)) p1))]) ∨ ((¬ ((0 ≤ p0 ∧ p0 ≤ 7) ∧ (1 ≤ p1 ∧ p1 ≤ 1000000) ∧ nl < 10)) ∧ r = -1 ∧ u = [(oX7 x x0 x1 x2 x3 x4 x5), (oX0 x0 b0 b1 b2 b3 b4 b5 b6 b7 b8 b9 b10 b11 (nI np) (nI nl) bi14), (aIc cI b10 10 B10), (aIc cI b11 10 B11)])) (va_A [(oX7 x x0 x1 x2 x3 x4 x5), (oX0 x0 b0 b1 b2 b3 b4 b5 b6 b7 b8 b9 b10 b11 (nI np) (nI nl) bi14), (aIc cI b10 10 B10), (aIc cI b11 10 B11)] sz)) 0 0 (va_A [(oX7 x x0 x1 x2 x3 x4 x5), (oX0 x0 b0 b1 b2 b3 b4 b5 b6 b7 b8 b9 b10 b11 (nI np) (nI nl) bi14), (aIc cI b10 10 B10), (aIc cI b11 10 B11)] sz) := by
  refine k_ofW (Qc := cQi D (fun r u => (((0 ≤ p0 ∧ p0 ≤ 7) ∧ (1 ≤ p1 ∧ p1 ≤ 1000000) ∧ nl < 10) ∧ r = nI nl ∧ u = [(oX7 x x0 x1 x2 x3 x4 x5), (oX0 x0 b0 b1 b2 b3 b4 b5 b6 b7 b8 b9 b10 b11 (nI np) (nI (nl + 1)) bi14), (aIc cI b10 10 (upd B10 (Int32.toNatClampNeg (nI nl)) p0)), (aIc cI b11 10 (upd B11 (Int32.toNatClampNeg (nI nl)) p1))]) ∨ ((¬ ((0 ≤ p0 ∧ p0 ≤ 7) ∧ (1 ≤ p1 ∧ p1 ≤ 1000000) ∧ nl < 10)) ∧ r = -1 ∧ u = [(oX7 x x0 x1 x2 x3 x4 x5), (oX0 x0 b0 b1 b2 b3 b4 b5 b6 b7 b8 b9 b10 b11 (nI np) (nI nl) bi14), (aIc cI b10 10 B10), (aIc cI b11 10 B11)]))) (by decide) rfl (Nat.le_of_ble_eq_true rfl) ?_
  intro p e s m below meth c A ls hx hb hr hml hts hown hlk hnm hsz hE hP hD hS hA hl
  have hown : s.vm.findClass RX7 = some m.cls := hown
  have hiX7 : ∀ w ∈ u_ws RX7 TX7 6, w ∈ wtX7_loss := fun w h => List.mem_cons_of_mem _ (iuX7 w h)
  have hiX0 : ∀ w ∈ u_ws RX0 TX0 15, w ∈ wtX7_loss := fun w h => List.mem_cons_of_mem _ (iuX0 w h)
  have hl : lv_has ls 4 [(0, .ref x), (1, .int p0), (2, .int p1)] := hl
  refine lv_iload_n hx hb dX7_loss_0 rfl (lv_at hl 1 rfl) ?_
  refine k_iS (va_runS (As := [.int p0]) (rest := []) ⟨hx, hb, hml, hown, hts⟩ (m_X7_isItem l D cI cJ (s.heap).size p0) (va_cwS 1 hts gX7_loss_X7_isItem rfl rfl rfl (by decide +kernel) ⟨Nat.le_of_ble_eq_true rfl, Nat.le_of_ble_eq_true rfl⟩) (k_pre hE hP hD [] (by decide +kernel) rfl) rfl rfl hl.1 rfl (lv_room (Nat.le_of_ble_eq_true rfl)) dX7_loss_1 ⟨Nat.le_of_ble_eq_true rfl, Nat.le_of_ble_eq_true rfl⟩) hP hD hS hA [] rfl (fun _ _ h9 => h9.2) (fun r1 H locs hw2 hP hD hS => ?_)
  obtain ⟨hw2, -⟩ := hw2
  refine lv_if_eq (tgt := 29) hx hb dX7_loss_4 (by decide) (fun c3 => ?_) (fun c3 => ?_)
  · skip
    have hc3 : ¬ (0 ≤ p0 ∧ p0 ≤ 7) := bz_0 hw2 c3
    refine lv_iconst (v := (-1)) hx hb dX7_loss_29 (by decide) ?_
    refine k_iret (u := [(oX7 x x0 x1 x2 x3 x4 x5), (oX0 x0 b0 b1 b2 b3 b4 b5 b6 b7 b8 b9 b10 b11 (nI np) (nI nl) bi14), (aIc cI b10 10 B10), (aIc cI b11 10 B11)]) hx hb hr hlk hP hD hS dX7_loss_30 ?_
    exact Or.inr ⟨(fun q => hc3 q.1), rfl, rfl⟩
  · skip
    have hc3 : 0 ≤ p0 ∧ p0 ≤ 7 := bz_1 hw2 c3
    refine lv_iload_n hx hb dX7_loss_7 rfl (lv_at hl 2 rfl) ?_
    refine lv_iconst (v := 1) hx hb dX7_loss_8 (by decide) ?_
    refine lv_ldc (v := 1000000) hx hb hown (hts _ (List.mem_cons_of_mem _ wd_155)) dX7_loss_9 ?_
    refine k_iS (va_runS (As := [.int p1, .int 1, .int 1000000]) (rest := []) ⟨hx, hb, hml, hown, hts⟩ (m_X7_within l D cI cJ H.size p1 1 1000000) (va_cwS 3 hts gX7_loss_X7_within rfl rfl rfl (by decide +kernel) ⟨Nat.le_of_ble_eq_true rfl, Nat.le_of_ble_eq_true rfl⟩) (k_pre hE hP hD [] (by decide +kernel) rfl) rfl rfl hl.1 rfl (lv_room (Nat.le_of_ble_eq_true rfl)) dX7_loss_11 ⟨Nat.le_of_ble_eq_true rfl, Nat.le_of_ble_eq_true rfl⟩) hP hD hS hA [] rfl (fun _ _ h9 => h9.2) (fun r4 H locs hw5 hP hD hS => ?_)
    obtain ⟨hw5, -⟩ := hw5
    refine lv_if_eq (tgt := 29) hx hb dX7_loss_14 (by decide) (fun c6 => ?_) (fun c6 => ?_)
    · skip
      have hc6 : ¬ (1 ≤ p1 ∧ p1 ≤ 1000000) := bz_0 hw5 c6
      refine lv_iconst (v := (-1)) hx hb dX7_loss_29 (by decide) ?_
      refine k_iret (u := [(oX7 x x0 x1 x2 x3 x4 x5), (oX0 x0 b0 b1 b2 b3 b4 b5 b6 b7 b8 b9 b10 b11 (nI np) (nI nl) bi14), (aIc cI b10 10 B10), (aIc cI b11 10 B11)]) hx hb hr hlk hP hD hS dX7_loss_30 ?_
      exact Or.inr ⟨(fun q => hc6 q.2.1), rfl, rfl⟩
    · skip
      have hc6 : 1 ≤ p1 ∧ p1 ≤ 1000000 := bz_1 hw5 c6
      refine lv_aload_n hx hb dX7_loss_17 rfl (lv_at hl 0 rfl) ?_
      refine va_get (D := D) (ci := 7) (v := .ref x0) (C := RX7) (T := TX7) (N := 6) hx hb hts hiX7 hown hE.1 hP 0 rfl rfl 0 (by decide) (hts _ (List.mem_cons_of_mem _ wd_19)) (fun _ h9 => h9) rfl dX7_loss_18 ?_
      refine va_get (D := D) (ci := 0) (v := .int (nI nl)) (C := RX0) (T := TX0) (N := 15) hx hb hts hiX0 hown hE.1 hP 1 rfl rfl 13 (by decide) (hts _ (List.mem_cons_of_mem _ wd_244)) (fun _ h9 => h9) rfl dX7_loss_21 ?_
      refine lv_bipush (v := 10) hx hb dX7_loss_24 (by decide) ?_
      refine lv_icmp_lt (tgt := 31) hx hb dX7_loss_26 (by decide) (fun c7 => ?_) (fun c7 => ?_)
      · skip
        have nc7 : nl < 10 := (nI_ltI (a := nl) (b := 10) (by omega) (by omega)).mp c7
        refine lv_aload_n hx hb dX7_loss_31 rfl (lv_at hl 0 rfl) ?_
        refine va_get (D := D) (ci := 7) (v := .ref x0) (C := RX7) (T := TX7) (N := 6) hx hb hts hiX7 hown hE.1 hP 0 rfl rfl 0 (by decide) (hts _ (List.mem_cons_of_mem _ wd_19)) (fun _ h9 => h9) rfl dX7_loss_32 ?_
        refine va_get (D := D) (ci := 0) (v := .int (nI nl)) (C := RX0) (T := TX0) (N := 15) hx hb hts hiX0 hown hE.1 hP 1 rfl rfl 13 (by decide) (hts _ (List.mem_cons_of_mem _ wd_244)) (fun _ h9 => h9) rfl dX7_loss_35 ?_
        refine lv_istore_n (lv' := [(3, .int (nI nl)), (0, .ref x), (1, .int p0), (2, .int p1)]) hx hb dX7_loss_38 rfl hl (by decide) rfl (fun ls hl => ?_)
        refine lv_aload_n hx hb dX7_loss_39 rfl (lv_at hl 1 rfl) ?_
        refine va_get (D := D) (ci := 7) (v := .ref x0) (C := RX7) (T := TX7) (N := 6) hx hb hts hiX7 hown hE.1 hP 0 rfl rfl 0 (by decide) (hts _ (List.mem_cons_of_mem _ wd_19)) (fun _ h9 => h9) rfl dX7_loss_40 ?_
        refine va_get (D := D) (ci := 0) (v := .ref b10) (C := RX0) (T := TX0) (N := 15) hx hb hts hiX0 hown hE.1 hP 1 rfl rfl 10 (by decide) (hts _ (List.mem_cons_of_mem _ wd_245)) (fun _ h9 => h9) rfl dX7_loss_43 ?_
        refine lv_iload_n hx hb dX7_loss_46 rfl (lv_at hl 0 rfl) ?_
        refine lv_iload_n hx hb dX7_loss_47 rfl (lv_at hl 2 rfl) ?_
        refine va_iast hx hb hE.1 hP hD hS 2 0 rfl rfl (vp_in_nI (n := nl) (by omega) (by decide)) dX7_loss_48 (fun H locs hP hD hS => ?_)
        refine k_re (w := [(oX7 x x0 x1 x2 x3 x4 x5), (oX0 x0 b0 b1 b2 b3 b4 b5 b6 b7 b8 b9 b10 b11 (nI np) (nI nl) bi14), (aIc cI b10 10 (upd B10 (Int32.toNatClampNeg (nI nl)) p0)), (aIc cI b11 10 B11)]) hP hD (fun hP hD => ?_)
        refine lv_aload_n hx hb dX7_loss_49 rfl (lv_at hl 1 rfl) ?_
        refine va_get (D := D) (ci := 7) (v := .ref x0) (C := RX7) (T := TX7) (N := 6) hx hb hts hiX7 hown hE.1 hP 0 rfl rfl 0 (by decide) (hts _ (List.mem_cons_of_mem _ wd_19)) (fun _ h9 => h9) rfl dX7_loss_50 ?_
        refine va_get (D := D) (ci := 0) (v := .ref b11) (C := RX0) (T := TX0) (N := 15) hx hb hts hiX0 hown hE.1 hP 1 rfl rfl 11 (by decide) (hts _ (List.mem_cons_of_mem _ wd_246)) (fun _ h9 => h9) rfl dX7_loss_53 ?_
        refine lv_iload_n hx hb dX7_loss_56 rfl (lv_at hl 0 rfl) ?_
        refine lv_iload_n hx hb dX7_loss_57 rfl (lv_at hl 3 rfl) ?_
        refine va_iast hx hb hE.1 hP hD hS 3 0 rfl rfl (vp_in_nI (n := nl) (by omega) (by decide)) dX7_loss_58 (fun H locs hP hD hS => ?_)
        refine k_re (w := [(oX7 x x0 x1 x2 x3 x4 x5), (oX0 x0 b0 b1 b2 b3 b4 b5 b6 b7 b8 b9 b10 b11 (nI np) (nI nl) bi14), (aIc cI b10 10 (upd B10 (Int32.toNatClampNeg (nI nl)) p0)), (aIc cI b11 10 (upd B11 (Int32.toNatClampNeg (nI nl)) p1))]) hP hD (fun hP hD => ?_)
        refine lv_aload_n hx hb dX7_loss_59 rfl (lv_at hl 1 rfl) ?_
        refine va_get (D := D) (ci := 7) (v := .ref x0) (C := RX7) (T := TX7) (N := 6) hx hb hts hiX7 hown hE.1 hP 0 rfl rfl 0 (by decide) (hts _ (List.mem_cons_of_mem _ wd_19)) (fun _ h9 => h9) rfl dX7_loss_60 ?_
        refine lv_iload_n hx hb dX7_loss_63 rfl (lv_at hl 0 rfl) ?_
        refine lv_iconst (v := 1) hx hb dX7_loss_64 (by decide) ?_
        refine lv_iadd hx hb dX7_loss_65 ?_
        refine lv_topi (fun v8 ev8 => ?_)
        obtain rfl : v8 = (nI (nl + 1)) := by rw [ev8]; exact nI_add nl 1
        refine va_put (D := D) (ci := 0) (v := .int (nI (nl + 1))) (ty := .int) (C := RX0) (T := TX0) (N := 15) hx hb hts hiX0 tyX0 tyX0_ok nmX0 hown hE.1 hP hD hS 1 rfl rfl 13 (by decide) (hts _ (List.mem_cons_of_mem _ wd_244)) (fun _ h9 => h9) rfl (by decide +kernel) rfl rfl (Nat.le_of_ble_eq_true rfl) dX7_loss_66 (fun H locs hP hD hS => ?_)
        refine k_re (w := [(oX7 x x0 x1 x2 x3 x4 x5), (oX0 x0 b0 b1 b2 b3 b4 b5 b6 b7 b8 b9 b10 b11 (nI np) (nI (nl + 1)) bi14), (aIc cI b10 10 (upd B10 (Int32.toNatClampNeg (nI nl)) p0)), (aIc cI b11 10 (upd B11 (Int32.toNatClampNeg (nI nl)) p1))]) hP hD (fun hP hD => ?_)
        refine lv_iload_n hx hb dX7_loss_69 rfl (lv_at hl 0 rfl) ?_
        refine k_iret (u := [(oX7 x x0 x1 x2 x3 x4 x5), (oX0 x0 b0 b1 b2 b3 b4 b5 b6 b7 b8 b9 b10 b11 (nI np) (nI (nl + 1)) bi14), (aIc cI b10 10 (upd B10 (Int32.toNatClampNeg (nI nl)) p0)), (aIc cI b11 10 (upd B11 (Int32.toNatClampNeg (nI nl)) p1))]) hx hb hr hlk hP hD hS dX7_loss_70 ?_
        exact Or.inl ⟨⟨hc3, hc6, nc7⟩, rfl, rfl⟩
      · skip
        have nc7 : ¬ nl < 10 := fun q9 => c7 ((nI_ltI (a := nl) (b := 10) (by omega) (by omega)).mpr q9)
        refine lv_iconst (v := (-1)) hx hb dX7_loss_29 (by decide) ?_
        refine k_iret (u := [(oX7 x x0 x1 x2 x3 x4 x5), (oX0 x0 b0 b1 b2 b3 b4 b5 b6 b7 b8 b9 b10 b11 (nI np) (nI nl) bi14), (aIc cI b10 10 B10), (aIc cI b11 10 B11)]) hx hb hr hlk hP hD hS dX7_loss_30 ?_
        exact Or.inr ⟨(fun q => nc7 q.2.2), rfl, rfl⟩
theorem dX7_revoke_0 : decode cX7_revoke 0 = .ok (.aload_n 0, 1) := by decide +kernel
theorem dX7_revoke_1 : decode cX7_revoke 1 = .ok (.getfield 20, 3) := by decide +kernel
theorem dX7_revoke_4 : decode cX7_revoke 4 = .ok (.getfield 103, 3) := by decide +kernel
theorem dX7_revoke_7 : decode cX7_revoke 7 = .ok (.ifCond .ne 5, 3) := by decide +kernel
theorem dX7_revoke_10 : decode cX7_revoke 10 = .ok (.iconst (-1), 1) := by decide +kernel
theorem dX7_revoke_11 : decode cX7_revoke 11 = .ok (.ireturn, 1) := by decide +kernel
theorem dX7_revoke_12 : decode cX7_revoke 12 = .ok (.aload_n 0, 1) := by decide +kernel
theorem dX7_revoke_13 : decode cX7_revoke 13 = .ok (.getfield 20, 3) := by decide +kernel
theorem dX7_revoke_16 : decode cX7_revoke 16 = .ok (.dup, 1) := by decide +kernel
theorem dX7_revoke_17 : decode cX7_revoke 17 = .ok (.getfield 103, 3) := by decide +kernel
theorem dX7_revoke_20 : decode cX7_revoke 20 = .ok (.iconst 1, 1) := by decide +kernel
theorem dX7_revoke_21 : decode cX7_revoke 21 = .ok (.isub, 1) := by decide +kernel
theorem dX7_revoke_22 : decode cX7_revoke 22 = .ok (.putfield 103, 3) := by decide +kernel
theorem dX7_revoke_25 : decode cX7_revoke 25 = .ok (.aload_n 0, 1) := by decide +kernel
theorem dX7_revoke_26 : decode cX7_revoke 26 = .ok (.getfield 20, 3) := by decide +kernel
theorem dX7_revoke_29 : decode cX7_revoke 29 = .ok (.getfield 103, 3) := by decide +kernel
theorem dX7_revoke_32 : decode cX7_revoke 32 = .ok (.ireturn, 1) := by decide +kernel
set_option maxHeartbeats 4000000 in
set_option maxRecDepth 100000 in
theorem m_X7_revoke (l : Launch) (D : va_G) (cI cJ : ClassId) (sz : Nat) (x x0 x1 x2 x3 x4 x5 b0 b1 b2 b3 b4 b5 b6 b7 b8 b9 b10 b11 np nl : Nat) (bi14 : Int32) (hnl : nl ≤ 10) : Met l yX7_revoke wtX7_revoke { frames := 0, cells := 0, slots := 0, locals := 0 } (cPc D cI cJ [.ref x] sz [(oX7 x x0 x1 x2 x3 x4 x5), (oX0 x0 b0 b1 b2 b3 b4 b5 b6 b7 b8 b9 b10 b11 (nI np) (nI nl) bi14)]) (cQi D (fun r u => ((nl = 0) ∧ r = -1 ∧ u = [(oX7 x x0 x1 x2 x3 x4 x5), (oX0 x0 b0 b1 b2 b3 b4 b5 b6 b7 b8 b9 b10 b11 (nI np) (nI nl) bi14)]) ∨ ((¬ nl = 0) ∧ r = nI (nl - 1) ∧ u = [(oX7 x x0 x1 x2 x3 x4 x5), (oX0 x0 b0 b1 b2 b3 b4 b5 b6 b7 b8 b9 b10 b11 (nI np) (nI (nl - 1)) bi14)])) (va_A [(oX7 x x0 x1 x2 x3 x4 x5), (oX0 x0 b0 b1 b2 b3 b4 b5 b6 b7 b8 b9 b10 b11 (nI np) (nI nl) bi14)] sz)) 0 0 (va_A [(oX7 x x0 x1 x2 x3 x4 x5), (oX0 x0 b0 b1 b2 b3 b4 b5 b6 b7 b8 b9 b10 b11 (nI np) (nI nl) bi14)] sz) := by
  refine k_ofW (Qc := cQi D (fun r u => ((nl = 0) ∧ r = -1 ∧ u = [(oX7 x x0 x1 x2 x3 x4 x5), (oX0 x0 b0 b1 b2 b3 b4 b5 b6 b7 b8 b9 b10 b11 (nI np) (nI nl) bi14)]) ∨ ((¬ nl = 0) ∧ r = nI (nl - 1) ∧ u = [(oX7 x x0 x1 x2 x3 x4 x5), (oX0 x0 b0 b1 b2 b3 b4 b5 b6 b7 b8 b9 b10 b11 (nI np) (nI (nl - 1)) bi14)]))) (by decide) rfl (Nat.le_of_ble_eq_true rfl) ?_
  intro p e s m below meth c A ls hx hb hr hml hts hown hlk hnm hsz hE hP hD hS hA hl
  have hown : s.vm.findClass RX7 = some m.cls := hown
  have hiX7 : ∀ w ∈ u_ws RX7 TX7 6, w ∈ wtX7_revoke := fun w h => List.mem_cons_of_mem _ (iuX7 w h)
  have hiX0 : ∀ w ∈ u_ws RX0 TX0 15, w ∈ wtX7_revoke := fun w h => List.mem_cons_of_mem _ (iuX0 w h)
  have hl : lv_has ls 1 [(0, .ref x)] := hl
  refine lv_aload_n hx hb dX7_revoke_0 rfl (lv_at hl 0 rfl) ?_
  refine va_get (D := D) (ci := 7) (v := .ref x0) (C := RX7) (T := TX7) (N := 6) hx hb hts hiX7 hown hE.1 hP 0 rfl rfl 0 (by decide) (hts _ (List.mem_cons_of_mem _ wd_19)) (fun _ h9 => h9) rfl dX7_revoke_1 ?_
  refine va_get (D := D) (ci := 0) (v := .int (nI nl)) (C := RX0) (T := TX0) (N := 15) hx hb hts hiX0 hown hE.1 hP 1 rfl rfl 13 (by decide) (hts _ (List.mem_cons_of_mem _ wd_244)) (fun _ h9 => h9) rfl dX7_revoke_4 ?_
  refine lv_if_ne (tgt := 12) hx hb dX7_revoke_7 (by decide) (fun c1 => ?_) (fun c1 => ?_)
  · skip
    have nc1 : ¬ nl = 0 := fun q9 => c1 ((nI_eq (a := nl) (b := 0) (by omega) (by omega)).mpr q9)
    refine lv_aload_n hx hb dX7_revoke_12 rfl (lv_at hl 0 rfl) ?_
    refine va_get (D := D) (ci := 7) (v := .ref x0) (C := RX7) (T := TX7) (N := 6) hx hb hts hiX7 hown hE.1 hP 0 rfl rfl 0 (by decide) (hts _ (List.mem_cons_of_mem _ wd_19)) (fun _ h9 => h9) rfl dX7_revoke_13 ?_
    refine lv_dup hx hb dX7_revoke_16 rfl ?_
    refine va_get (D := D) (ci := 0) (v := .int (nI nl)) (C := RX0) (T := TX0) (N := 15) hx hb hts hiX0 hown hE.1 hP 1 rfl rfl 13 (by decide) (hts _ (List.mem_cons_of_mem _ wd_244)) (fun _ h9 => h9) rfl dX7_revoke_17 ?_
    refine lv_iconst (v := 1) hx hb dX7_revoke_20 (by decide) ?_
    refine lv_isub hx hb dX7_revoke_21 ?_
    refine lv_topi (fun v2 ev2 => ?_)
    obtain rfl : v2 = nI (nl - 1) := by rw [ev2]; exact pk_sub (a := nl) (b := 1) (by omega)
    refine va_put (D := D) (ci := 0) (v := .int (nI (nl - 1))) (ty := .int) (C := RX0) (T := TX0) (N := 15) hx hb hts hiX0 tyX0 tyX0_ok nmX0 hown hE.1 hP hD hS 1 rfl rfl 13 (by decide) (hts _ (List.mem_cons_of_mem _ wd_244)) (fun _ h9 => h9) rfl (by decide +kernel) rfl rfl (Nat.le_of_ble_eq_true rfl) dX7_revoke_22 (fun H locs hP hD hS => ?_)
    refine k_re (w := [(oX7 x x0 x1 x2 x3 x4 x5), (oX0 x0 b0 b1 b2 b3 b4 b5 b6 b7 b8 b9 b10 b11 (nI np) (nI (nl - 1)) bi14)]) hP hD (fun hP hD => ?_)
    refine lv_aload_n hx hb dX7_revoke_25 rfl (lv_at hl 0 rfl) ?_
    refine va_get (D := D) (ci := 7) (v := .ref x0) (C := RX7) (T := TX7) (N := 6) hx hb hts hiX7 hown hE.1 hP 0 rfl rfl 0 (by decide) (hts _ (List.mem_cons_of_mem _ wd_19)) (fun _ h9 => h9) rfl dX7_revoke_26 ?_
    refine va_get (D := D) (ci := 0) (v := .int (nI (nl - 1))) (C := RX0) (T := TX0) (N := 15) hx hb hts hiX0 hown hE.1 hP 1 rfl rfl 13 (by decide) (hts _ (List.mem_cons_of_mem _ wd_244)) (fun _ h9 => h9) rfl dX7_revoke_29 ?_
    refine k_iret (u := [(oX7 x x0 x1 x2 x3 x4 x5), (oX0 x0 b0 b1 b2 b3 b4 b5 b6 b7 b8 b9 b10 b11 (nI np) (nI (nl - 1)) bi14)]) hx hb hr hlk hP hD hS dX7_revoke_32 ?_
    exact Or.inr ⟨nc1, rfl, rfl⟩
  · skip
    have nc1 : nl = 0 := (nI_eq (a := nl) (b := 0) (by omega) (by omega)).mp c1
    refine lv_iconst (v := (-1)) hx hb dX7_revoke_10 (by decide) ?_
    refine k_iret (u := [(oX7 x x0 x1 x2 x3 x4 x5), (oX0 x0 b0 b1 b2 b3 b4 b5 b6 b7 b8 b9 b10 b11 (nI np) (nI nl) bi14)]) hx hb hr hlk hP hD hS dX7_revoke_11 ?_
    exact Or.inl ⟨nc1, rfl, rfl⟩
theorem dX7_rule_0 : decode cX7_rule 0 = .ok (.aload_n 0, 1) := by decide +kernel
theorem dX7_rule_1 : decode cX7_rule 1 = .ok (.getfield 20, 3) := by decide +kernel
theorem dX7_rule_4 : decode cX7_rule 4 = .ok (.iconst 1, 1) := by decide +kernel
theorem dX7_rule_5 : decode cX7_rule 5 = .ok (.aload_n 0, 1) := by decide +kernel
theorem dX7_rule_6 : decode cX7_rule 6 = .ok (.getfield 20, 3) := by decide +kernel
theorem dX7_rule_9 : decode cX7_rule 9 = .ok (.getfield 112, 3) := by decide +kernel
theorem dX7_rule_12 : decode cX7_rule 12 = .ok (.isub, 1) := by decide +kernel
theorem dX7_rule_13 : decode cX7_rule 13 = .ok (.putfield 112, 3) := by decide +kernel
theorem dX7_rule_16 : decode cX7_rule 16 = .ok (.aload_n 0, 1) := by decide +kernel
theorem dX7_rule_17 : decode cX7_rule 17 = .ok (.getfield 20, 3) := by decide +kernel
theorem dX7_rule_20 : decode cX7_rule 20 = .ok (.getfield 112, 3) := by decide +kernel
theorem dX7_rule_23 : decode cX7_rule 23 = .ok (.ireturn, 1) := by decide +kernel
set_option maxHeartbeats 4000000 in
set_option maxRecDepth 100000 in
theorem m_X7_rule (l : Launch) (D : va_G) (cI cJ : ClassId) (sz : Nat) (x x0 x1 x2 x3 x4 x5 b0 b1 b2 b3 b4 b5 b6 b7 b8 b9 b10 b11 np nl : Nat) (bi14 r1 : Int32) (hr1 : r1 = 1 - bi14) : Met l yX7_rule wtX7_rule { frames := 0, cells := 0, slots := 0, locals := 0 } (cPc D cI cJ [.ref x] sz [(oX7 x x0 x1 x2 x3 x4 x5), (oX0 x0 b0 b1 b2 b3 b4 b5 b6 b7 b8 b9 b10 b11 (nI np) (nI nl) bi14)]) (cQi D (fun r u => ((True) ∧ r = r1 ∧ u = [(oX7 x x0 x1 x2 x3 x4 x5), (oX0 x0 b0 b1 b2 b3 b4 b5 b6 b7 b8 b9 b10 b11 (nI np) (nI nl) r1)])) (va_A [(oX7 x x0 x1 x2 x3 x4 x5), (oX0 x0 b0 b1 b2 b3 b4 b5 b6 b7 b8 b9 b10 b11 (nI np) (nI nl) bi14)] sz)) 0 0 (va_A [(oX7 x x0 x1 x2 x3 x4 x5), (oX0 x0 b0 b1 b2 b3 b4 b5 b6 b7 b8 b9 b10 b11 (nI np) (nI nl) bi14)] sz) := by
  refine k_ofW (Qc := cQi D (fun r u => ((True) ∧ r = r1 ∧ u = [(oX7 x x0 x1 x2 x3 x4 x5), (oX0 x0 b0 b1 b2 b3 b4 b5 b6 b7 b8 b9 b10 b11 (nI np) (nI nl) r1)]))) (by decide) rfl (Nat.le_of_ble_eq_true rfl) ?_
  intro p e s m below meth c A ls hx hb hr hml hts hown hlk hnm hsz hE hP hD hS hA hl
  have hown : s.vm.findClass RX7 = some m.cls := hown
  have hiX7 : ∀ w ∈ u_ws RX7 TX7 6, w ∈ wtX7_rule := fun w h => List.mem_cons_of_mem _ (iuX7 w h)
  have hiX0 : ∀ w ∈ u_ws RX0 TX0 15, w ∈ wtX7_rule := fun w h => List.mem_cons_of_mem _ (iuX0 w h)
  have hl : lv_has ls 1 [(0, .ref x)] := hl
  refine lv_aload_n hx hb dX7_rule_0 rfl (lv_at hl 0 rfl) ?_
  refine va_get (D := D) (ci := 7) (v := .ref x0) (C := RX7) (T := TX7) (N := 6) hx hb hts hiX7 hown hE.1 hP 0 rfl rfl 0 (by decide) (hts _ (List.mem_cons_of_mem _ wd_19)) (fun _ h9 => h9) rfl dX7_rule_1 ?_
  refine lv_iconst (v := 1) hx hb dX7_rule_4 (by decide) ?_
  refine lv_aload_n hx hb dX7_rule_5 rfl (lv_at hl 0 rfl) ?_
  refine va_get (D := D) (ci := 7) (v := .ref x0) (C := RX7) (T := TX7) (N := 6) hx hb hts hiX7 hown hE.1 hP 0 rfl rfl 0 (by decide) (hts _ (List.mem_cons_of_mem _ wd_19)) (fun _ h9 => h9) rfl dX7_rule_6 ?_
  refine va_get (D := D) (ci := 0) (v := .int bi14) (C := RX0) (T := TX0) (N := 15) hx hb hts hiX0 hown hE.1 hP 1 rfl rfl 14 (by decide) (hts _ (List.mem_cons_of_mem _ wd_264)) (fun _ h9 => h9) rfl dX7_rule_9 ?_
  refine lv_isub hx hb dX7_rule_12 ?_
  rw [← hr1]
  refine va_put (D := D) (ci := 0) (v := .int r1) (ty := .int) (C := RX0) (T := TX0) (N := 15) hx hb hts hiX0 tyX0 tyX0_ok nmX0 hown hE.1 hP hD hS 1 rfl rfl 14 (by decide) (hts _ (List.mem_cons_of_mem _ wd_264)) (fun _ h9 => h9) rfl (by decide +kernel) rfl rfl (Nat.le_of_ble_eq_true rfl) dX7_rule_13 (fun H locs hP hD hS => ?_)
  refine k_re (w := [(oX7 x x0 x1 x2 x3 x4 x5), (oX0 x0 b0 b1 b2 b3 b4 b5 b6 b7 b8 b9 b10 b11 (nI np) (nI nl) r1)]) hP hD (fun hP hD => ?_)
  refine lv_aload_n hx hb dX7_rule_16 rfl (lv_at hl 0 rfl) ?_
  refine va_get (D := D) (ci := 7) (v := .ref x0) (C := RX7) (T := TX7) (N := 6) hx hb hts hiX7 hown hE.1 hP 0 rfl rfl 0 (by decide) (hts _ (List.mem_cons_of_mem _ wd_19)) (fun _ h9 => h9) rfl dX7_rule_17 ?_
  refine va_get (D := D) (ci := 0) (v := .int r1) (C := RX0) (T := TX0) (N := 15) hx hb hts hiX0 hown hE.1 hP 1 rfl rfl 14 (by decide) (hts _ (List.mem_cons_of_mem _ wd_264)) (fun _ h9 => h9) rfl dX7_rule_20 ?_
  refine k_iret (u := [(oX7 x x0 x1 x2 x3 x4 x5), (oX0 x0 b0 b1 b2 b3 b4 b5 b6 b7 b8 b9 b10 b11 (nI np) (nI nl) r1)]) hx hb hr hlk hP hD hS dX7_rule_23 ?_
  exact ⟨trivial, rfl, rfl⟩

