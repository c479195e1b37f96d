set_option maxHeartbeats 4000000 in
set_option maxRecDepth 100000 in
theorem m_X3_put2 (l : Launch) (D : va_G) (cI cJ : ClassId) (sz : Nat) (x4 dr0 dr1 : Nat) (k po to : Int32) (DR0 DR1 : Nat → Int32) (hk : vp_in k 32) : Met l yX3_put wtX3_put { frames := 0, cells := 0, slots := 0, locals := 0 } (cPc D cI cJ [.ref x4, .int k, .int po, .int to] sz [(oX3 x4 dr0 dr1), (aIc cI dr0 32 DR0), (aIc cI dr1 32 DR1)]) (cQv D (fun u => u = [(oX3 x4 dr0 dr1), (aIc cI dr0 32 (upd DR0 (Int32.toNatClampNeg k) po)), (aIc cI dr1 32 (upd DR1 (Int32.toNatClampNeg k) to))]) (va_A [(oX3 x4 dr0 dr1), (aIc cI dr0 32 DR0), (aIc cI dr1 32 DR1)] sz)) 0 0 (va_A [(oX3 x4 dr0 dr1), (aIc cI dr0 32 DR0), (aIc cI dr1 32 DR1)] sz) := by
  refine k_ofW (Qc := cQv D (fun u => u = [(oX3 x4 dr0 dr1), (aIc cI dr0 32 (upd DR0 (Int32.toNatClampNeg k) po)), (aIc cI dr1 32 (upd DR1 (Int32.toNatClampNeg k) to))])) (by decide) rfl (Nat.le_of_ble_eq_true rfl) ?_
  intro p e s m below meth c A ls hx hb hr hml hts hown hlk hnm hsz hE hP hD hS hA hl
  have hown : s.vm.findClass RX3 = some m.cls := hown
  have hiX3 : ∀ w ∈ u_ws RX3 TX3 2, w ∈ wtX3_put := fun w h => List.mem_cons_of_mem _ (iuX3 w h)
  have hl : lv_has ls 4 [(0, .ref x4), (1, .int k), (2, .int po), (3, .int to)] := hl
  refine lv_aload_n hx hb dX3_put_0 rfl (lv_at hl 0 rfl) ?_
  refine va_get (D := D) (ci := 3) (v := .ref dr0) (C := RX3) (T := TX3) (N := 2) hx hb hts hiX3 hown hE.1 hP 0 rfl rfl 0 (by decide) (hts _ (List.mem_cons_of_mem _ wd_109)) (fun _ h9 => h9) rfl dX3_put_1 ?_
  refine lv_iload_n hx hb dX3_put_4 rfl (lv_at hl 1 rfl) ?_
  refine lv_iload_n hx hb dX3_put_5 rfl (lv_at hl 2 rfl) ?_
  refine va_iast hx hb hE.1 hP hD hS 1 0 rfl rfl hk dX3_put_6 (fun H locs hP hD hS => ?_)
  refine k_re (w := [(oX3 x4 dr0 dr1), (aIc cI dr0 32 (upd DR0 (Int32.toNatClampNeg k) po)), (aIc cI dr1 32 DR1)]) hP hD (fun hP hD => ?_)
  refine lv_aload_n hx hb dX3_put_7 rfl (lv_at hl 0 rfl) ?_
  refine va_get (D := D) (ci := 3) (v := .ref dr1) (C := RX3) (T := TX3) (N := 2) hx hb hts hiX3 hown hE.1 hP 0 rfl rfl 1 (by decide) (hts _ (List.mem_cons_of_mem _ wd_110)) (fun _ h9 => h9) rfl dX3_put_8 ?_
  refine lv_iload_n hx hb dX3_put_11 rfl (lv_at hl 1 rfl) ?_
  refine lv_iload_n hx hb dX3_put_12 rfl (lv_at hl 3 rfl) ?_
  refine va_iast hx hb hE.1 hP hD hS 2 0 rfl rfl hk dX3_put_13 (fun H locs hP hD hS => ?_)
  refine k_re (w := [(oX3 x4 dr0 dr1), (aIc cI dr0 32 (upd DR0 (Int32.toNatClampNeg k) po)), (aIc cI dr1 32 (upd DR1 (Int32.toNatClampNeg k) to))]) hP hD (fun hP hD => ?_)
  refine k_vret (u := [(oX3 x4 dr0 dr1), (aIc cI dr0 32 (upd DR0 (Int32.toNatClampNeg k) po)), (aIc cI dr1 32 (upd DR1 (Int32.toNatClampNeg k) to))]) hx hb hr hlk hP hD hS dX3_put_14 ?_
  exact rfl
theorem vi_32c {a b : Int32} (h : (0 ≤ a ∧ a ≤ 3) ∧ 0 ≤ b ∧ b ≤ 7) : vp_in ((a * 8) + b) 32 := by
  rw [Int32.mul_comm a 8]; exact vi_32m h
theorem dX7_file_0 : decode cX7_file 0 = .ok (.iload_n 1, 1) := by decide +kernel
theorem dX7_file_1 : decode cX7_file 1 = .ok (.iload_n 2, 1) := by decide +kernel
theorem dX7_file_2 : decode cX7_file 2 = .ok (.invokestatic 325, 3) := by decide +kernel
theorem dX7_file_5 : decode cX7_file 5 = .ok (.ifCond .eq 11, 3) := by decide +kernel
theorem dX7_file_8 : decode cX7_file 8 = .ok (.aload_n 0, 1) := by decide +kernel
theorem dX7_file_9 : decode cX7_file 9 = .ok (.iload_n 3, 1) := by decide +kernel
theorem dX7_file_10 : decode cX7_file 10 = .ok (.invokevirtual 74, 3) := by decide +kernel
theorem dX7_file_13 : decode cX7_file 13 = .ok (.ifCond .ne 5, 3) := by decide +kernel
theorem dX7_file_16 : decode cX7_file 16 = .ok (.iconst (-1), 1) := by decide +kernel
theorem dX7_file_17 : decode cX7_file 17 = .ok (.ireturn, 1) := by decide +kernel
theorem dX7_file_18 : decode cX7_file 18 = .ok (.aload_n 0, 1) := by decide +kernel
theorem dX7_file_19 : decode cX7_file 19 = .ok (.getfield 20, 3) := by decide +kernel
theorem dX7_file_22 : decode cX7_file 22 = .ok (.getfield 81, 3) := by decide +kernel
theorem dX7_file_25 : decode cX7_file 25 = .ok (.iload_n 3, 1) := by decide +kernel
theorem dX7_file_26 : decode cX7_file 26 = .ok (.iaload, 1) := by decide +kernel
theorem dX7_file_27 : decode cX7_file 27 = .ok (.iload_n 1, 1) := by decide +kernel
theorem dX7_file_28 : decode cX7_file 28 = .ok (.if_icmp .eq 6, 3) := by decide +kernel
theorem dX7_file_31 : decode cX7_file 31 = .ok (.bipush (-2), 2) := by decide +kernel
theorem dX7_file_33 : decode cX7_file 33 = .ok (.ireturn, 1) := by decide +kernel
theorem dX7_file_34 : decode cX7_file 34 = .ok (.aload_n 0, 1) := by decide +kernel
theorem dX7_file_35 : decode cX7_file 35 = .ok (.getfield 38, 3) := by decide +kernel
theorem dX7_file_38 : decode cX7_file 38 = .ok (.iload_n 1, 1) := by decide +kernel
theorem dX7_file_39 : decode cX7_file 39 = .ok (.bipush 8, 2) := by decide +kernel
theorem dX7_file_41 : decode cX7_file 41 = .ok (.imul, 1) := by decide +kernel
theorem dX7_file_42 : decode cX7_file 42 = .ok (.iload_n 2, 1) := by decide +kernel
theorem dX7_file_43 : decode cX7_file 43 = .ok (.iadd, 1) := by decide +kernel
theorem dX7_file_44 : decode cX7_file 44 = .ok (.iload_n 3, 1) := by decide +kernel
theorem dX7_file_45 : decode cX7_file 45 = .ok (.aload_n 0, 1) := by decide +kernel
theorem dX7_file_46 : decode cX7_file 46 = .ok (.getfield 20, 3) := by decide +kernel
theorem dX7_file_49 : decode cX7_file 49 = .ok (.getfield 84, 3) := by decide +kernel
theorem dX7_file_52 : decode cX7_file 52 = .ok (.iload_n 3, 1) := by decide +kernel
theorem dX7_file_53 : decode cX7_file 53 = .ok (.iaload, 1) := by decide +kernel
theorem dX7_file_54 : decode cX7_file 54 = .ok (.invokevirtual 328, 3) := by decide +kernel
theorem dX7_file_57 : decode cX7_file 57 = .ok (.iconst 0, 1) := by decide +kernel
theorem dX7_file_58 : decode cX7_file 58 = .ok (.ireturn, 1) := by decide +kernel
theorem gX7_file_X3_put : GoodIn wtX7_file (wsV RX7 328 RX3 yX3_put wtX3_put) := tb_good (tb_v0 wd_940 wd_941 wd_942 wd_30 wd_943)
theorem gX7_file_X7_isPlace : GoodIn wtX7_file (va_wsS RX7 325 yX7_isPlace wtX7_isPlace) := tb_good (tb_s0 wd_937 wd_938 wd_2 wd_939)
theorem gX7_file_X7_isPolicy : GoodIn wtX7_file (wsV RX7 74 RX7 yX7_isPolicy wtX7_isPolicy) := tb_good (tb_v0 wd_186 wd_187 wd_188 wd_2 wd_189)
set_option maxHeartbeats 4000000 in
set_option maxRecDepth 100000 in
theorem m_X7_file (l : Launch) (D : va_G) (cI cJ : ClassId) (sz : Nat) (x x0 x1 x2 x3 x4 x5 b0 b1 b2 b3 b4 b5 b6 b7 b8 b9 b10 b11 dr0 dr1 np nl : Nat) (bi14 p0 p1 p2 : Int32) (B5 B6 DR0 DR1 : Nat → Int32) (hnp : np ≤ 8) : Met l yX7_file wtX7_file { frames := 2, cells := 0, slots := 0, locals := 43 } (cPc D cI cJ [.ref x, .int p0, .int p1, .int p2] sz [(oX7 x x0 x1 x2 x3 x4 x5), (oX0 x0 b0 b1 b2 b3 b4 b5 b6 b7 b8 b9 b10 b11 (nI np) (nI nl) bi14), (aIc cI b5 8 B5), (aIc cI b6 8 B6), (oX3 x4 dr0 dr1), (aIc cI dr0 32 DR0), (aIc cI dr1 32 DR1)]) (cQi D (fun r u => (((((0 ≤ p0 ∧ p0 ≤ 3) ∧ 0 ≤ p1 ∧ p1 ≤ 7) ∧ (0 ≤ p2 ∧ p2 ≤ nI np - 1)) ∧ B5 (Int32.toNatClampNeg p2) = p0) ∧ r = 0 ∧ u = [(oX7 x x0 x1 x2 x3 x4 x5), (oX0 x0 b0 b1 b2 b3 b4 b5 b6 b7 b8 b9 b10 b11 (nI np) (nI nl) bi14), (aIc cI b5 8 B5), (aIc cI b6 8 B6), (oX3 x4 dr0 dr1), (aIc cI dr0 32 (upd DR0 (Int32.toNatClampNeg ((p0 * 8) + p1)) p2)), (aIc cI dr1 32 (upd DR1 (Int32.toNatClampNeg ((p0 * 8) + p1)) (B6 (Int32.toNatClampNeg p2))))]) ∨ ((¬ (((0 ≤ p0 ∧ p0 ≤ 3) ∧ 0 ≤ p1 ∧ p1 ≤ 7) ∧ (0 ≤ p2 ∧ p2 ≤ nI np - 1))) ∧ r = -1 ∧ u = [(oX7 x x0 x1 x2 x3 x4 x5), (oX0 x0 b0 b1 b2 b3 b4 b5 b6 b7 b8 b9 b10 b11 (nI np) (nI nl) bi14), (aIc cI b5 8 B5), (aIc cI b6 8 B6), (oX3 x4 dr0 dr1), (aIc cI dr0 32 DR0), (aIc cI dr1 32 DR1)]) ∨ (((((0 ≤ p0 ∧ p0 ≤ 3) ∧ 0 ≤ p1 ∧ p1 ≤ 7) ∧ (0 ≤ p2 ∧ p2 ≤ nI np - 1)) ∧ ¬ B5 (Int32.toNatClampNeg p2) = p0) ∧ r = -2 ∧ u = [(oX7 x x0 x1 x2 x3 x4 x5), (oX0 x0 b0 b1 b2 b3 b4 b5 b6 b7 b8 b9 b10 b11 (nI np) (nI nl) bi14), (aIc cI b5 8 B5), (aIc cI b6 8 B6), (oX3 x4 dr0 dr1), (aIc cI dr0 32 DR0), (aIc cI dr1 32 DR1)])) (va_A [(oX7 x x0 x1 x2 x3 x4 x5), (oX0 x0 b0 b1 b2 b3 b4 b5 b6 b7 b8 b9 b10 b11 (nI np) (nI nl) bi14), (aIc cI b5 8 B5), (aIc cI b6 8 B6), (oX3 x4 dr0 dr1), (aIc cI dr0 32 DR0), (aIc cI dr1 32 DR1)] sz)) 0 0 (va_A [(oX7 x x0 x1 x2 x3 x4 x5), (oX0 x0 b0 b1 b2 b3 b4 b5 b6 b7 b8 b9 b10 b11 (nI np) (nI nl) bi14), (aIc cI b5 8 B5), (aIc cI b6 8 B6), (oX3 x4 dr0 dr1), (aIc cI dr0 32 DR0), (aIc cI dr1 32 DR1)] sz) := by
  refine k_ofW (Qc := cQi D (fun r u => (((((0 ≤ p0 ∧ p0 ≤ 3) ∧ 0 ≤ p1 ∧ p1 ≤ 7) ∧ (0 ≤ p2 ∧ p2 ≤ nI np - 1)) ∧ B5 (Int32.toNatClampNeg p2) = p0) ∧ r = 0 ∧ u = [(oX7 x x0 x1 x2 x3 x4 x5), (oX0 x0 b0 b1 b2 b3 b4 b5 b6 b7 b8 b9 b10 b11 (nI np) (nI nl) bi14), (aIc cI b5 8 B5), (aIc cI b6 8 B6), (oX3 x4 dr0 dr1), (aIc cI dr0 32 (upd DR0 (Int32.toNatClampNeg ((p0 * 8) + p1)) p2)), (aIc cI dr1 32 (upd DR1 (Int32.toNatClampNeg ((p0 * 8) + p1)) (B6 (Int32.toNatClampNeg p2))))]) ∨ ((¬ (((0 ≤ p0 ∧ p0 ≤ 3) ∧ 0 ≤ p1 ∧ p1 ≤ 7) ∧ (0 ≤ p2 ∧ p2 ≤ nI np - 1))) ∧ r = -1 ∧ u = [(oX7 x x0 x1 x2 x3 x4 x5), (oX0 x0 b0 b1 b2 b3 b4 b5 b6 b7 b8 b9 b10 b11 (nI np) (nI nl) bi14), (aIc cI b5 8 B5), (aIc cI b6 8 B6), (oX3 x4 dr0 dr1), (aIc cI dr0 32 DR0), (aIc cI dr1 32 DR1)]) ∨ (((((0 ≤ p0 ∧ p0 ≤ 3) ∧ 0 ≤ p1 ∧ p1 ≤ 7) ∧ (0 ≤ p2 ∧ p2 ≤ nI np - 1)) ∧ ¬ B5 (Int32.toNatClampNeg p2) = p0) ∧ r = -2 ∧ u = [(oX7 x x0 x1 x2 x3 x4 x5), (oX0 x0 b0 b1 b2 b3 b4 b5 b6 b7 b8 b9 b10 b11 (nI np) (nI nl) bi14), (aIc cI b5 8 B5), (aIc cI b6 8 B6), (oX3 x4 dr0 dr1), (aIc cI dr0 32 DR0), (aIc cI dr1 32 DR1)]))) (by decide) rfl (Nat.le_of_ble_eq_true rfl) ?_
  intro p e s m below meth c A ls hx hb hr hml hts hown hlk hnm hsz hE hP hD hS hA hl
  have hown : s.vm.findClass RX7 = some m.cls := hown
  have hiX7 : ∀ w ∈ u_ws RX7 TX7 6, w ∈ wtX7_file := fun w h => List.mem_cons_of_mem _ (iuX7 w h)
  have hiX0 : ∀ w ∈ u_ws RX0 TX0 15, w ∈ wtX7_file := fun w h => List.mem_cons_of_mem _ (iuX0 w h)
  have hl : lv_has ls 4 [(0, .ref x), (1, .int p0), (2, .int p1), (3, .int p2)] := hl
  refine lv_iload_n hx hb dX7_file_0 rfl (lv_at hl 1 rfl) ?_
  refine lv_iload_n hx hb dX7_file_1 rfl (lv_at hl 2 rfl) ?_
  refine k_iS (va_runS (As := [.int p0, .int p1]) (rest := []) ⟨hx, hb, hml, hown, hts⟩ (m_X7_isPlace l D cI cJ (s.heap).size p0 p1) (va_cwS 2 hts gX7_file_X7_isPlace rfl rfl rfl (by decide +kernel) ⟨Nat.le_of_ble_eq_true rfl, Nat.le_of_ble_eq_true rfl⟩) (k_pre hE hP hD [] (by decide +kernel) rfl) rfl rfl hl.1 rfl (lv_room (Nat.le_of_ble_eq_true rfl)) dX7_file_2 ⟨Nat.le_of_ble_eq_true rfl, Nat.le_of_ble_eq_true rfl⟩) hP hD hS hA [] rfl (fun _ _ h9 => h9.2) (fun r1 H locs hw2 hP hD hS => ?_)
  obtain ⟨hw2, -⟩ := hw2
  refine lv_if_eq (tgt := 16) hx hb dX7_file_5 (by decide) (fun c3 => ?_) (fun c3 => ?_)
  · skip
    have hc3 : ¬ ((0 ≤ p0 ∧ p0 ≤ 3) ∧ 0 ≤ p1 ∧ p1 ≤ 7) := bz_0 hw2 c3
    refine lv_iconst (v := (-1)) hx hb dX7_file_16 (by decide) ?_
    refine k_iret (u := [(oX7 x x0 x1 x2 x3 x4 x5), (oX0 x0 b0 b1 b2 b3 b4 b5 b6 b7 b8 b9 b10 b11 (nI np) (nI nl) bi14), (aIc cI b5 8 B5), (aIc cI b6 8 B6), (oX3 x4 dr0 dr1), (aIc cI dr0 32 DR0), (aIc cI dr1 32 DR1)]) hx hb hr hlk hP hD hS dX7_file_17 ?_
    exact Or.inr (Or.inl ⟨(fun q => hc3 q.1), rfl, rfl⟩)
  · skip
    have hc3 : (0 ≤ p0 ∧ p0 ≤ 3) ∧ 0 ≤ p1 ∧ p1 ≤ 7 := bz_1 hw2 c3
    refine lv_aload_n hx hb dX7_file_8 rfl (lv_at hl 0 rfl) ?_
    refine lv_iload_n hx hb dX7_file_9 rfl (lv_at hl 3 rfl) ?_
    refine k_iS (va_runV (As := [.int p2]) (rest := []) ⟨hx, hb, hml, hown, hts⟩ (m_X7_isPolicy l D cI cJ H.size x x0 x1 x2 x3 x4 x5 b0 b1 b2 b3 b4 b5 b6 b7 b8 b9 b10 b11 (nI np) (nI nl) bi14 p2) (cwV 1 hts gX7_file_X7_isPolicy rfl rfl rfl (by decide +kernel) ⟨Nat.le_of_ble_eq_true rfl, Nat.le_of_ble_eq_true rfl⟩) (k_preV hE hP hD [0, 1] (by decide +kernel) rfl 0 rfl rfl) rfl rfl hl.1 rfl (lv_room (Nat.le_of_ble_eq_true rfl)) dX7_file_10 ⟨Nat.le_of_ble_eq_true rfl, Nat.le_of_ble_eq_true rfl⟩) hP hD hS hA [0, 1] rfl (fun _ _ h9 => h9.2) (fun r4 H locs hw5 hP hD hS => ?_)
    obtain ⟨hw5, -⟩ := hw5
    refine lv_if_ne (tgt := 18) hx hb dX7_file_13 (by decide) (fun c6 => ?_) (fun c6 => ?_)
    · skip
      have hc6 : 0 ≤ p2 ∧ p2 ≤ (nI np) - 1 := bz_1 hw5 c6
      refine lv_aload_n hx hb dX7_file_18 rfl (lv_at hl 0 rfl) ?_
      refine va_get (D := D) (ci := 7) (v := .ref x0) (C := RX7) (T := TX7) (N := 6) hx hb hts hiX7 hown hE.1 hP 0 rfl rfl 0 (by decide) (hts _ (List.mem_cons_of_mem _ wd_19)) (fun _ h9 => h9) rfl dX7_file_19 ?_
      refine va_get (D := D) (ci := 0) (v := .ref b5) (C := RX0) (T := TX0) (N := 15) hx hb hts hiX0 hown hE.1 hP 1 rfl rfl 5 (by decide) (hts _ (List.mem_cons_of_mem _ wd_184)) (fun _ h9 => h9) rfl dX7_file_22 ?_
      refine lv_iload_n hx hb dX7_file_25 rfl (lv_at hl 3 rfl) ?_
      refine va_iald hx hb hE.1 hP 2 0 rfl rfl (by obtain ⟨j9, h9, e9⟩ := wi_n (by omega) hc6; rw [e9]; exact vp_in_nI (by omega) (by decide)) dX7_file_26 ?_
      refine lv_iload_n hx hb dX7_file_27 rfl (lv_at hl 1 rfl) ?_
      refine lv_icmp_eq (tgt := 34) hx hb dX7_file_28 (by decide) (fun c7 => ?_) (fun c7 => ?_)
      · skip
        refine lv_aload_n hx hb dX7_file_34 rfl (lv_at hl 0 rfl) ?_
        refine va_get (D := D) (ci := 7) (v := .ref x4) (C := RX7) (T := TX7) (N := 6) hx hb hts hiX7 hown hE.1 hP 0 rfl rfl 4 (by decide) (hts _ (List.mem_cons_of_mem _ wd_31)) (fun _ h9 => h9) rfl dX7_file_35 ?_
        refine lv_iload_n hx hb dX7_file_38 rfl (lv_at hl 1 rfl) ?_
        refine lv_bipush (v := 8) hx hb dX7_file_39 (by decide) ?_
        refine lv_imul hx hb dX7_file_41 ?_
        refine lv_iload_n hx hb dX7_file_42 rfl (lv_at hl 2 rfl) ?_
        refine lv_iadd hx hb dX7_file_43 ?_
        refine lv_iload_n hx hb dX7_file_44 rfl (lv_at hl 3 rfl) ?_
        refine lv_aload_n hx hb dX7_file_45 rfl (lv_at hl 0 rfl) ?_
        refine va_get (D := D) (ci := 7) (v := .ref x0) (C := RX7) (T := TX7) (N := 6) hx hb hts hiX7 hown hE.1 hP 0 rfl rfl 0 (by decide) (hts _ (List.mem_cons_of_mem _ wd_19)) (fun _ h9 => h9) rfl dX7_file_46 ?_
        refine va_get (D := D) (ci := 0) (v := .ref b6) (C := RX0) (T := TX0) (N := 15) hx hb hts hiX0 hown hE.1 hP 1 rfl rfl 6 (by decide) (hts _ (List.mem_cons_of_mem _ wd_185)) (fun _ h9 => h9) rfl dX7_file_49 ?_
        refine lv_iload_n hx hb dX7_file_52 rfl (lv_at hl 3 rfl) ?_
        refine va_iald hx hb hE.1 hP 3 0 rfl rfl (by obtain ⟨j9, h9, e9⟩ := wi_n (by omega) hc6; rw [e9]; exact vp_in_nI (by omega) (by decide)) dX7_file_53 ?_
        refine k_v (va_runV (As := [.int ((p0 * 8) + p1), .int p2, .int (B6 (Int32.toNatClampNeg p2))]) (rest := []) ⟨hx, hb, hml, hown, hts⟩ (m_X3_put2 l D cI cJ H.size x4 dr0 dr1 ((p0 * 8) + p1) p2 (B6 (Int32.toNatClampNeg p2)) DR0 DR1 (vi_32c hc3)) (cwV 3 hts gX7_file_X3_put rfl rfl rfl (by decide +kernel) ⟨Nat.le_of_ble_eq_true rfl, Nat.le_of_ble_eq_true rfl⟩) (k_preV hE hP hD [4, 5, 6] (by decide +kernel) rfl 4 rfl rfl) rfl rfl hl.1 rfl (lv_room (Nat.le_of_ble_eq_true rfl)) dX7_file_54 ⟨Nat.le_of_ble_eq_true rfl, Nat.le_of_ble_eq_true rfl⟩) hP hD hS hA [4, 5, 6] [0, 1, 2, 3] rfl (wr := [(oX7 x x0 x1 x2 x3 x4 x5), (oX0 x0 b0 b1 b2 b3 b4 b5 b6 b7 b8 b9 b10 b11 (nI np) (nI nl) bi14), (aIc cI b5 8 B5), (aIc cI b6 8 B6)]) rfl (by decide +kernel) (by decide +kernel) (fun u H locs hw8 hP hD hS => ?_)
        subst hw8
        refine k_re (w := [(oX7 x x0 x1 x2 x3 x4 x5), (oX0 x0 b0 b1 b2 b3 b4 b5 b6 b7 b8 b9 b10 b11 (nI np) (nI nl) bi14), (aIc cI b5 8 B5), (aIc cI b6 8 B6), (oX3 x4 dr0 dr1), (aIc cI dr0 32 (upd DR0 (Int32.toNatClampNeg ((p0 * 8) + p1)) p2)), (aIc cI dr1 32 (upd DR1 (Int32.toNatClampNeg ((p0 * 8) + p1)) (B6 (Int32.toNatClampNeg p2))))]) hP hD (fun hP hD => ?_)
        refine lv_iconst (v := 0) hx hb dX7_file_57 (by decide) ?_
        refine k_iret (u := [(oX7 x x0 x1 x2 x3 x4 x5), (oX0 x0 b0 b1 b2 b3 b4 b5 b6 b7 b8 b9 b10 b11 (nI np) (nI nl) bi14), (aIc cI b5 8 B5), (aIc cI b6 8 B6), (oX3 x4 dr0 dr1), (aIc cI dr0 32 (upd DR0 (Int32.toNatClampNeg ((p0 * 8) + p1)) p2)), (aIc cI dr1 32 (upd DR1 (Int32.toNatClampNeg ((p0 * 8) + p1)) (B6 (Int32.toNatClampNeg p2))))]) hx hb hr hlk hP hD hS dX7_file_58 ?_
        exact Or.inl ⟨⟨⟨hc3, hc6⟩, c7⟩, rfl, rfl⟩
      · skip
        refine lv_bipush (v := (-2)) hx hb dX7_file_31 (by decide) ?_
        refine k_iret (u := [(oX7 x x0 x1 x2 x3 x4 x5), (oX0 x0 b0 b1 b2 b3 b4 b5 b6 b7 b8 b9 b10 b11 (nI np) (nI nl) bi14), (aIc cI b5 8 B5), (aIc cI b6 8 B6), (oX3 x4 dr0 dr1), (aIc cI dr0 32 DR0), (aIc cI dr1 32 DR1)]) hx hb hr hlk hP hD hS dX7_file_33 ?_
        exact Or.inr (Or.inr ⟨⟨⟨hc3, hc6⟩, c7⟩, rfl, rfl⟩)
    · skip
      have hc6 : ¬ (0 ≤ p2 ∧ p2 ≤ (nI np) - 1) := bz_0 hw5 c6
      refine lv_iconst (v := (-1)) hx hb dX7_file_16 (by decide) ?_
      refine k_iret (u := [(oX7 x x0 x1 x2 x3 x4 x5), (oX0 x0 b0 b1 b2 b3 b4 b5 b6 b7 b8 b9 b10 b11 (nI np) (nI nl) bi14), (aIc cI b5 8 B5), (aIc cI b6 8 B6), (oX3 x4 dr0 dr1), (aIc cI dr0 32 DR0), (aIc cI dr1 32 DR1)]) hx hb hr hlk hP hD hS dX7_file_17 ?_
      exact Or.inr (Or.inl ⟨(fun q => hc6 q.2), rfl, rfl⟩)
theorem dX7_filed_0 : decode cX7_filed 0 = .ok (.iload_n 1, 1) := by decide +kernel
theorem dX7_filed_1 : decode cX7_filed 1 = .ok (.iload_n 2, 1) := by decide +kernel
theorem dX7_filed_2 : decode cX7_filed 2 = .ok (.invokestatic 325, 3) := by decide +kernel
theorem dX7_filed_5 : decode cX7_filed 5 = .ok (.ifCond .ne 5, 3) := by decide +kernel
theorem dX7_filed_8 : decode cX7_filed 8 = .ok (.iconst (-1), 1) := by decide +kernel
theorem dX7_filed_9 : decode cX7_filed 9 = .ok (.ireturn, 1) := by decide +kernel
theorem dX7_filed_10 : decode cX7_filed 10 = .ok (.iload_n 1, 1) := by decide +kernel
theorem dX7_filed_11 : decode cX7_filed 11 = .ok (.bipush 8, 2) := by decide +kernel
theorem dX7_filed_13 : decode cX7_filed 13 = .ok (.imul, 1) := by decide +kernel
theorem dX7_filed_14 : decode cX7_filed 14 = .ok (.iload_n 2, 1) := by decide +kernel
theorem dX7_filed_15 : decode cX7_filed 15 = .ok (.iadd, 1) := by decide +kernel
theorem dX7_filed_16 : decode cX7_filed 16 = .ok (.istore 4, 2) := by decide +kernel
theorem dX7_filed_18 : decode cX7_filed 18 = .ok (.aload_n 0, 1) := by decide +kernel
theorem dX7_filed_19 : decode cX7_filed 19 = .ok (.getfield 38, 3) := by decide +kernel
theorem dX7_filed_22 : decode cX7_filed 22 = .ok (.getfield 332, 3) := by decide +kernel
theorem dX7_filed_25 : decode cX7_filed 25 = .ok (.iload 4, 2) := by decide +kernel
theorem dX7_filed_27 : decode cX7_filed 27 = .ok (.iaload, 1) := by decide +kernel
theorem dX7_filed_28 : decode cX7_filed 28 = .ok (.iconst (-1), 1) := by decide +kernel
theorem dX7_filed_29 : decode cX7_filed 29 = .ok (.if_icmp .ne 6, 3) := by decide +kernel
theorem dX7_filed_32 : decode cX7_filed 32 = .ok (.bipush (-2), 2) := by decide +kernel
theorem dX7_filed_34 : decode cX7_filed 34 = .ok (.ireturn, 1) := by decide +kernel
theorem dX7_filed_35 : decode cX7_filed 35 = .ok (.iload_n 3, 1) := by decide +kernel
theorem dX7_filed_36 : decode cX7_filed 36 = .ok (.ifCond .eq 16, 3) := by decide +kernel
theorem dX7_filed_39 : decode cX7_filed 39 = .ok (.aload_n 0, 1) := by decide +kernel
theorem dX7_filed_40 : decode cX7_filed 40 = .ok (.getfield 38, 3) := by decide +kernel
theorem dX7_filed_43 : decode cX7_filed 43 = .ok (.getfield 334, 3) := by decide +kernel
theorem dX7_filed_46 : decode cX7_filed 46 = .ok (.iload 4, 2) := by decide +kernel
theorem dX7_filed_48 : decode cX7_filed 48 = .ok (.iaload, 1) := by decide +kernel
theorem dX7_filed_49 : decode cX7_filed 49 = .ok (.goto 13, 3) := by decide +kernel
theorem dX7_filed_52 : decode cX7_filed 52 = .ok (.aload_n 0, 1) := by decide +kernel
theorem dX7_filed_53 : decode cX7_filed 53 = .ok (.getfield 38, 3) := by decide +kernel
theorem dX7_filed_56 : decode cX7_filed 56 = .ok (.getfield 332, 3) := by decide +kernel
theorem dX7_filed_59 : decode cX7_filed 59 = .ok (.iload 4, 2) := by decide +kernel
theorem dX7_filed_61 : decode cX7_filed 61 = .ok (.iaload, 1) := by decide +kernel
theorem dX7_filed_62 : decode cX7_filed 62 = .ok (.ireturn, 1) := by decide +kernel
theorem gX7_filed_X7_isPlace : GoodIn wtX7_filed (va_wsS RX7 325 yX7_isPlace wtX7_isPlace) := tb_good (tb_s0 wd_937 wd_938 wd_2 wd_939)
set_option maxHeartbeats 4000000 in
set_option maxRecDepth 100000 in
theorem m_X7_filed (l : Launch) (D : va_G) (cI cJ : ClassId) (sz : Nat) (x x0 x1 x2 x3 x4 x5 dr0 dr1 : Nat) (p0 p1 p2 : Int32) (DR0 DR1 : Nat → Int32) : Met l yX7_filed wtX7_filed { frames := 2, cells := 0, slots := 0, locals := 43 } (cPc D cI cJ [.ref x, .int p0, .int p1, .int p2] sz [(oX7 x x0 x1 x2 x3 x4 x5), (oX3 x4 dr0 dr1), (aIc cI dr0 32 DR0), (aIc cI dr1 32 DR1)]) (cQi D (fun r u => ((¬ ((0 ≤ p0 ∧ p0 ≤ 3) ∧ 0 ≤ p1 ∧ p1 ≤ 7)) ∧ r = -1 ∧ u = [(oX7 x x0 x1 x2 x3 x4 x5), (oX3 x4 dr0 dr1), (aIc cI dr0 32 DR0), (aIc cI dr1 32 DR1)]) ∨ ((((0 ≤ p0 ∧ p0 ≤ 3) ∧ 0 ≤ p1 ∧ p1 ≤ 7) ∧ DR0 (Int32.toNatClampNeg ((p0 * 8) + p1)) = (-1)) ∧ r = -2 ∧ u = [(oX7 x x0 x1 x2 x3 x4 x5), (oX3 x4 dr0 dr1), (aIc cI dr0 32 DR0), (aIc cI dr1 32 DR1)]) ∨ ((((0 ≤ p0 ∧ p0 ≤ 3) ∧ 0 ≤ p1 ∧ p1 ≤ 7) ∧ ¬ DR0 (Int32.toNatClampNeg ((p0 * 8) + p1)) = (-1) ∧ ¬ p2 = 0) ∧ r = DR1 (Int32.toNatClampNeg ((p0 * 8) + p1)) ∧ u = [(oX7 x x0 x1 x2 x3 x4 x5), (oX3 x4 dr0 dr1), (aIc cI dr0 32 DR0), (aIc cI dr1 32 DR1)]) ∨ ((((0 ≤ p0 ∧ p0 ≤ 3) ∧ 0 ≤ p1 ∧ p1 ≤ 7) ∧ ¬ DR0 (Int32.toNatClampNeg ((p0 * 8) + p1)) = (-1) ∧ p2 = 0) ∧ r = DR0 (Int32.toNatClampNeg ((p0 * 8) + p1)) ∧ u = [(oX7 x x0 x1 x2 x3 x4 x5), (oX3 x4 dr0 dr1), (aIc cI dr0 32 DR0), (aIc cI dr1 32 DR1)])) (va_A [(oX7 x x0 x1 x2 x3 x4 x5), (oX3 x4 dr0 dr1), (aIc cI dr0 32 DR0), (aIc cI dr1 32 DR1)] sz)) 0 0 (va_A [(oX7 x x0 x1 x2 x3 x4 x5), (oX3 x4 dr0 dr1), (aIc cI dr0 32 DR0), (aIc cI dr1 32 DR1)] sz) := by
  refine k_ofW (Qc := cQi D (fun r u => ((¬ ((0 ≤ p0 ∧ p0 ≤ 3) ∧ 0 ≤ p1 ∧ p1 ≤ 7)) ∧ r = -1 ∧ u = [(oX7 x x0 x1 x2 x3 x4 x5), (oX3 x4 dr0 dr1), (aIc cI dr0 32 DR0), (aIc cI dr1 32 DR1)]) ∨ ((((0 ≤ p0 ∧ p0 ≤ 3) ∧ 0 ≤ p1 ∧ p1 ≤ 7) ∧ DR0 (Int32.toNatClampNeg ((p0 * 8) + p1)) = (-1)) ∧ r = -2 ∧ u = [(oX7 x x0 x1 x2 x3 x4 x5), (oX3 x4 dr0 dr1), (aIc cI dr0 32 DR0), (aIc cI dr1 32 DR1)]) ∨ ((((0 ≤ p0 ∧ p0 ≤ 3) ∧ 0 ≤ p1 ∧ p1 ≤ 7) ∧ ¬ DR0 (Int32.toNatClampNeg ((p0 * 8) + p1)) = (-1) ∧ ¬ p2 = 0) ∧ r = DR1 (Int32.toNatClampNeg ((p0 * 8) + p1)) ∧ u = [(oX7 x x0 x1 x2 x3 x4 x5), (oX3 x4 dr0 dr1), (aIc cI dr0 32 DR0), (aIc cI dr1 32 DR1)]) ∨ ((((0 ≤ p0 ∧ p0 ≤ 3) ∧ 0 ≤ p1 ∧ p1 ≤ 7) ∧ ¬ DR0 (Int32.toNatClampNeg ((p0 * 8) + p1)) = (-1) ∧ p2 = 0) ∧ r = DR0 (Int32.toNatClampNeg ((p0 * 8) + p1)) ∧ u = [(oX7 x x0 x1 x2 x3 x4 x5), (oX3 x4 dr0 dr1), (aIc cI dr0 32 DR0), (aIc cI dr1 32 DR1)]))) (by decide) rfl (Nat.le_of_ble_eq_true rfl) ?_
  intro p e s m below meth c A ls hx hb hr hml hts hown hlk hnm hsz hE hP hD hS hA hl
  have hown : s.vm.findClass RX7 = some m.cls := hown
  have hiX7 : ∀ w ∈ u_ws RX7 TX7 6, w ∈ wtX7_filed := fun w h => List.mem_cons_of_mem _ (iuX7 w h)
  have hiX3 : ∀ w ∈ u_ws RX3 TX3 2, w ∈ wtX7_filed := fun w h => List.mem_cons_of_mem _ (iuX3 w h)
  have hl : lv_has ls 5 [(0, .ref x), (1, .int p0), (2, .int p1), (3, .int p2)] := hl
  refine lv_iload_n hx hb dX7_filed_0 rfl (lv_at hl 1 rfl) ?_
  refine lv_iload_n hx hb dX7_filed_1 rfl (lv_at hl 2 rfl) ?_
  refine k_iS (va_runS (As := [.int p0, .int p1]) (rest := []) ⟨hx, hb, hml, hown, hts⟩ (m_X7_isPlace l D cI cJ (s.heap).size p0 p1) (va_cwS 2 hts gX7_filed_X7_isPlace rfl rfl rfl (by decide +kernel) ⟨Nat.le_of_ble_eq_true rfl, Nat.le_of_ble_eq_true rfl⟩) (k_pre hE hP hD [] (by decide +kernel) rfl) rfl rfl hl.1 rfl (lv_room (Nat.le_of_ble_eq_true rfl)) dX7_filed_2 ⟨Nat.le_of_ble_eq_true rfl, Nat.le_of_ble_eq_true rfl⟩) hP hD hS hA [] rfl (fun _ _ h9 => h9.2) (fun r1 H locs hw2 hP hD hS => ?_)
  obtain ⟨hw2, -⟩ := hw2
  refine lv_if_ne (tgt := 10) hx hb dX7_filed_5 (by decide) (fun c3 => ?_) (fun c3 => ?_)
  · skip
    have hc3 : (0 ≤ p0 ∧ p0 ≤ 3) ∧ 0 ≤ p1 ∧ p1 ≤ 7 := bz_1 hw2 c3
    refine lv_iload_n hx hb dX7_filed_10 rfl (lv_at hl 1 rfl) ?_
    refine lv_bipush (v := 8) hx hb dX7_filed_11 (by decide) ?_
    refine lv_imul hx hb dX7_filed_13 ?_
    refine lv_iload_n hx hb dX7_filed_14 rfl (lv_at hl 2 rfl) ?_
    refine lv_iadd hx hb dX7_filed_15 ?_
    refine lv_topi (fun v4 ev4 => ?_)
    refine lv_istore (lv' := [(4, .int v4), (0, .ref x), (1, .int p0), (2, .int p1), (3, .int p2)]) hx hb dX7_filed_16 hl (by decide) rfl (fun ls hl => ?_)
    subst ev4
    refine lv_aload_n hx hb dX7_filed_18 rfl (lv_at hl 1 rfl) ?_
    refine va_get (D := D) (ci := 7) (v := .ref x4) (C := RX7) (T := TX7) (N := 6) hx hb hts hiX7 hown hE.1 hP 0 rfl rfl 4 (by decide) (hts _ (List.mem_cons_of_mem _ wd_31)) (fun _ h9 => h9) rfl dX7_filed_19 ?_
    refine va_get (D := D) (ci := 3) (v := .ref dr0) (C := RX3) (T := TX3) (N := 2) hx hb hts hiX3 hown hE.1 hP 1 rfl rfl 0 (by decide) (hts _ (List.mem_cons_of_mem _ wd_955)) (fun _ h9 => h9) rfl dX7_filed_22 ?_
    refine lv_iload hx hb dX7_filed_25 (lv_at hl 0 rfl) ?_
    refine va_iald hx hb hE.1 hP 2 0 rfl rfl (vi_32c hc3) dX7_filed_27 ?_
    refine lv_iconst (v := (-1)) hx hb dX7_filed_28 (by decide) ?_
    refine lv_icmp_ne (tgt := 35) hx hb dX7_filed_29 (by decide) (fun c5 => ?_) (fun c5 => ?_)
    · skip
      refine lv_iload_n hx hb dX7_filed_35 rfl (lv_at hl 4 rfl) ?_
      refine lv_if_eq (tgt := 52) hx hb dX7_filed_36 (by decide) (fun c6 => ?_) (fun c6 => ?_)
      · skip
        refine lv_aload_n hx hb dX7_filed_52 rfl (lv_at hl 1 rfl) ?_
        refine va_get (D := D) (ci := 7) (v := .ref x4) (C := RX7) (T := TX7) (N := 6) hx hb hts hiX7 hown hE.1 hP 0 rfl rfl 4 (by decide) (hts _ (List.mem_cons_of_mem _ wd_31)) (fun _ h9 => h9) rfl dX7_filed_53 ?_
        refine va_get (D := D) (ci := 3) (v := .ref dr0) (C := RX3) (T := TX3) (N := 2) hx hb hts hiX3 hown hE.1 hP 1 rfl rfl 0 (by decide) (hts _ (List.mem_cons_of_mem _ wd_955)) (fun _ h9 => h9) rfl dX7_filed_56 ?_
        refine lv_iload hx hb dX7_filed_59 (lv_at hl 0 rfl) ?_
        refine va_iald hx hb hE.1 hP 2 0 rfl rfl (vi_32c hc3) dX7_filed_61 ?_
        refine k_iret (u := [(oX7 x x0 x1 x2 x3 x4 x5), (oX3 x4 dr0 dr1), (aIc cI dr0 32 DR0), (aIc cI dr1 32 DR1)]) hx hb hr hlk hP hD hS dX7_filed_62 ?_
        exact Or.inr (Or.inr (Or.inr ⟨⟨hc3, c5, c6⟩, rfl, rfl⟩))
      · skip
        refine lv_aload_n hx hb dX7_filed_39 rfl (lv_at hl 1 rfl) ?_
        refine va_get (D := D) (ci := 7) (v := .ref x4) (C := RX7) (T := TX7) (N := 6) hx hb hts hiX7 hown hE.1 hP 0 rfl rfl 4 (by decide) (hts _ (List.mem_cons_of_mem _ wd_31)) (fun _ h9 => h9) rfl dX7_filed_40 ?_
        refine va_get (D := D) (ci := 3) (v := .ref dr1) (C := RX3) (T := TX3) (N := 2) hx hb hts hiX3 hown hE.1 hP 1 rfl rfl 1 (by decide) (hts _ (List.mem_cons_of_mem _ wd_956)) (fun _ h9 => h9) rfl dX7_filed_43 ?_
        refine lv_iload hx hb dX7_filed_46 (lv_at hl 0 rfl) ?_
        refine va_iald hx hb hE.1 hP 3 0 rfl rfl (vi_32c hc3) dX7_filed_48 ?_
        refine lv_goto (tgt := 62) hx hb dX7_filed_49 (by decide) ?_
        refine k_iret (u := [(oX7 x x0 x1 x2 x3 x4 x5), (oX3 x4 dr0 dr1), (aIc cI dr0 32 DR0), (aIc cI dr1 32 DR1)]) hx hb hr hlk hP hD hS dX7_filed_62 ?_
        exact Or.inr (Or.inr (Or.inl ⟨⟨hc3, c5, c6⟩, rfl, rfl⟩))
    · skip
      refine lv_bipush (v := (-2)) hx hb dX7_filed_32 (by decide) ?_
      refine k_iret (u := [(oX7 x x0 x1 x2 x3 x4 x5), (oX3 x4 dr0 dr1), (aIc cI dr0 32 DR0), (aIc cI dr1 32 DR1)]) hx hb hr hlk hP hD hS dX7_filed_34 ?_
      exact Or.inr (Or.inl ⟨⟨hc3, c5⟩, rfl, rfl⟩)
  · skip
    have hc3 : ¬ ((0 ≤ p0 ∧ p0 ≤ 3) ∧ 0 ≤ p1 ∧ p1 ≤ 7) := bz_0 hw2 c3
    refine lv_iconst (v := (-1)) hx hb dX7_filed_8 (by decide) ?_
    refine k_iret (u := [(oX7 x x0 x1 x2 x3 x4 x5), (oX3 x4 dr0 dr1), (aIc cI dr0 32 DR0), (aIc cI dr1 32 DR1)]) hx hb hr hlk hP hD hS dX7_filed_9 ?_
    exact Or.inl ⟨hc3, rfl, rfl⟩

