theorem nofit (n : Int32) : ¬ (0 ≤ n ∧ n ≤ (0 : Int32) - 1) := fun h => absurd (Int32.le_trans h.1 h.2) (by decide)
theorem bz_z {P : Prop} [Decidable P] (h : ¬ P) : bz P = 0 := by rw [bz, if_neg h]
theorem bz_o {P : Prop} [Decidable P] (h : P) : bz P = 1 := by rw [bz, if_pos h]
theorem nofitL (n : Int32) : ¬ ((0 : Int64) ≤ Int32.toInt64 n ∧ Int32.toInt64 n ≤ Int32.toInt64 (-1)) := fun h => absurd (Int64.le_trans h.1 h.2) (by decide)
def pz (P : Prop) [Decidable P] : Int32 := if P then 0 else -1
theorem pz_t {P : Prop} [Decidable P] (h : P) : (0 : Int32) = pz P := by rw [pz, if_pos h]
theorem pz_f {P : Prop} [Decidable P] (h : ¬ P) : (-1 : Int32) = pz P := by rw [pz, if_neg h]
theorem vi_8 {x : Int32} (h : 0 ≤ x ∧ x ≤ 7) : vp_in x 8 := by
  have h1 := Int32.le_iff_toInt_le.mp h.1
  have h2 := Int32.le_iff_toInt_le.mp h.2
  rw [show Int32.toInt 0 = 0 from rfl] at h1
  rw [show Int32.toInt 7 = 7 from rfl] at h2
  rw [vp_in_iff]
  omega
theorem dX7_settled_0 : decode cX7_settled 0 = .ok (.aload_n 0, 1) := by decide +kernel
theorem dX7_settled_1 : decode cX7_settled 1 = .ok (.iload_n 1, 1) := by decide +kernel
theorem dX7_settled_2 : decode cX7_settled 2 = .ok (.invokevirtual 137, 3) := by decide +kernel
theorem dX7_settled_5 : decode cX7_settled 5 = .ok (.ifCond .ne 5, 3) := by decide +kernel
theorem dX7_settled_8 : decode cX7_settled 8 = .ok (.iconst (-1), 1) := by decide +kernel
theorem dX7_settled_9 : decode cX7_settled 9 = .ok (.ireturn, 1) := by decide +kernel
set_option maxRecDepth 20000 in
theorem ggX7_settled_X7_isLoss : GoodIn wsX7_settled wsX7_isLoss := goodIn_r _ [14, 3, 15, 16, 17, 13, 18, 187, 188, 189, 190, 191, 192, 207, 208, 209, 210, 211, 212, 213, 214, 215, 216, 217, 218, 219, 220, 221] (by decide +kernel) (by decide +kernel)
set_option maxRecDepth 20000 in
theorem gX7_settled_X7_isLoss : GoodIn wsX7_settled (wsV RX7 137 RX7 yX7_isLoss wsX7_isLoss) := goodIn_app (goodIn_of _ (by decide +kernel)) ggX7_settled_X7_isLoss
set_option maxHeartbeats 4000000 in
set_option maxRecDepth 100000 in
theorem f_X7_settled (l : Launch) (D : va_G) (cI cJ : ClassId) (sz : Nat) (x x0 x1 x2 x3 x4 x5 b0 b1 b2 b3 b4 b5 b6 b7 b8 b9 b10 b11 : Nat) (p0 p1 : Int32) : Met l yX7_settled wsX7_settled { frames := 2, cells := 0, slots := 0, locals := 43 } (cPc D cI cJ [.ref x, .int p0, .int p1] sz [(x, .inr (7, [.ref x0, .ref x1, .ref x2, .ref x3, .ref x4, .ref x5])), (x0, .inr (0, [.ref b0, .ref b1, .ref b2, .ref b3, .ref b4, .ref b5, .ref b6, .ref b7, .ref b8, .ref b9, .ref b10, .ref b11, .int 0, .int 0, .int 0]))]) (cQi D (fun r u => r = -1 ∧ u = []) (va_A [(x, .inr (7, [.ref x0, .ref x1, .ref x2, .ref x3, .ref x4, .ref x5])), (x0, .inr (0, [.ref b0, .ref b1, .ref b2, .ref b3, .ref b4, .ref b5, .ref b6, .ref b7, .ref b8, .ref b9, .ref b10, .ref b11, .int 0, .int 0, .int 0]))] sz)) 0 0 (va_A [(x, .inr (7, [.ref x0, .ref x1, .ref x2, .ref x3, .ref x4, .ref x5])), (x0, .inr (0, [.ref b0, .ref b1, .ref b2, .ref b3, .ref b4, .ref b5, .ref b6, .ref b7, .ref b8, .ref b9, .ref b10, .ref b11, .int 0, .int 0, .int 0]))] sz) := by
  refine k_ofW (Qc := cQi D (fun r u => r = -1 ∧ u = [])) (by decide) rfl (Nat.le_of_ble_eq_true rfl) ?_
  intro p e s m below meth c A ls hx hb hr hml hts hown hlk hnm hsz hE hP hD hS hA hl
  have hown : s.vm.findClass RX7 = some m.cls := hown
  have hl : lv_has ls 4 [(0, .ref x), (1, .int p0), (2, .int p1)] := hl
  refine lv_aload_n hx hb dX7_settled_0 rfl (lv_at hl 0 rfl) ?_
  refine lv_iload_n hx hb dX7_settled_1 rfl (lv_at hl 1 rfl) ?_
  refine k_i (va_runV (As := [.int p0]) (rest := []) ⟨hx, hb, hml, hown, hts⟩ (m_X7_isLoss l D cI cJ (s.heap).size x x0 x1 x2 x3 x4 x5 b0 b1 b2 b3 b4 b5 b6 b7 b8 b9 b10 b11 0 0 0 p0) (cwV 1 hts gX7_settled_X7_isLoss rfl rfl rfl (by decide +kernel) ⟨Nat.le_of_ble_eq_true rfl, Nat.le_of_ble_eq_true rfl⟩) (k_preV hE hP hD [0, 1] (by decide) rfl 0 rfl rfl) rfl rfl hl.1 rfl (lv_room (Nat.le_of_ble_eq_true rfl)) dX7_settled_2 ⟨Nat.le_of_ble_eq_true rfl, Nat.le_of_ble_eq_true rfl⟩) hP hD hS hA [0, 1] [] rfl (wr := []) rfl (by decide) (by decide) (fun r1 u H locs hw2 hP hD hS => ?_)
  obtain ⟨hw2, rfl⟩ := hw2
  obtain rfl : r1 = 0 := by rw [hw2]; exact bz_z (nofit _)
  have hP : va_P D vwCl [(x, .inr (7, [.ref x0, .ref x1, .ref x2, .ref x3, .ref x4, .ref x5])), (x0, .inr (0, [.ref b0, .ref b1, .ref b2, .ref b3, .ref b4, .ref b5, .ref b6, .ref b7, .ref b8, .ref b9, .ref b10, .ref b11, .int 0, .int 0, .int 0]))] H := hP
  have hD : va_D A [(x, .inr (7, [.ref x0, .ref x1, .ref x2, .ref x3, .ref x4, .ref x5])), (x0, .inr (0, [.ref b0, .ref b1, .ref b2, .ref b3, .ref b4, .ref b5, .ref b6, .ref b7, .ref b8, .ref b9, .ref b10, .ref b11, .int 0, .int 0, .int 0]))] := hD
  refine lv_if_ne (tgt := 10) hx hb dX7_settled_5 (by decide) (fun c3 => absurd c3 (by decide)) (fun _ => ?_)
  refine lv_iconst (v := (-1)) hx hb dX7_settled_8 (by decide) ?_
  refine k_iret (u := []) hx hb hr hlk (k_sub hP [] rfl) (hD.sub [] (by decide) rfl) hS dX7_settled_9 ?_
  exact ⟨rfl, rfl⟩
theorem dX7_part_0 : decode cX7_part 0 = .ok (.aload_n 0, 1) := by decide +kernel
theorem dX7_part_1 : decode cX7_part 1 = .ok (.iload_n 1, 1) := by decide +kernel
theorem dX7_part_2 : decode cX7_part 2 = .ok (.invokevirtual 137, 3) := by decide +kernel
theorem dX7_part_5 : decode cX7_part 5 = .ok (.ifCond .eq 11, 3) := by decide +kernel
theorem dX7_part_16 : decode cX7_part 16 = .ok (.iconst (-1), 1) := by decide +kernel
theorem dX7_part_17 : decode cX7_part 17 = .ok (.ireturn, 1) := by decide +kernel
set_option maxRecDepth 20000 in
theorem ggX7_part_X7_isLoss : GoodIn wsX7_part wsX7_isLoss := goodIn_r _ [8, 9, 10, 11, 12, 7, 13, 169, 170, 171, 172, 173, 174, 189, 190, 191, 192, 193, 194, 195, 196, 197, 198, 199, 200, 201, 202, 203] (by decide +kernel) (by decide +kernel)
set_option maxRecDepth 20000 in
theorem gX7_part_X7_isLoss : GoodIn wsX7_part (wsV RX7 137 RX7 yX7_isLoss wsX7_isLoss) := goodIn_app (goodIn_of _ (by decide +kernel)) ggX7_part_X7_isLoss
set_option maxHeartbeats 4000000 in
set_option maxRecDepth 100000 in
theorem f_X7_part (l : Launch) (D : va_G) (cI cJ : ClassId) (sz : Nat) (x x0 x1 x2 x3 x4 x5 b0 b1 b2 b3 b4 b5 b6 b7 b8 b9 b10 b11 : Nat) (p0 p1 : Int32) : Met l yX7_part wsX7_part { frames := 2, cells := 0, slots := 0, locals := 43 } (cPc D cI cJ [.ref x, .int p0, .int p1] sz [(x, .inr (7, [.ref x0, .ref x1, .ref x2, .ref x3, .ref x4, .ref x5])), (x0, .inr (0, [.ref b0, .ref b1, .ref b2, .ref b3, .ref b4, .ref b5, .ref b6, .ref b7, .ref b8, .ref b9, .ref b10, .ref b11, .int 0, .int 0, .int 0]))]) (cQi D (fun r u => r = -1 ∧ u = []) (va_A [(x, .inr (7, [.ref x0, .ref x1, .ref x2, .ref x3, .ref x4, .ref x5])), (x0, .inr (0, [.ref b0, .ref b1, .ref b2, .ref b3, .ref b4, .ref b5, .ref b6, .ref b7, .ref b8, .ref b9, .ref b10, .ref b11, .int 0, .int 0, .int 0]))] sz)) 0 0 (va_A [(x, .inr (7, [.ref x0, .ref x1, .ref x2, .ref x3, .ref x4, .ref x5])), (x0, .inr (0, [.ref b0, .ref b1, .ref b2, .ref b3, .ref b4, .ref b5, .ref b6, .ref b7, .ref b8, .ref b9, .ref b10, .ref b11, .int 0, .int 0, .int 0]))] sz) := by
  refine k_ofW (Qc := cQi D (fun r u => r = -1 ∧ u = [])) (by decide) rfl (Nat.le_of_ble_eq_true rfl) ?_
  intro p e s m below meth c A ls hx hb hr hml hts hown hlk hnm hsz hE hP hD hS hA hl
  have hown : s.vm.findClass RX7 = some m.cls := hown
  have hl : lv_has ls 3 [(0, .ref x), (1, .int p0), (2, .int p1)] := hl
  refine lv_aload_n hx hb dX7_part_0 rfl (lv_at hl 0 rfl) ?_
  refine lv_iload_n hx hb dX7_part_1 rfl (lv_at hl 1 rfl) ?_
  refine k_i (va_runV (As := [.int p0]) (rest := []) ⟨hx, hb, hml, hown, hts⟩ (m_X7_isLoss l D cI cJ (s.heap).size x x0 x1 x2 x3 x4 x5 b0 b1 b2 b3 b4 b5 b6 b7 b8 b9 b10 b11 0 0 0 p0) (cwV 1 hts gX7_part_X7_isLoss rfl rfl rfl (by decide +kernel) ⟨Nat.le_of_ble_eq_true rfl, Nat.le_of_ble_eq_true rfl⟩) (k_preV hE hP hD [0, 1] (by decide) rfl 0 rfl rfl) rfl rfl hl.1 rfl (lv_room (Nat.le_of_ble_eq_true rfl)) dX7_part_2 ⟨Nat.le_of_ble_eq_true rfl, Nat.le_of_ble_eq_true rfl⟩) hP hD hS hA [0, 1] [] rfl (wr := []) rfl (by decide) (by decide) (fun r1 u H locs hw2 hP hD hS => ?_)
  obtain ⟨hw2, rfl⟩ := hw2
  obtain rfl : r1 = 0 := by rw [hw2]; exact bz_z (nofit _)
  have hP : va_P D vwCl [(x, .inr (7, [.ref x0, .ref x1, .ref x2, .ref x3, .ref x4, .ref x5])), (x0, .inr (0, [.ref b0, .ref b1, .ref b2, .ref b3, .ref b4, .ref b5, .ref b6, .ref b7, .ref b8, .ref b9, .ref b10, .ref b11, .int 0, .int 0, .int 0]))] H := hP
  have hD : va_D A [(x, .inr (7, [.ref x0, .ref x1, .ref x2, .ref x3, .ref x4, .ref x5])), (x0, .inr (0, [.ref b0, .ref b1, .ref b2, .ref b3, .ref b4, .ref b5, .ref b6, .ref b7, .ref b8, .ref b9, .ref b10, .ref b11, .int 0, .int 0, .int 0]))] := hD
  refine lv_if_eq (tgt := 16) hx hb dX7_part_5 (by decide) (fun _ => ?_) (fun c3 => absurd (by decide) c3)
  refine lv_iconst (v := (-1)) hx hb dX7_part_16 (by decide) ?_
  refine k_iret (u := []) hx hb hr hlk (k_sub hP [] rfl) (hD.sub [] (by decide) rfl) hS dX7_part_17 ?_
  exact ⟨rfl, rfl⟩
theorem dX7_strain_0 : decode cX7_strain 0 = .ok (.aload_n 0, 1) := by decide +kernel
theorem dX7_strain_1 : decode cX7_strain 1 = .ok (.iload_n 1, 1) := by decide +kernel
theorem dX7_strain_2 : decode cX7_strain 2 = .ok (.invokevirtual 137, 3) := by decide +kernel
theorem dX7_strain_5 : decode cX7_strain 5 = .ok (.ifCond .eq 23, 3) := by decide +kernel
theorem dX7_strain_28 : decode cX7_strain 28 = .ok (.ldc2_w 203, 3) := by decide +kernel
theorem dX7_strain_31 : decode cX7_strain 31 = .ok (.lreturn, 1) := by decide +kernel
set_option maxRecDepth 20000 in
theorem ggX7_strain_X7_isLoss : GoodIn wsX7_strain wsX7_isLoss := goodIn_r _ [10, 1, 11, 12, 13, 9, 14, 172, 173, 174, 175, 176, 177, 178, 179, 180, 181, 182, 183, 184, 185, 186, 187, 188, 189, 190, 191, 192] (by decide +kernel) (by decide +kernel)
set_option maxRecDepth 20000 in
theorem gX7_strain_X7_isLoss : GoodIn wsX7_strain (wsV RX7 137 RX7 yX7_isLoss wsX7_isLoss) := goodIn_app (goodIn_of _ (by decide +kernel)) ggX7_strain_X7_isLoss
set_option maxHeartbeats 4000000 in
set_option maxRecDepth 100000 in
theorem f_X7_strain (l : Launch) (D : va_G) (cI cJ : ClassId) (sz : Nat) (x x0 x1 x2 x3 x4 x5 b0 b1 b2 b3 b4 b5 b6 b7 b8 b9 b10 b11 : Nat) (p0 p1 : Int32) : Met l yX7_strain wsX7_strain { frames := 2, cells := 0, slots := 0, locals := 43 } (cPc D cI cJ [.ref x, .int p0, .int p1] sz [(x, .inr (7, [.ref x0, .ref x1, .ref x2, .ref x3, .ref x4, .ref x5])), (x0, .inr (0, [.ref b0, .ref b1, .ref b2, .ref b3, .ref b4, .ref b5, .ref b6, .ref b7, .ref b8, .ref b9, .ref b10, .ref b11, .int 0, .int 0, .int 0]))]) (cQl D (fun r u => r = -1 ∧ u = []) (va_A [(x, .inr (7, [.ref x0, .ref x1, .ref x2, .ref x3, .ref x4, .ref x5])), (x0, .inr (0, [.ref b0, .ref b1, .ref b2, .ref b3, .ref b4, .ref b5, .ref b6, .ref b7, .ref b8, .ref b9, .ref b10, .ref b11, .int 0, .int 0, .int 0]))] sz)) 0 0 (va_A [(x, .inr (7, [.ref x0, .ref x1, .ref x2, .ref x3, .ref x4, .ref x5])), (x0, .inr (0, [.ref b0, .ref b1, .ref b2, .ref b3, .ref b4, .ref b5, .ref b6, .ref b7, .ref b8, .ref b9, .ref b10, .ref b11, .int 0, .int 0, .int 0]))] sz) := by
  refine k_ofW (Qc := cQl D (fun r u => r = -1 ∧ u = [])) (by decide) rfl (Nat.le_of_ble_eq_true rfl) ?_
  intro p e s m below meth c A ls hx hb hr hml hts hown hlk hnm hsz hE hP hD hS hA hl
  have hown : s.vm.findClass RX7 = some m.cls := hown
  have hl : lv_has ls 3 [(0, .ref x), (1, .int p0), (2, .int p1)] := hl
  refine lv_aload_n hx hb dX7_strain_0 rfl (lv_at hl 0 rfl) ?_
  refine lv_iload_n hx hb dX7_strain_1 rfl (lv_at hl 1 rfl) ?_
  refine k_i (va_runV (As := [.int p0]) (rest := []) ⟨hx, hb, hml, hown, hts⟩ (m_X7_isLoss l D cI cJ (s.heap).size x x0 x1 x2 x3 x4 x5 b0 b1 b2 b3 b4 b5 b6 b7 b8 b9 b10 b11 0 0 0 p0) (cwV 1 hts gX7_strain_X7_isLoss rfl rfl rfl (by decide +kernel) ⟨Nat.le_of_ble_eq_true rfl, Nat.le_of_ble_eq_true rfl⟩) (k_preV hE hP hD [0, 1] (by decide) rfl 0 rfl rfl) rfl rfl hl.1 rfl (lv_room (Nat.le_of_ble_eq_true rfl)) dX7_strain_2 ⟨Nat.le_of_ble_eq_true rfl, Nat.le_of_ble_eq_true rfl⟩) hP hD hS hA [0, 1] [] rfl (wr := []) rfl (by decide) (by decide) (fun r1 u H locs hw2 hP hD hS => ?_)
  obtain ⟨hw2, rfl⟩ := hw2
  obtain rfl : r1 = 0 := by rw [hw2]; exact bz_z (nofit _)
  have hP : va_P D vwCl [(x, .inr (7, [.ref x0, .ref x1, .ref x2, .ref x3, .ref x4, .ref x5])), (x0, .inr (0, [.ref b0, .ref b1, .ref b2, .ref b3, .ref b4, .ref b5, .ref b6, .ref b7, .ref b8, .ref b9, .ref b10, .ref b11, .int 0, .int 0, .int 0]))] H := hP
  have hD : va_D A [(x, .inr (7, [.ref x0, .ref x1, .ref x2, .ref x3, .ref x4, .ref x5])), (x0, .inr (0, [.ref b0, .ref b1, .ref b2, .ref b3, .ref b4, .ref b5, .ref b6, .ref b7, .ref b8, .ref b9, .ref b10, .ref b11, .int 0, .int 0, .int 0]))] := hD
  refine lv_if_eq (tgt := 28) hx hb dX7_strain_5 (by decide) (fun _ => ?_) (fun c3 => absurd (by decide) c3)
  refine lv_ldc2 (v := (-1)) hx hb hown (hts _ (List.mem_of_getElem? (i := 3) rfl)) dX7_strain_28 ?_
  refine k_lret (u := []) hx hb hr hlk (k_sub hP [] rfl) (hD.sub [] (by decide) rfl) hS dX7_strain_31 ?_
  exact ⟨rfl, rfl⟩
theorem dX7_step_0 : decode cX7_step 0 = .ok (.aload_n 0, 1) := by decide +kernel
theorem dX7_step_1 : decode cX7_step 1 = .ok (.iload_n 1, 1) := by decide +kernel
theorem dX7_step_2 : decode cX7_step 2 = .ok (.invokevirtual 137, 3) := by decide +kernel
theorem dX7_step_5 : decode cX7_step 5 = .ok (.ifCond .ne 5, 3) := by decide +kernel
theorem dX7_step_8 : decode cX7_step 8 = .ok (.iconst (-1), 1) := by decide +kernel
theorem dX7_step_9 : decode cX7_step 9 = .ok (.ireturn, 1) := by decide +kernel
set_option maxRecDepth 20000 in
theorem ggX7_step_X7_isLoss : GoodIn wsX7_step wsX7_isLoss := goodIn_r _ [6, 7, 8, 9, 10, 5, 11, 168, 169, 170, 171, 172, 173, 174, 175, 176, 177, 178, 179, 180, 181, 182, 183, 184, 185, 186, 187, 188] (by decide +kernel) (by decide +kernel)
set_option maxRecDepth 20000 in
theorem gX7_step_X7_isLoss : GoodIn wsX7_step (wsV RX7 137 RX7 yX7_isLoss wsX7_isLoss) := goodIn_app (goodIn_of _ (by decide +kernel)) ggX7_step_X7_isLoss
set_option maxHeartbeats 4000000 in
set_option maxRecDepth 100000 in
theorem f_X7_step (l : Launch) (D : va_G) (cI cJ : ClassId) (sz : Nat) (x x0 x1 x2 x3 x4 x5 b0 b1 b2 b3 b4 b5 b6 b7 b8 b9 b10 b11 : Nat) (p0 p1 : Int32) : Met l yX7_step wsX7_step { frames := 2, cells := 0, slots := 0, locals := 43 } (cPc D cI cJ [.ref x, .int p0, .int p1] sz [(x, .inr (7, [.ref x0, .ref x1, .ref x2, .ref x3, .ref x4, .ref x5])), (x0, .inr (0, [.ref b0, .ref b1, .ref b2, .ref b3, .ref b4, .ref b5, .ref b6, .ref b7, .ref b8, .ref b9, .ref b10, .ref b11, .int 0, .int 0, .int 0]))]) (cQi D (fun r u => r = -1 ∧ u = []) (va_A [(x, .inr (7, [.ref x0, .ref x1, .ref x2, .ref x3, .ref x4, .ref x5])), (x0, .inr (0, [.ref b0, .ref b1, .ref b2, .ref b3, .ref b4, .ref b5, .ref b6, .ref b7, .ref b8, .ref b9, .ref b10, .ref b11, .int 0, .int 0, .int 0]))] sz)) 0 0 (va_A [(x, .inr (7, [.ref x0, .ref x1, .ref x2, .ref x3, .ref x4, .ref x5])), (x0, .inr (0, [.ref b0, .ref b1, .ref b2, .ref b3, .ref b4, .ref b5, .ref b6, .ref b7, .ref b8, .ref b9, .ref b10, .ref b11, .int 0, .int 0, .int 0]))] sz) := by
  refine k_ofW (Qc := cQi D (fun r u => r = -1 ∧ u = [])) (by decide) rfl (Nat.le_of_ble_eq_true rfl) ?_
  intro p e s m below meth c A ls hx hb hr hml hts hown hlk hnm hsz hE hP hD hS hA hl
  have hown : s.vm.findClass RX7 = some m.cls := hown
  have hl : lv_has ls 3 [(0, .ref x), (1, .int p0), (2, .int p1)] := hl
  refine lv_aload_n hx hb dX7_step_0 rfl (lv_at hl 0 rfl) ?_
  refine lv_iload_n hx hb dX7_step_1 rfl (lv_at hl 1 rfl) ?_
  refine k_i (va_runV (As := [.int p0]) (rest := []) ⟨hx, hb, hml, hown, hts⟩ (m_X7_isLoss l D cI cJ (s.heap).size x x0 x1 x2 x3 x4 x5 b0 b1 b2 b3 b4 b5 b6 b7 b8 b9 b10 b11 0 0 0 p0) (cwV 1 hts gX7_step_X7_isLoss rfl rfl rfl (by decide +kernel) ⟨Nat.le_of_ble_eq_true rfl, Nat.le_of_ble_eq_true rfl⟩) (k_preV hE hP hD [0, 1] (by decide) rfl 0 rfl rfl) rfl rfl hl.1 rfl (lv_room (Nat.le_of_ble_eq_true rfl)) dX7_step_2 ⟨Nat.le_of_ble_eq_true rfl, Nat.le_of_ble_eq_true rfl⟩) hP hD hS hA [0, 1] [] rfl (wr := []) rfl (by decide) (by decide) (fun r1 u H locs hw2 hP hD hS => ?_)
  obtain ⟨hw2, rfl⟩ := hw2
  obtain rfl : r1 = 0 := by rw [hw2]; exact bz_z (nofit _)
  have hP : va_P D vwCl [(x, .inr (7, [.ref x0, .ref x1, .ref x2, .ref x3, .ref x4, .ref x5])), (x0, .inr (0, [.ref b0, .ref b1, .ref b2, .ref b3, .ref b4, .ref b5, .ref b6, .ref b7, .ref b8, .ref b9, .ref b10, .ref b11, .int 0, .int 0, .int 0]))] H := hP
  have hD : va_D A [(x, .inr (7, [.ref x0, .ref x1, .ref x2, .ref x3, .ref x4, .ref x5])), (x0, .inr (0, [.ref b0, .ref b1, .ref b2, .ref b3, .ref b4, .ref b5, .ref b6, .ref b7, .ref b8, .ref b9, .ref b10, .ref b11, .int 0, .int 0, .int 0]))] := hD
  refine lv_if_ne (tgt := 10) hx hb dX7_step_5 (by decide) (fun c3 => absurd c3 (by decide)) (fun _ => ?_)
  refine lv_iconst (v := (-1)) hx hb dX7_step_8 (by decide) ?_
  refine k_iret (u := []) hx hb hr hlk (k_sub hP [] rfl) (hD.sub [] (by decide) rfl) hS dX7_step_9 ?_
  exact ⟨rfl, rfl⟩
theorem dX7_level_0 : decode cX7_level 0 = .ok (.aload_n 0, 1) := by decide +kernel
theorem dX7_level_1 : decode cX7_level 1 = .ok (.iload_n 1, 1) := by decide +kernel
theorem dX7_level_2 : decode cX7_level 2 = .ok (.invokevirtual 137, 3) := by decide +kernel
theorem dX7_level_5 : decode cX7_level 5 = .ok (.ifCond .ne 5, 3) := by decide +kernel
theorem dX7_level_8 : decode cX7_level 8 = .ok (.iconst (-1), 1) := by decide +kernel
theorem dX7_level_9 : decode cX7_level 9 = .ok (.ireturn, 1) := by decide +kernel
set_option maxRecDepth 20000 in
theorem ggX7_level_X7_isLoss : GoodIn wsX7_level wsX7_isLoss := goodIn_r _ [8, 9, 10, 11, 12, 7, 13, 164, 165, 166, 167, 168, 169, 193, 194, 195, 196, 197, 198, 199, 200, 201, 202, 203, 204, 205, 206, 207] (by decide +kernel) (by decide +kernel)
set_option maxRecDepth 20000 in
theorem gX7_level_X7_isLoss : GoodIn wsX7_level (wsV RX7 137 RX7 yX7_isLoss wsX7_isLoss) := goodIn_app (goodIn_of _ (by decide +kernel)) ggX7_level_X7_isLoss
set_option maxHeartbeats 4000000 in
set_option maxRecDepth 100000 in
theorem f_X7_level (l : Launch) (D : va_G) (cI cJ : ClassId) (sz : Nat) (x x0 x1 x2 x3 x4 x5 b0 b1 b2 b3 b4 b5 b6 b7 b8 b9 b10 b11 : Nat) (p0 p1 : Int32) : Met l yX7_level wsX7_level { frames := 2, cells := 0, slots := 0, locals := 43 } (cPc D cI cJ [.ref x, .int p0, .int p1] sz [(x, .inr (7, [.ref x0, .ref x1, .ref x2, .ref x3, .ref x4, .ref x5])), (x0, .inr (0, [.ref b0, .ref b1, .ref b2, .ref b3, .ref b4, .ref b5, .ref b6, .ref b7, .ref b8, .ref b9, .ref b10, .ref b11, .int 0, .int 0, .int 0]))]) (cQi D (fun r u => r = -1 ∧ u = []) (va_A [(x, .inr (7, [.ref x0, .ref x1, .ref x2, .ref x3, .ref x4, .ref x5])), (x0, .inr (0, [.ref b0, .ref b1, .ref b2, .ref b3, .ref b4, .ref b5, .ref b6, .ref b7, .ref b8, .ref b9, .ref b10, .ref b11, .int 0, .int 0, .int 0]))] sz)) 0 0 (va_A [(x, .inr (7, [.ref x0, .ref x1, .ref x2, .ref x3, .ref x4, .ref x5])), (x0, .inr (0, [.ref b0, .ref b1, .ref b2, .ref b3, .ref b4, .ref b5, .ref b6, .ref b7, .ref b8, .ref b9, .ref b10, .ref b11, .int 0, .int 0, .int 0]))] sz) := by
  refine k_ofW (Qc := cQi D (fun r u => r = -1 ∧ u = [])) (by decide) rfl (Nat.le_of_ble_eq_true rfl) ?_
  intro p e s m below meth c A ls hx hb hr hml hts hown hlk hnm hsz hE hP hD hS hA hl
  have hown : s.vm.findClass RX7 = some m.cls := hown
  have hl : lv_has ls 3 [(0, .ref x), (1, .int p0), (2, .int p1)] := hl
  refine lv_aload_n hx hb dX7_level_0 rfl (lv_at hl 0 rfl) ?_
  refine lv_iload_n hx hb dX7_level_1 rfl (lv_at hl 1 rfl) ?_
  refine k_i (va_runV (As := [.int p0]) (rest := []) ⟨hx, hb, hml, hown, hts⟩ (m_X7_isLoss l D cI cJ (s.heap).size x x0 x1 x2 x3 x4 x5 b0 b1 b2 b3 b4 b5 b6 b7 b8 b9 b10 b11 0 0 0 p0) (cwV 1 hts gX7_level_X7_isLoss rfl rfl rfl (by decide +kernel) ⟨Nat.le_of_ble_eq_true rfl, Nat.le_of_ble_eq_true rfl⟩) (k_preV hE hP hD [0, 1] (by decide) rfl 0 rfl rfl) rfl rfl hl.1 rfl (lv_room (Nat.le_of_ble_eq_true rfl)) dX7_level_2 ⟨Nat.le_of_ble_eq_true rfl, Nat.le_of_ble_eq_true rfl⟩) hP hD hS hA [0, 1] [] rfl (wr := []) rfl (by decide) (by decide) (fun r1 u H locs hw2 hP hD hS => ?_)
  obtain ⟨hw2, rfl⟩ := hw2
  obtain rfl : r1 = 0 := by rw [hw2]; exact bz_z (nofit _)
  have hP : va_P D vwCl [(x, .inr (7, [.ref x0, .ref x1, .ref x2, .ref x3, .ref x4, .ref x5])), (x0, .inr (0, [.ref b0, .ref b1, .ref b2, .ref b3, .ref b4, .ref b5, .ref b6, .ref b7, .ref b8, .ref b9, .ref b10, .ref b11, .int 0, .int 0, .int 0]))] H := hP
  have hD : va_D A [(x, .inr (7, [.ref x0, .ref x1, .ref x2, .ref x3, .ref x4, .ref x5])), (x0, .inr (0, [.ref b0, .ref b1, .ref b2, .ref b3, .ref b4, .ref b5, .ref b6, .ref b7, .ref b8, .ref b9, .ref b10, .ref b11, .int 0, .int 0, .int 0]))] := hD
  refine lv_if_ne (tgt := 10) hx hb dX7_level_5 (by decide) (fun c3 => absurd c3 (by decide)) (fun _ => ?_)
  refine lv_iconst (v := (-1)) hx hb dX7_level_8 (by decide) ?_
  refine k_iret (u := []) hx hb hr hlk (k_sub hP [] rfl) (hD.sub [] (by decide) rfl) hS dX7_level_9 ?_
  exact ⟨rfl, rfl⟩
theorem dX7_ring_0 : decode cX7_ring 0 = .ok (.aload_n 0, 1) := by decide +kernel
theorem dX7_ring_1 : decode cX7_ring 1 = .ok (.iload_n 1, 1) := by decide +kernel
theorem dX7_ring_2 : decode cX7_ring 2 = .ok (.invokevirtual 137, 3) := by decide +kernel
theorem dX7_ring_5 : decode cX7_ring 5 = .ok (.ifCond .ne 5, 3) := by decide +kernel
theorem dX7_ring_8 : decode cX7_ring 8 = .ok (.iconst (-1), 1) := by decide +kernel
theorem dX7_ring_9 : decode cX7_ring 9 = .ok (.ireturn, 1) := by decide +kernel
set_option maxRecDepth 20000 in
theorem ggX7_ring_X7_isLoss : GoodIn wsX7_ring wsX7_isLoss := goodIn_r _ [7, 8, 9, 10, 11, 6, 12, 166, 167, 168, 169, 170, 171, 186, 187, 188, 189, 190, 191, 192, 193, 194, 195, 196, 197, 198, 199, 200] (by decide +kernel) (by decide +kernel)
set_option maxRecDepth 20000 in
theorem gX7_ring_X7_isLoss : GoodIn wsX7_ring (wsV RX7 137 RX7 yX7_isLoss wsX7_isLoss) := goodIn_app (goodIn_of _ (by decide +kernel)) ggX7_ring_X7_isLoss
set_option maxHeartbeats 4000000 in
set_option maxRecDepth 100000 in
theorem f_X7_ring (l : Launch) (D : va_G) (cI cJ : ClassId) (sz : Nat) (x x0 x1 x2 x3 x4 x5 b0 b1 b2 b3 b4 b5 b6 b7 b8 b9 b10 b11 : Nat) (p0 p1 : Int32) : Met l yX7_ring wsX7_ring { frames := 2, cells := 0, slots := 0, locals := 43 } (cPc D cI cJ [.ref x, .int p0, .int p1] sz [(x, .inr (7, [.ref x0, .ref x1, .ref x2, .ref x3, .ref x4, .ref x5])), (x0, .inr (0, [.ref b0, .ref b1, .ref b2, .ref b3, .ref b4, .ref b5, .ref b6, .ref b7, .ref b8, .ref b9, .ref b10, .ref b11, .int 0, .int 0, .int 0]))]) (cQi D (fun r u => r = -1 ∧ u = []) (va_A [(x, .inr (7, [.ref x0, .ref x1, .ref x2, .ref x3, .ref x4, .ref x5])), (x0, .inr (0, [.ref b0, .ref b1, .ref b2, .ref b3, .ref b4, .ref b5, .ref b6, .ref b7, .ref b8, .ref b9, .ref b10, .ref b11, .int 0, .int 0, .int 0]))] sz)) 0 0 (va_A [(x, .inr (7, [.ref x0, .ref x1, .ref x2, .ref x3, .ref x4, .ref x5])), (x0, .inr (0, [.ref b0, .ref b1, .ref b2, .ref b3, .ref b4, .ref b5, .ref b6, .ref b7, .ref b8, .ref b9, .ref b10, .ref b11, .int 0, .int 0, .int 0]))] sz) := by
  refine k_ofW (Qc := cQi D (fun r u => r = -1 ∧ u = [])) (by decide) rfl (Nat.le_of_ble_eq_true rfl) ?_
  intro p e s m below meth c A ls hx hb hr hml hts hown hlk hnm hsz hE hP hD hS hA hl
  have hown : s.vm.findClass RX7 = some m.cls := hown
  have hl : lv_has ls 3 [(0, .ref x), (1, .int p0), (2, .int p1)] := hl
  refine lv_aload_n hx hb dX7_ring_0 rfl (lv_at hl 0 rfl) ?_
  refine lv_iload_n hx hb dX7_ring_1 rfl (lv_at hl 1 rfl) ?_
  refine k_i (va_runV (As := [.int p0]) (rest := []) ⟨hx, hb, hml, hown, hts⟩ (m_X7_isLoss l D cI cJ (s.heap).size x x0 x1 x2 x3 x4 x5 b0 b1 b2 b3 b4 b5 b6 b7 b8 b9 b10 b11 0 0 0 p0) (cwV 1 hts gX7_ring_X7_isLoss rfl rfl rfl (by decide +kernel) ⟨Nat.le_of_ble_eq_true rfl, Nat.le_of_ble_eq_true rfl⟩) (k_preV hE hP hD [0, 1] (by decide) rfl 0 rfl rfl) rfl rfl hl.1 rfl (lv_room (Nat.le_of_ble_eq_true rfl)) dX7_ring_2 ⟨Nat.le_of_ble_eq_true rfl, Nat.le_of_ble_eq_true rfl⟩) hP hD hS hA [0, 1] [] rfl (wr := []) rfl (by decide) (by decide) (fun r1 u H locs hw2 hP hD hS => ?_)
  obtain ⟨hw2, rfl⟩ := hw2
  obtain rfl : r1 = 0 := by rw [hw2]; exact bz_z (nofit _)
  have hP : va_P D vwCl [(x, .inr (7, [.ref x0, .ref x1, .ref x2, .ref x3, .ref x4, .ref x5])), (x0, .inr (0, [.ref b0, .ref b1, .ref b2, .ref b3, .ref b4, .ref b5, .ref b6, .ref b7, .ref b8, .ref b9, .ref b10, .ref b11, .int 0, .int 0, .int 0]))] H := hP
  have hD : va_D A [(x, .inr (7, [.ref x0, .ref x1, .ref x2, .ref x3, .ref x4, .ref x5])), (x0, .inr (0, [.ref b0, .ref b1, .ref b2, .ref b3, .ref b4, .ref b5, .ref b6, .ref b7, .ref b8, .ref b9, .ref b10, .ref b11, .int 0, .int 0, .int 0]))] := hD
  refine lv_if_ne (tgt := 10) hx hb dX7_ring_5 (by decide) (fun c3 => absurd c3 (by decide)) (fun _ => ?_)
  refine lv_iconst (v := (-1)) hx hb dX7_ring_8 (by decide) ?_
  refine k_iret (u := []) hx hb hr hlk (k_sub hP [] rfl) (hD.sub [] (by decide) rfl) hS dX7_ring_9 ?_
  exact ⟨rfl, rfl⟩
theorem dX7_way_0 : decode cX7_way 0 = .ok (.aload_n 0, 1) := by decide +kernel
theorem dX7_way_1 : decode cX7_way 1 = .ok (.iload_n 1, 1) := by decide +kernel
theorem dX7_way_2 : decode cX7_way 2 = .ok (.invokevirtual 137, 3) := by decide +kernel
theorem dX7_way_5 : decode cX7_way 5 = .ok (.ifCond .eq 19, 3) := by decide +kernel
theorem dX7_way_24 : decode cX7_way 24 = .ok (.iconst (-1), 1) := by decide +kernel
theorem dX7_way_25 : decode cX7_way 25 = .ok (.ireturn, 1) := by decide +kernel
set_option maxRecDepth 20000 in
theorem ggX7_way_X7_isLoss : GoodIn wsX7_way wsX7_isLoss := goodIn_r _ [10, 11, 12, 13, 14, 9, 15, 182, 183, 184, 185, 186, 187, 213, 214, 215, 216, 217, 218, 219, 220, 221, 222, 223, 224, 225, 226, 227] (by decide +kernel) (by decide +kernel)
set_option maxRecDepth 20000 in
theorem gX7_way_X7_isLoss : GoodIn wsX7_way (wsV RX7 137 RX7 yX7_isLoss wsX7_isLoss) := goodIn_app (goodIn_of _ (by decide +kernel)) ggX7_way_X7_isLoss
set_option maxHeartbeats 4000000 in
set_option maxRecDepth 100000 in
theorem f_X7_way (l : Launch) (D : va_G) (cI cJ : ClassId) (sz : Nat) (x x0 x1 x2 x3 x4 x5 b0 b1 b2 b3 b4 b5 b6 b7 b8 b9 b10 b11 : Nat) (p0 p1 p2 p3 : Int32) : Met l yX7_way wsX7_way { frames := 2, cells := 0, slots := 0, locals := 43 } (cPc D cI cJ [.ref x, .int p0, .int p1, .int p2, .int p3] sz [(x, .inr (7, [.ref x0, .ref x1, .ref x2, .ref x3, .ref x4, .ref x5])), (x0, .inr (0, [.ref b0, .ref b1, .ref b2, .ref b3, .ref b4, .ref b5, .ref b6, .ref b7, .ref b8, .ref b9, .ref b10, .ref b11, .int 0, .int 0, .int 0]))]) (cQi D (fun r u => r = -1 ∧ u = []) (va_A [(x, .inr (7, [.ref x0, .ref x1, .ref x2, .ref x3, .ref x4, .ref x5])), (x0, .inr (0, [.ref b0, .ref b1, .ref b2, .ref b3, .ref b4, .ref b5, .ref b6, .ref b7, .ref b8, .ref b9, .ref b10, .ref b11, .int 0, .int 0, .int 0]))] sz)) 0 0 (va_A [(x, .inr (7, [.ref x0, .ref x1, .ref x2, .ref x3, .ref x4, .ref x5])), (x0, .inr (0, [.ref b0, .ref b1, .ref b2, .ref b3, .ref b4, .ref b5, .ref b6, .ref b7, .ref b8, .ref b9, .ref b10, .ref b11, .int 0, .int 0, .int 0]))] sz) := by
  refine k_ofW (Qc := cQi D (fun r u => r = -1 ∧ u = [])) (by decide) rfl (Nat.le_of_ble_eq_true rfl) ?_
  intro p e s m below meth c A ls hx hb hr hml hts hown hlk hnm hsz hE hP hD hS hA hl
  have hown : s.vm.findClass RX7 = some m.cls := hown
  have hl : lv_has ls 6 [(0, .ref x), (1, .int p0), (2, .int p1), (3, .int p2), (4, .int p3)] := hl
  refine lv_aload_n hx hb dX7_way_0 rfl (lv_at hl 0 rfl) ?_
  refine lv_iload_n hx hb dX7_way_1 rfl (lv_at hl 1 rfl) ?_
  refine k_i (va_runV (As := [.int p0]) (rest := []) ⟨hx, hb, hml, hown, hts⟩ (m_X7_isLoss l D cI cJ (s.heap).size x x0 x1 x2 x3 x4 x5 b0 b1 b2 b3 b4 b5 b6 b7 b8 b9 b10 b11 0 0 0 p0) (cwV 1 hts gX7_way_X7_isLoss rfl rfl rfl (by decide +kernel) ⟨Nat.le_of_ble_eq_true rfl, Nat.le_of_ble_eq_true rfl⟩) (k_preV hE hP hD [0, 1] (by decide) rfl 0 rfl rfl) rfl rfl hl.1 rfl (lv_room (Nat.le_of_ble_eq_true rfl)) dX7_way_2 ⟨Nat.le_of_ble_eq_true rfl, Nat.le_of_ble_eq_true rfl⟩) hP hD hS hA [0, 1] [] rfl (wr := []) rfl (by decide) (by decide) (fun r1 u H locs hw2 hP hD hS => ?_)
  obtain ⟨hw2, rfl⟩ := hw2
  obtain rfl : r1 = 0 := by rw [hw2]; exact bz_z (nofit _)
  have hP : va_P D vwCl [(x, .inr (7, [.ref x0, .ref x1, .ref x2, .ref x3, .ref x4, .ref x5])), (x0, .inr (0, [.ref b0, .ref b1, .ref b2, .ref b3, .ref b4, .ref b5, .ref b6, .ref b7, .ref b8, .ref b9, .ref b10, .ref b11, .int 0, .int 0, .int 0]))] H := hP
  have hD : va_D A [(x, .inr (7, [.ref x0, .ref x1, .ref x2, .ref x3, .ref x4, .ref x5])), (x0, .inr (0, [.ref b0, .ref b1, .ref b2, .ref b3, .ref b4, .ref b5, .ref b6, .ref b7, .ref b8, .ref b9, .ref b10, .ref b11, .int 0, .int 0, .int 0]))] := hD
  refine lv_if_eq (tgt := 24) hx hb dX7_way_5 (by decide) (fun _ => ?_) (fun c3 => absurd (by decide) c3)
  refine lv_iconst (v := (-1)) hx hb dX7_way_24 (by decide) ?_
  refine k_iret (u := []) hx hb hr hlk (k_sub hP [] rfl) (hD.sub [] (by decide) rfl) hS dX7_way_25 ?_
  exact ⟨rfl, rfl⟩
theorem dX7_claimed_0 : decode cX7_claimed 0 = .ok (.aload_n 0, 1) := by decide +kernel
theorem dX7_claimed_1 : decode cX7_claimed 1 = .ok (.iload_n 1, 1) := by decide +kernel
theorem dX7_claimed_2 : decode cX7_claimed 2 = .ok (.invokevirtual 137, 3) := by decide +kernel
theorem dX7_claimed_5 : decode cX7_claimed 5 = .ok (.ifCond .eq 30, 3) := by decide +kernel
theorem dX7_claimed_35 : decode cX7_claimed 35 = .ok (.iconst (-1), 1) := by decide +kernel
theorem dX7_claimed_36 : decode cX7_claimed 36 = .ok (.ireturn, 1) := by decide +kernel
set_option maxRecDepth 20000 in
theorem ggX7_claimed_X7_isLoss : GoodIn wsX7_claimed wsX7_isLoss := goodIn_r _ [11, 2, 12, 13, 14, 10, 15, 190, 191, 192, 193, 194, 195, 196, 197, 198, 199, 200, 201, 202, 203, 204, 205, 206, 207, 208, 209, 210] (by decide +kernel) (by decide +kernel)
set_option maxRecDepth 20000 in
theorem gX7_claimed_X7_isLoss : GoodIn wsX7_claimed (wsV RX7 137 RX7 yX7_isLoss wsX7_isLoss) := goodIn_app (goodIn_of _ (by decide +kernel)) ggX7_claimed_X7_isLoss
set_option maxHeartbeats 4000000 in
set_option maxRecDepth 100000 in
theorem f_X7_claimed (l : Launch) (D : va_G) (cI cJ : ClassId) (sz : Nat) (x x0 x1 x2 x3 x4 x5 b0 b1 b2 b3 b4 b5 b6 b7 b8 b9 b10 b11 : Nat) (p0 p2 : Int32) (p1 : Int64) : Met l yX7_claimed wsX7_claimed { frames := 2, cells := 0, slots := 0, locals := 43 } (cPc D cI cJ [.ref x, .int p0, .long p1, .int p2] sz [(x, .inr (7, [.ref x0, .ref x1, .ref x2, .ref x3, .ref x4, .ref x5])), (x0, .inr (0, [.ref b0, .ref b1, .ref b2, .ref b3, .ref b4, .ref b5, .ref b6, .ref b7, .ref b8, .ref b9, .ref b10, .ref b11, .int 0, .int 0, .int 0]))]) (cQi D (fun r u => r = -1 ∧ u = []) (va_A [(x, .inr (7, [.ref x0, .ref x1, .ref x2, .ref x3, .ref x4, .ref x5])), (x0, .inr (0, [.ref b0, .ref b1, .ref b2, .ref b3, .ref b4, .ref b5, .ref b6, .ref b7, .ref b8, .ref b9, .ref b10, .ref b11, .int 0, .int 0, .int 0]))] sz)) 0 0 (va_A [(x, .inr (7, [.ref x0, .ref x1, .ref x2, .ref x3, .ref x4, .ref x5])), (x0, .inr (0, [.ref b0, .ref b1, .ref b2, .ref b3, .ref b4, .ref b5, .ref b6, .ref b7, .ref b8, .ref b9, .ref b10, .ref b11, .int 0, .int 0, .int 0]))] sz) := by
  refine k_ofW (Qc := cQi D (fun r u => r = -1 ∧ u = [])) (by decide) rfl (Nat.le_of_ble_eq_true rfl) ?_
  intro p e s m below meth c A ls hx hb hr hml hts hown hlk hnm hsz hE hP hD hS hA hl
  have hown : s.vm.findClass RX7 = some m.cls := hown
  have hl : lv_has ls 5 [(0, .ref x), (1, .int p0), (2, .long p1), (4, .int p2)] := hl
  refine lv_aload_n hx hb dX7_claimed_0 rfl (lv_at hl 0 rfl) ?_
  refine lv_iload_n hx hb dX7_claimed_1 rfl (lv_at hl 1 rfl) ?_
  refine k_i (va_runV (As := [.int p0]) (rest := []) ⟨hx, hb, hml, hown, hts⟩ (m_X7_isLoss l D cI cJ (s.heap).size x x0 x1 x2 x3 x4 x5 b0 b1 b2 b3 b4 b5 b6 b7 b8 b9 b10 b11 0 0 0 p0) (cwV 1 hts gX7_claimed_X7_isLoss rfl rfl rfl (by decide +kernel) ⟨Nat.le_of_ble_eq_true rfl, Nat.le_of_ble_eq_true rfl⟩) (k_preV hE hP hD [0, 1] (by decide) rfl 0 rfl rfl) rfl rfl hl.1 rfl (lv_room (Nat.le_of_ble_eq_true rfl)) dX7_claimed_2 ⟨Nat.le_of_ble_eq_true rfl, Nat.le_of_ble_eq_true rfl⟩) hP hD hS hA [0, 1] [] rfl (wr := []) rfl (by decide) (by decide) (fun r1 u H locs hw2 hP hD hS => ?_)
  obtain ⟨hw2, rfl⟩ := hw2
  obtain rfl : r1 = 0 := by rw [hw2]; exact bz_z (nofit _)
  have hP : va_P D vwCl [(x, .inr (7, [.ref x0, .ref x1, .ref x2, .ref x3, .ref x4, .ref x5])), (x0, .inr (0, [.ref b0, .ref b1, .ref b2, .ref b3, .ref b4, .ref b5, .ref b6, .ref b7, .ref b8, .ref b9, .ref b10, .ref b11, .int 0, .int 0, .int 0]))] H := hP
  have hD : va_D A [(x, .inr (7, [.ref x0, .ref x1, .ref x2, .ref x3, .ref x4, .ref x5])), (x0, .inr (0, [.ref b0, .ref b1, .ref b2, .ref b3, .ref b4, .ref b5, .ref b6, .ref b7, .ref b8, .ref b9, .ref b10, .ref b11, .int 0, .int 0, .int 0]))] := hD
  refine lv_if_eq (tgt := 35) hx hb dX7_claimed_5 (by decide) (fun _ => ?_) (fun c3 => absurd (by decide) c3)
  refine lv_iconst (v := (-1)) hx hb dX7_claimed_35 (by decide) ?_
  refine k_iret (u := []) hx hb hr hlk (k_sub hP [] rfl) (hD.sub [] (by decide) rfl) hS dX7_claimed_36 ?_
  exact ⟨rfl, rfl⟩
theorem dX7_recovery_0 : decode cX7_recovery 0 = .ok (.aload_n 0, 1) := by decide +kernel
theorem dX7_recovery_1 : decode cX7_recovery 1 = .ok (.iload_n 1, 1) := by decide +kernel
theorem dX7_recovery_2 : decode cX7_recovery 2 = .ok (.invokevirtual 137, 3) := by decide +kernel
theorem dX7_recovery_5 : decode cX7_recovery 5 = .ok (.ifCond .eq 31, 3) := by decide +kernel
theorem dX7_recovery_36 : decode cX7_recovery 36 = .ok (.iconst (-1), 1) := by decide +kernel
theorem dX7_recovery_37 : decode cX7_recovery 37 = .ok (.ireturn, 1) := by decide +kernel
set_option maxRecDepth 20000 in
theorem ggX7_recovery_X7_isLoss : GoodIn wsX7_recovery wsX7_isLoss := goodIn_r _ [15, 2, 16, 17, 18, 14, 19, 210, 211, 212, 213, 214, 215, 216, 217, 218, 219, 220, 221, 222, 223, 224, 225, 226, 227, 228, 229, 230] (by decide +kernel) (by decide +kernel)
set_option maxRecDepth 20000 in
theorem gX7_recovery_X7_isLoss : GoodIn wsX7_recovery (wsV RX7 137 RX7 yX7_isLoss wsX7_isLoss) := goodIn_app (goodIn_of _ (by decide +kernel)) ggX7_recovery_X7_isLoss
set_option maxHeartbeats 4000000 in
set_option maxRecDepth 100000 in
theorem f_X7_recovery (l : Launch) (D : va_G) (cI cJ : ClassId) (sz : Nat) (x x0 x1 x2 x3 x4 x5 b0 b1 b2 b3 b4 b5 b6 b7 b8 b9 b10 b11 : Nat) (p0 p2 p3 : Int32) (p1 : Int64) : Met l yX7_recovery wsX7_recovery { frames := 2, cells := 0, slots := 0, locals := 43 } (cPc D cI cJ [.ref x, .int p0, .long p1, .int p2, .int p3] sz [(x, .inr (7, [.ref x0, .ref x1, .ref x2, .ref x3, .ref x4, .ref x5])), (x0, .inr (0, [.ref b0, .ref b1, .ref b2, .ref b3, .ref b4, .ref b5, .ref b6, .ref b7, .ref b8, .ref b9, .ref b10, .ref b11, .int 0, .int 0, .int 0]))]) (cQi D (fun r u => r = -1 ∧ u = []) (va_A [(x, .inr (7, [.ref x0, .ref x1, .ref x2, .ref x3, .ref x4, .ref x5])), (x0, .inr (0, [.ref b0, .ref b1, .ref b2, .ref b3, .ref b4, .ref b5, .ref b6, .ref b7, .ref b8, .ref b9, .ref b10, .ref b11, .int 0, .int 0, .int 0]))] sz)) 0 0 (va_A [(x, .inr (7, [.ref x0, .ref x1, .ref x2, .ref x3, .ref x4, .ref x5])), (x0, .inr (0, [.ref b0, .ref b1, .ref b2, .ref b3, .ref b4, .ref b5, .ref b6, .ref b7, .ref b8, .ref b9, .ref b10, .ref b11, .int 0, .int 0, .int 0]))] sz) := by
  refine k_ofW (Qc := cQi D (fun r u => r = -1 ∧ u = [])) (by decide) rfl (Nat.le_of_ble_eq_true rfl) ?_
  intro p e s m below meth c A ls hx hb hr hml hts hown hlk hnm hsz hE hP hD hS hA hl
  have hown : s.vm.findClass RX7 = some m.cls := hown
  have hl : lv_has ls 6 [(0, .ref x), (1, .int p0), (2, .long p1), (4, .int p2), (5, .int p3)] := hl
  refine lv_aload_n hx hb dX7_recovery_0 rfl (lv_at hl 0 rfl) ?_
  refine lv_iload_n hx hb dX7_recovery_1 rfl (lv_at hl 1 rfl) ?_
  refine k_i (va_runV (As := [.int p0]) (rest := []) ⟨hx, hb, hml, hown, hts⟩ (m_X7_isLoss l D cI cJ (s.heap).size x x0 x1 x2 x3 x4 x5 b0 b1 b2 b3 b4 b5 b6 b7 b8 b9 b10 b11 0 0 0 p0) (cwV 1 hts gX7_recovery_X7_isLoss rfl rfl rfl (by decide +kernel) ⟨Nat.le_of_ble_eq_true rfl, Nat.le_of_ble_eq_true rfl⟩) (k_preV hE hP hD [0, 1] (by decide) rfl 0 rfl rfl) rfl rfl hl.1 rfl (lv_room (Nat.le_of_ble_eq_true rfl)) dX7_recovery_2 ⟨Nat.le_of_ble_eq_true rfl, Nat.le_of_ble_eq_true rfl⟩) hP hD hS hA [0, 1] [] rfl (wr := []) rfl (by decide) (by decide) (fun r1 u H locs hw2 hP hD hS => ?_)
  obtain ⟨hw2, rfl⟩ := hw2
  obtain rfl : r1 = 0 := by rw [hw2]; exact bz_z (nofit _)
  have hP : va_P D vwCl [(x, .inr (7, [.ref x0, .ref x1, .ref x2, .ref x3, .ref x4, .ref x5])), (x0, .inr (0, [.ref b0, .ref b1, .ref b2, .ref b3, .ref b4, .ref b5, .ref b6, .ref b7, .ref b8, .ref b9, .ref b10, .ref b11, .int 0, .int 0, .int 0]))] H := hP
  have hD : va_D A [(x, .inr (7, [.ref x0, .ref x1, .ref x2, .ref x3, .ref x4, .ref x5])), (x0, .inr (0, [.ref b0, .ref b1, .ref b2, .ref b3, .ref b4, .ref b5, .ref b6, .ref b7, .ref b8, .ref b9, .ref b10, .ref b11, .int 0, .int 0, .int 0]))] := hD
  refine lv_if_eq (tgt := 36) hx hb dX7_recovery_5 (by decide) (fun _ => ?_) (fun c3 => absurd (by decide) c3)
  refine lv_iconst (v := (-1)) hx hb dX7_recovery_36 (by decide) ?_
  refine k_iret (u := []) hx hb hr hlk (k_sub hP [] rfl) (hD.sub [] (by decide) rfl) hS dX7_recovery_37 ?_
  exact ⟨rfl, rfl⟩
theorem dX7_broke_0 : decode cX7_broke 0 = .ok (.aload_n 0, 1) := by decide +kernel
theorem dX7_broke_1 : decode cX7_broke 1 = .ok (.iload_n 1, 1) := by decide +kernel
theorem dX7_broke_2 : decode cX7_broke 2 = .ok (.invokevirtual 137, 3) := by decide +kernel
theorem dX7_broke_5 : decode cX7_broke 5 = .ok (.ifCond .eq 19, 3) := by decide +kernel
theorem dX7_broke_24 : decode cX7_broke 24 = .ok (.iconst (-1), 1) := by decide +kernel
theorem dX7_broke_25 : decode cX7_broke 25 = .ok (.ireturn, 1) := by decide +kernel
set_option maxRecDepth 20000 in
theorem ggX7_broke_X7_isLoss : GoodIn wsX7_broke wsX7_isLoss := goodIn_r _ [9, 10, 11, 12, 13, 8, 14, 179, 180, 181, 182, 183, 184, 202, 203, 204, 205, 206, 207, 208, 209, 210, 211, 212, 213, 214, 215, 216] (by decide +kernel) (by decide +kernel)
set_option maxRecDepth 20000 in
theorem gX7_broke_X7_isLoss : GoodIn wsX7_broke (wsV RX7 137 RX7 yX7_isLoss wsX7_isLoss) := goodIn_app (goodIn_of _ (by decide +kernel)) ggX7_broke_X7_isLoss
set_option maxHeartbeats 4000000 in
set_option maxRecDepth 100000 in
theorem f_X7_broke (l : Launch) (D : va_G) (cI cJ : ClassId) (sz : Nat) (x x0 x1 x2 x3 x4 x5 b0 b1 b2 b3 b4 b5 b6 b7 b8 b9 b10 b11 : Nat) (p0 p1 p2 : Int32) : Met l yX7_broke wsX7_broke { frames := 2, cells := 0, slots := 0, locals := 43 } (cPc D cI cJ [.ref x, .int p0, .int p1, .int p2] sz [(x, .inr (7, [.ref x0, .ref x1, .ref x2, .ref x3, .ref x4, .ref x5])), (x0, .inr (0, [.ref b0, .ref b1, .ref b2, .ref b3, .ref b4, .ref b5, .ref b6, .ref b7, .ref b8, .ref b9, .ref b10, .ref b11, .int 0, .int 0, .int 0]))]) (cQi D (fun r u => r = -1 ∧ u = []) (va_A [(x, .inr (7, [.ref x0, .ref x1, .ref x2, .ref x3, .ref x4, .ref x5])), (x0, .inr (0, [.ref b0, .ref b1, .ref b2, .ref b3, .ref b4, .ref b5, .ref b6, .ref b7, .ref b8, .ref b9, .ref b10, .ref b11, .int 0, .int 0, .int 0]))] sz)) 0 0 (va_A [(x, .inr (7, [.ref x0, .ref x1, .ref x2, .ref x3, .ref x4, .ref x5])), (x0, .inr (0, [.ref b0, .ref b1, .ref b2, .ref b3, .ref b4, .ref b5, .ref b6, .ref b7, .ref b8, .ref b9, .ref b10, .ref b11, .int 0, .int 0, .int 0]))] sz) := by
  refine k_ofW (Qc := cQi D (fun r u => r = -1 ∧ u = [])) (by decide) rfl (Nat.le_of_ble_eq_true rfl) ?_
  intro p e s m below meth c A ls hx hb hr hml hts hown hlk hnm hsz hE hP hD hS hA hl
  have hown : s.vm.findClass RX7 = some m.cls := hown
  have hl : lv_has ls 5 [(0, .ref x), (1, .int p0), (2, .int p1), (3, .int p2)] := hl
  refine lv_aload_n hx hb dX7_broke_0 rfl (lv_at hl 0 rfl) ?_
  refine lv_iload_n hx hb dX7_broke_1 rfl (lv_at hl 1 rfl) ?_
  refine k_i (va_runV (As := [.int p0]) (rest := []) ⟨hx, hb, hml, hown, hts⟩ (m_X7_isLoss l D cI cJ (s.heap).size x x0 x1 x2 x3 x4 x5 b0 b1 b2 b3 b4 b5 b6 b7 b8 b9 b10 b11 0 0 0 p0) (cwV 1 hts gX7_broke_X7_isLoss rfl rfl rfl (by decide +kernel) ⟨Nat.le_of_ble_eq_true rfl, Nat.le_of_ble_eq_true rfl⟩) (k_preV hE hP hD [0, 1] (by decide) rfl 0 rfl rfl) rfl rfl hl.1 rfl (lv_room (Nat.le_of_ble_eq_true rfl)) dX7_broke_2 ⟨Nat.le_of_ble_eq_true rfl, Nat.le_of_ble_eq_true rfl⟩) hP hD hS hA [0, 1] [] rfl (wr := []) rfl (by decide) (by decide) (fun r1 u H locs hw2 hP hD hS => ?_)
  obtain ⟨hw2, rfl⟩ := hw2
  obtain rfl : r1 = 0 := by rw [hw2]; exact bz_z (nofit _)
  have hP : va_P D vwCl [(x, .inr (7, [.ref x0, .ref x1, .ref x2, .ref x3, .ref x4, .ref x5])), (x0, .inr (0, [.ref b0, .ref b1, .ref b2, .ref b3, .ref b4, .ref b5, .ref b6, .ref b7, .ref b8, .ref b9, .ref b10, .ref b11, .int 0, .int 0, .int 0]))] H := hP
  have hD : va_D A [(x, .inr (7, [.ref x0, .ref x1, .ref x2, .ref x3, .ref x4, .ref x5])), (x0, .inr (0, [.ref b0, .ref b1, .ref b2, .ref b3, .ref b4, .ref b5, .ref b6, .ref b7, .ref b8, .ref b9, .ref b10, .ref b11, .int 0, .int 0, .int 0]))] := hD
  refine lv_if_eq (tgt := 24) hx hb dX7_broke_5 (by decide) (fun _ => ?_) (fun c3 => absurd (by decide) c3)
  refine lv_iconst (v := (-1)) hx hb dX7_broke_24 (by decide) ?_
  refine k_iret (u := []) hx hb hr hlk (k_sub hP [] rfl) (hD.sub [] (by decide) rfl) hS dX7_broke_25 ?_
  exact ⟨rfl, rfl⟩
theorem dX7_without_0 : decode cX7_without 0 = .ok (.aload_n 0, 1) := by decide +kernel
theorem dX7_without_1 : decode cX7_without 1 = .ok (.iload_n 1, 1) := by decide +kernel
theorem dX7_without_2 : decode cX7_without 2 = .ok (.invokevirtual 137, 3) := by decide +kernel
theorem dX7_without_5 : decode cX7_without 5 = .ok (.ifCond .eq 11, 3) := by decide +kernel
theorem dX7_without_16 : decode cX7_without 16 = .ok (.iconst (-1), 1) := by decide +kernel
theorem dX7_without_17 : decode cX7_without 17 = .ok (.ireturn, 1) := by decide +kernel
set_option maxRecDepth 20000 in
theorem ggX7_without_X7_isLoss : GoodIn wsX7_without wsX7_isLoss := goodIn_r _ [6, 1, 7, 8, 9, 5, 10, 165, 166, 167, 168, 169, 170, 171, 172, 173, 174, 175, 176, 177, 178, 179, 180, 181, 182, 183, 184, 185] (by decide +kernel) (by decide +kernel)
set_option maxRecDepth 20000 in
theorem gX7_without_X7_isLoss : GoodIn wsX7_without (wsV RX7 137 RX7 yX7_isLoss wsX7_isLoss) := goodIn_app (goodIn_of _ (by decide +kernel)) ggX7_without_X7_isLoss
set_option maxHeartbeats 4000000 in
set_option maxRecDepth 100000 in
theorem f_X7_without (l : Launch) (D : va_G) (cI cJ : ClassId) (sz : Nat) (x x0 x1 x2 x3 x4 x5 b0 b1 b2 b3 b4 b5 b6 b7 b8 b9 b10 b11 : Nat) (p0 p1 : Int32) : Met l yX7_without wsX7_without { frames := 2, cells := 0, slots := 0, locals := 43 } (cPc D cI cJ [.ref x, .int p0, .int p1] sz [(x, .inr (7, [.ref x0, .ref x1, .ref x2, .ref x3, .ref x4, .ref x5])), (x0, .inr (0, [.ref b0, .ref b1, .ref b2, .ref b3, .ref b4, .ref b5, .ref b6, .ref b7, .ref b8, .ref b9, .ref b10, .ref b11, .int 0, .int 0, .int 0]))]) (cQi D (fun r u => r = -1 ∧ u = []) (va_A [(x, .inr (7, [.ref x0, .ref x1, .ref x2, .ref x3, .ref x4, .ref x5])), (x0, .inr (0, [.ref b0, .ref b1, .ref b2, .ref b3, .ref b4, .ref b5, .ref b6, .ref b7, .ref b8, .ref b9, .ref b10, .ref b11, .int 0, .int 0, .int 0]))] sz)) 0 0 (va_A [(x, .inr (7, [.ref x0, .ref x1, .ref x2, .ref x3, .ref x4, .ref x5])), (x0, .inr (0, [.ref b0, .ref b1, .ref b2, .ref b3, .ref b4, .ref b5, .ref b6, .ref b7, .ref b8, .ref b9, .ref b10, .ref b11, .int 0, .int 0, .int 0]))] sz) := by
  refine k_ofW (Qc := cQi D (fun r u => r = -1 ∧ u = [])) (by decide) rfl (Nat.le_of_ble_eq_true rfl) ?_
  intro p e s m below meth c A ls hx hb hr hml hts hown hlk hnm hsz hE hP hD hS hA hl
  have hown : s.vm.findClass RX7 = some m.cls := hown
  have hl : lv_has ls 3 [(0, .ref x), (1, .int p0), (2, .int p1)] := hl
  refine lv_aload_n hx hb dX7_without_0 rfl (lv_at hl 0 rfl) ?_
  refine lv_iload_n hx hb dX7_without_1 rfl (lv_at hl 1 rfl) ?_
  refine k_i (va_runV (As := [.int p0]) (rest := []) ⟨hx, hb, hml, hown, hts⟩ (m_X7_isLoss l D cI cJ (s.heap).size x x0 x1 x2 x3 x4 x5 b0 b1 b2 b3 b4 b5 b6 b7 b8 b9 b10 b11 0 0 0 p0) (cwV 1 hts gX7_without_X7_isLoss rfl rfl rfl (by decide +kernel) ⟨Nat.le_of_ble_eq_true rfl, Nat.le_of_ble_eq_true rfl⟩) (k_preV hE hP hD [0, 1] (by decide) rfl 0 rfl rfl) rfl rfl hl.1 rfl (lv_room (Nat.le_of_ble_eq_true rfl)) dX7_without_2 ⟨Nat.le_of_ble_eq_true rfl, Nat.le_of_ble_eq_true rfl⟩) hP hD hS hA [0, 1] [] rfl (wr := []) rfl (by decide) (by decide) (fun r1 u H locs hw2 hP hD hS => ?_)
  obtain ⟨hw2, rfl⟩ := hw2
  obtain rfl : r1 = 0 := by rw [hw2]; exact bz_z (nofit _)
  have hP : va_P D vwCl [(x, .inr (7, [.ref x0, .ref x1, .ref x2, .ref x3, .ref x4, .ref x5])), (x0, .inr (0, [.ref b0, .ref b1, .ref b2, .ref b3, .ref b4, .ref b5, .ref b6, .ref b7, .ref b8, .ref b9, .ref b10, .ref b11, .int 0, .int 0, .int 0]))] H := hP
  have hD : va_D A [(x, .inr (7, [.ref x0, .ref x1, .ref x2, .ref x3, .ref x4, .ref x5])), (x0, .inr (0, [.ref b0, .ref b1, .ref b2, .ref b3, .ref b4, .ref b5, .ref b6, .ref b7, .ref b8, .ref b9, .ref b10, .ref b11, .int 0, .int 0, .int 0]))] := hD
  refine lv_if_eq (tgt := 16) hx hb dX7_without_5 (by decide) (fun _ => ?_) (fun c3 => absurd (by decide) c3)
  refine lv_iconst (v := (-1)) hx hb dX7_without_16 (by decide) ?_
  refine k_iret (u := []) hx hb hr hlk (k_sub hP [] rfl) (hD.sub [] (by decide) rfl) hS dX7_without_17 ?_
  exact ⟨rfl, rfl⟩
theorem dX7_other_0 : decode cX7_other 0 = .ok (.aload_n 0, 1) := by decide +kernel
theorem dX7_other_1 : decode cX7_other 1 = .ok (.iload_n 1, 1) := by decide +kernel
theorem dX7_other_2 : decode cX7_other 2 = .ok (.invokevirtual 137, 3) := by decide +kernel
theorem dX7_other_5 : decode cX7_other 5 = .ok (.ifCond .eq 11, 3) := by decide +kernel
theorem dX7_other_16 : decode cX7_other 16 = .ok (.iconst (-1), 1) := by decide +kernel
theorem dX7_other_17 : decode cX7_other 17 = .ok (.ireturn, 1) := by decide +kernel
set_option maxRecDepth 20000 in
theorem ggX7_other_X7_isLoss : GoodIn wsX7_other wsX7_isLoss := goodIn_r _ [10, 2, 11, 12, 13, 9, 14, 161, 162, 163, 164, 165, 166, 167, 168, 169, 170, 171, 172, 173, 174, 175, 176, 177, 178, 179, 180, 181] (by decide +kernel) (by decide +kernel)
set_option maxRecDepth 20000 in
theorem gX7_other_X7_isLoss : GoodIn wsX7_other (wsV RX7 137 RX7 yX7_isLoss wsX7_isLoss) := goodIn_app (goodIn_of _ (by decide +kernel)) ggX7_other_X7_isLoss
set_option maxHeartbeats 4000000 in
set_option maxRecDepth 100000 in
theorem f_X7_other (l : Launch) (D : va_G) (cI cJ : ClassId) (sz : Nat) (x x0 x1 x2 x3 x4 x5 b0 b1 b2 b3 b4 b5 b6 b7 b8 b9 b10 b11 : Nat) (p0 p1 : Int32) : Met l yX7_other wsX7_other { frames := 2, cells := 0, slots := 0, locals := 43 } (cPc D cI cJ [.ref x, .int p0, .int p1] sz [(x, .inr (7, [.ref x0, .ref x1, .ref x2, .ref x3, .ref x4, .ref x5])), (x0, .inr (0, [.ref b0, .ref b1, .ref b2, .ref b3, .ref b4, .ref b5, .ref b6, .ref b7, .ref b8, .ref b9, .ref b10, .ref b11, .int 0, .int 0, .int 0]))]) (cQi D (fun r u => r = -1 ∧ u = []) (va_A [(x, .inr (7, [.ref x0, .ref x1, .ref x2, .ref x3, .ref x4, .ref x5])), (x0, .inr (0, [.ref b0, .ref b1, .ref b2, .ref b3, .ref b4, .ref b5, .ref b6, .ref b7, .ref b8, .ref b9, .ref b10, .ref b11, .int 0, .int 0, .int 0]))] sz)) 0 0 (va_A [(x, .inr (7, [.ref x0, .ref x1, .ref x2, .ref x3, .ref x4, .ref x5])), (x0, .inr (0, [.ref b0, .ref b1, .ref b2, .ref b3, .ref b4, .ref b5, .ref b6, .ref b7, .ref b8, .ref b9, .ref b10, .ref b11, .int 0, .int 0, .int 0]))] sz) := by
  refine k_ofW (Qc := cQi D (fun r u => r = -1 ∧ u = [])) (by decide) rfl (Nat.le_of_ble_eq_true rfl) ?_
  intro p e s m below meth c A ls hx hb hr hml hts hown hlk hnm hsz hE hP hD hS hA hl
  have hown : s.vm.findClass RX7 = some m.cls := hown
  have hl : lv_has ls 3 [(0, .ref x), (1, .int p0), (2, .int p1)] := hl
  refine lv_aload_n hx hb dX7_other_0 rfl (lv_at hl 0 rfl) ?_
  refine lv_iload_n hx hb dX7_other_1 rfl (lv_at hl 1 rfl) ?_
  refine k_i (va_runV (As := [.int p0]) (rest := []) ⟨hx, hb, hml, hown, hts⟩ (m_X7_isLoss l D cI cJ (s.heap).size x x0 x1 x2 x3 x4 x5 b0 b1 b2 b3 b4 b5 b6 b7 b8 b9 b10 b11 0 0 0 p0) (cwV 1 hts gX7_other_X7_isLoss rfl rfl rfl (by decide +kernel) ⟨Nat.le_of_ble_eq_true rfl, Nat.le_of_ble_eq_true rfl⟩) (k_preV hE hP hD [0, 1] (by decide) rfl 0 rfl rfl) rfl rfl hl.1 rfl (lv_room (Nat.le_of_ble_eq_true rfl)) dX7_other_2 ⟨Nat.le_of_ble_eq_true rfl, Nat.le_of_ble_eq_true rfl⟩) hP hD hS hA [0, 1] [] rfl (wr := []) rfl (by decide) (by decide) (fun r1 u H locs hw2 hP hD hS => ?_)
  obtain ⟨hw2, rfl⟩ := hw2
  obtain rfl : r1 = 0 := by rw [hw2]; exact bz_z (nofit _)
  have hP : va_P D vwCl [(x, .inr (7, [.ref x0, .ref x1, .ref x2, .ref x3, .ref x4, .ref x5])), (x0, .inr (0, [.ref b0, .ref b1, .ref b2, .ref b3, .ref b4, .ref b5, .ref b6, .ref b7, .ref b8, .ref b9, .ref b10, .ref b11, .int 0, .int 0, .int 0]))] H := hP
  have hD : va_D A [(x, .inr (7, [.ref x0, .ref x1, .ref x2, .ref x3, .ref x4, .ref x5])), (x0, .inr (0, [.ref b0, .ref b1, .ref b2, .ref b3, .ref b4, .ref b5, .ref b6, .ref b7, .ref b8, .ref b9, .ref b10, .ref b11, .int 0, .int 0, .int 0]))] := hD
  refine lv_if_eq (tgt := 16) hx hb dX7_other_5 (by decide) (fun _ => ?_) (fun c3 => absurd (by decide) c3)
  refine lv_iconst (v := (-1)) hx hb dX7_other_16 (by decide) ?_
  refine k_iret (u := []) hx hb hr hlk (k_sub hP [] rfl) (hD.sub [] (by decide) rfl) hS dX7_other_17 ?_
  exact ⟨rfl, rfl⟩
theorem dX7_set_0 : decode cX7_set 0 = .ok (.aload_n 0, 1) := by decide +kernel
theorem dX7_set_1 : decode cX7_set 1 = .ok (.iload_n 1, 1) := by decide +kernel
theorem dX7_set_2 : decode cX7_set 2 = .ok (.invokevirtual 137, 3) := by decide +kernel
theorem dX7_set_5 : decode cX7_set 5 = .ok (.ifCond .eq 20, 3) := by decide +kernel
theorem dX7_set_25 : decode cX7_set 25 = .ok (.iconst (-1), 1) := by decide +kernel
theorem dX7_set_26 : decode cX7_set 26 = .ok (.ireturn, 1) := by decide +kernel
set_option maxRecDepth 20000 in
theorem ggX7_set_X7_isLoss : GoodIn wsX7_set wsX7_isLoss := goodIn_r _ [5, 6, 7, 8, 9, 4, 10, 164, 165, 166, 167, 168, 169, 170, 171, 172, 173, 174, 175, 176, 177, 178, 179, 180, 181, 182, 183, 184] (by decide +kernel) (by decide +kernel)
set_option maxRecDepth 20000 in
theorem gX7_set_X7_isLoss : GoodIn wsX7_set (wsV RX7 137 RX7 yX7_isLoss wsX7_isLoss) := goodIn_app (goodIn_of _ (by decide +kernel)) ggX7_set_X7_isLoss
set_option maxHeartbeats 4000000 in
set_option maxRecDepth 100000 in
theorem f_X7_set (l : Launch) (D : va_G) (cI cJ : ClassId) (sz : Nat) (x x0 x1 x2 x3 x4 x5 b0 b1 b2 b3 b4 b5 b6 b7 b8 b9 b10 b11 : Nat) (p0 p1 : Int32) : Met l yX7_set wsX7_set { frames := 2, cells := 0, slots := 0, locals := 43 } (cPc D cI cJ [.ref x, .int p0, .int p1] sz [(x, .inr (7, [.ref x0, .ref x1, .ref x2, .ref x3, .ref x4, .ref x5])), (x0, .inr (0, [.ref b0, .ref b1, .ref b2, .ref b3, .ref b4, .ref b5, .ref b6, .ref b7, .ref b8, .ref b9, .ref b10, .ref b11, .int 0, .int 0, .int 0]))]) (cQi D (fun r u => r = -1 ∧ u = []) (va_A [(x, .inr (7, [.ref x0, .ref x1, .ref x2, .ref x3, .ref x4, .ref x5])), (x0, .inr (0, [.ref b0, .ref b1, .ref b2, .ref b3, .ref b4, .ref b5, .ref b6, .ref b7, .ref b8, .ref b9, .ref b10, .ref b11, .int 0, .int 0, .int 0]))] sz)) 0 0 (va_A [(x, .inr (7, [.ref x0, .ref x1, .ref x2, .ref x3, .ref x4, .ref x5])), (x0, .inr (0, [.ref b0, .ref b1, .ref b2, .ref b3, .ref b4, .ref b5, .ref b6, .ref b7, .ref b8, .ref b9, .ref b10, .ref b11, .int 0, .int 0, .int 0]))] sz) := by
  refine k_ofW (Qc := cQi D (fun r u => r = -1 ∧ u = [])) (by decide) rfl (Nat.le_of_ble_eq_true rfl) ?_
  intro p e s m below meth c A ls hx hb hr hml hts hown hlk hnm hsz hE hP hD hS hA hl
  have hown : s.vm.findClass RX7 = some m.cls := hown
  have hl : lv_has ls 3 [(0, .ref x), (1, .int p0), (2, .int p1)] := hl
  refine lv_aload_n hx hb dX7_set_0 rfl (lv_at hl 0 rfl) ?_
  refine lv_iload_n hx hb dX7_set_1 rfl (lv_at hl 1 rfl) ?_
  refine k_i (va_runV (As := [.int p0]) (rest := []) ⟨hx, hb, hml, hown, hts⟩ (m_X7_isLoss l D cI cJ (s.heap).size x x0 x1 x2 x3 x4 x5 b0 b1 b2 b3 b4 b5 b6 b7 b8 b9 b10 b11 0 0 0 p0) (cwV 1 hts gX7_set_X7_isLoss rfl rfl rfl (by decide +kernel) ⟨Nat.le_of_ble_eq_true rfl, Nat.le_of_ble_eq_true rfl⟩) (k_preV hE hP hD [0, 1] (by decide) rfl 0 rfl rfl) rfl rfl hl.1 rfl (lv_room (Nat.le_of_ble_eq_true rfl)) dX7_set_2 ⟨Nat.le_of_ble_eq_true rfl, Nat.le_of_ble_eq_true rfl⟩) hP hD hS hA [0, 1] [] rfl (wr := []) rfl (by decide) (by decide) (fun r1 u H locs hw2 hP hD hS => ?_)
  obtain ⟨hw2, rfl⟩ := hw2
  obtain rfl : r1 = 0 := by rw [hw2]; exact bz_z (nofit _)
  have hP : va_P D vwCl [(x, .inr (7, [.ref x0, .ref x1, .ref x2, .ref x3, .ref x4, .ref x5])), (x0, .inr (0, [.ref b0, .ref b1, .ref b2, .ref b3, .ref b4, .ref b5, .ref b6, .ref b7, .ref b8, .ref b9, .ref b10, .ref b11, .int 0, .int 0, .int 0]))] H := hP
  have hD : va_D A [(x, .inr (7, [.ref x0, .ref x1, .ref x2, .ref x3, .ref x4, .ref x5])), (x0, .inr (0, [.ref b0, .ref b1, .ref b2, .ref b3, .ref b4, .ref b5, .ref b6, .ref b7, .ref b8, .ref b9, .ref b10, .ref b11, .int 0, .int 0, .int 0]))] := hD
  refine lv_if_eq (tgt := 25) hx hb dX7_set_5 (by decide) (fun _ => ?_) (fun c3 => absurd (by decide) c3)
  refine lv_iconst (v := (-1)) hx hb dX7_set_25 (by decide) ?_
  refine k_iret (u := []) hx hb hr hlk (k_sub hP [] rfl) (hD.sub [] (by decide) rfl) hS dX7_set_26 ?_
  exact ⟨rfl, rfl⟩
theorem dX7_shapley_0 : decode cX7_shapley 0 = .ok (.aload_n 0, 1) := by decide +kernel
theorem dX7_shapley_1 : decode cX7_shapley 1 = .ok (.iload_n 1, 1) := by decide +kernel
theorem dX7_shapley_2 : decode cX7_shapley 2 = .ok (.invokevirtual 137, 3) := by decide +kernel
theorem dX7_shapley_5 : decode cX7_shapley 5 = .ok (.ifCond .eq 11, 3) := by decide +kernel
theorem dX7_shapley_16 : decode cX7_shapley 16 = .ok (.ldc2_w 203, 3) := by decide +kernel
theorem dX7_shapley_19 : decode cX7_shapley 19 = .ok (.lreturn, 1) := by decide +kernel
set_option maxRecDepth 20000 in
theorem ggX7_shapley_X7_isLoss : GoodIn wsX7_shapley wsX7_isLoss := goodIn_r _ [9, 2, 10, 11, 12, 8, 13, 175, 176, 177, 178, 179, 180, 181, 182, 183, 184, 185, 186, 187, 188, 189, 190, 191, 192, 193, 194, 195] (by decide +kernel) (by decide +kernel)
set_option maxRecDepth 20000 in
theorem gX7_shapley_X7_isLoss : GoodIn wsX7_shapley (wsV RX7 137 RX7 yX7_isLoss wsX7_isLoss) := goodIn_app (goodIn_of _ (by decide +kernel)) ggX7_shapley_X7_isLoss
set_option maxHeartbeats 4000000 in
set_option maxRecDepth 100000 in
theorem f_X7_shapley (l : Launch) (D : va_G) (cI cJ : ClassId) (sz : Nat) (x x0 x1 x2 x3 x4 x5 b0 b1 b2 b3 b4 b5 b6 b7 b8 b9 b10 b11 : Nat) (p0 p1 : Int32) : Met l yX7_shapley wsX7_shapley { frames := 2, cells := 0, slots := 0, locals := 43 } (cPc D cI cJ [.ref x, .int p0, .int p1] sz [(x, .inr (7, [.ref x0, .ref x1, .ref x2, .ref x3, .ref x4, .ref x5])), (x0, .inr (0, [.ref b0, .ref b1, .ref b2, .ref b3, .ref b4, .ref b5, .ref b6, .ref b7, .ref b8, .ref b9, .ref b10, .ref b11, .int 0, .int 0, .int 0]))]) (cQl D (fun r u => r = -1 ∧ u = []) (va_A [(x, .inr (7, [.ref x0, .ref x1, .ref x2, .ref x3, .ref x4, .ref x5])), (x0, .inr (0, [.ref b0, .ref b1, .ref b2, .ref b3, .ref b4, .ref b5, .ref b6, .ref b7, .ref b8, .ref b9, .ref b10, .ref b11, .int 0, .int 0, .int 0]))] sz)) 0 0 (va_A [(x, .inr (7, [.ref x0, .ref x1, .ref x2, .ref x3, .ref x4, .ref x5])), (x0, .inr (0, [.ref b0, .ref b1, .ref b2, .ref b3, .ref b4, .ref b5, .ref b6, .ref b7, .ref b8, .ref b9, .ref b10, .ref b11, .int 0, .int 0, .int 0]))] sz) := by
  refine k_ofW (Qc := cQl D (fun r u => r = -1 ∧ u = [])) (by decide) rfl (Nat.le_of_ble_eq_true rfl) ?_
  intro p e s m below meth c A ls hx hb hr hml hts hown hlk hnm hsz hE hP hD hS hA hl
  have hown : s.vm.findClass RX7 = some m.cls := hown
  have hl : lv_has ls 12 [(0, .ref x), (1, .int p0), (2, .int p1)] := hl
  refine lv_aload_n hx hb dX7_shapley_0 rfl (lv_at hl 0 rfl) ?_
  refine lv_iload_n hx hb dX7_shapley_1 rfl (lv_at hl 1 rfl) ?_
  refine k_i (va_runV (As := [.int p0]) (rest := []) ⟨hx, hb, hml, hown, hts⟩ (m_X7_isLoss l D cI cJ (s.heap).size x x0 x1 x2 x3 x4 x5 b0 b1 b2 b3 b4 b5 b6 b7 b8 b9 b10 b11 0 0 0 p0) (cwV 1 hts gX7_shapley_X7_isLoss rfl rfl rfl (by decide +kernel) ⟨Nat.le_of_ble_eq_true rfl, Nat.le_of_ble_eq_true rfl⟩) (k_preV hE hP hD [0, 1] (by decide) rfl 0 rfl rfl) rfl rfl hl.1 rfl (lv_room (Nat.le_of_ble_eq_true rfl)) dX7_shapley_2 ⟨Nat.le_of_ble_eq_true rfl, Nat.le_of_ble_eq_true rfl⟩) hP hD hS hA [0, 1] [] rfl (wr := []) rfl (by decide) (by decide) (fun r1 u H locs hw2 hP hD hS => ?_)
  obtain ⟨hw2, rfl⟩ := hw2
  obtain rfl : r1 = 0 := by rw [hw2]; exact bz_z (nofit _)
  have hP : va_P D vwCl [(x, .inr (7, [.ref x0, .ref x1, .ref x2, .ref x3, .ref x4, .ref x5])), (x0, .inr (0, [.ref b0, .ref b1, .ref b2, .ref b3, .ref b4, .ref b5, .ref b6, .ref b7, .ref b8, .ref b9, .ref b10, .ref b11, .int 0, .int 0, .int 0]))] H := hP
  have hD : va_D A [(x, .inr (7, [.ref x0, .ref x1, .ref x2, .ref x3, .ref x4, .ref x5])), (x0, .inr (0, [.ref b0, .ref b1, .ref b2, .ref b3, .ref b4, .ref b5, .ref b6, .ref b7, .ref b8, .ref b9, .ref b10, .ref b11, .int 0, .int 0, .int 0]))] := hD
  refine lv_if_eq (tgt := 16) hx hb dX7_shapley_5 (by decide) (fun _ => ?_) (fun c3 => absurd (by decide) c3)
  refine lv_ldc2 (v := (-1)) hx hb hown (hts _ (List.mem_of_getElem? (i := 1) rfl)) dX7_shapley_16 ?_
  refine k_lret (u := []) hx hb hr hlk (k_sub hP [] rfl) (hD.sub [] (by decide) rfl) hS dX7_shapley_19 ?_
  exact ⟨rfl, rfl⟩
theorem dX7_ringless_0 : decode cX7_ringless 0 = .ok (.aload_n 0, 1) := by decide +kernel
theorem dX7_ringless_1 : decode cX7_ringless 1 = .ok (.iload_n 1, 1) := by decide +kernel
theorem dX7_ringless_2 : decode cX7_ringless 2 = .ok (.invokevirtual 137, 3) := by decide +kernel
theorem dX7_ringless_5 : decode cX7_ringless 5 = .ok (.ifCond .ne 5, 3) := by decide +kernel
theorem dX7_ringless_8 : decode cX7_ringless 8 = .ok (.iconst (-1), 1) := by decide +kernel
theorem dX7_ringless_9 : decode cX7_ringless 9 = .ok (.ireturn, 1) := by decide +kernel
set_option maxRecDepth 20000 in
theorem ggX7_ringless_X7_isLoss : GoodIn wsX7_ringless wsX7_isLoss := goodIn_r _ [7, 8, 9, 10, 11, 6, 12, 174, 175, 176, 177, 178, 179, 194, 195, 196, 197, 198, 199, 200, 201, 202, 203, 204, 205, 206, 207, 208] (by decide +kernel) (by decide +kernel)
set_option maxRecDepth 20000 in
theorem gX7_ringless_X7_isLoss : GoodIn wsX7_ringless (wsV RX7 137 RX7 yX7_isLoss wsX7_isLoss) := goodIn_app (goodIn_of _ (by decide +kernel)) ggX7_ringless_X7_isLoss
set_option maxHeartbeats 4000000 in
set_option maxRecDepth 100000 in
theorem f_X7_ringless (l : Launch) (D : va_G) (cI cJ : ClassId) (sz : Nat) (x x0 x1 x2 x3 x4 x5 b0 b1 b2 b3 b4 b5 b6 b7 b8 b9 b10 b11 : Nat) (p0 p1 : Int32) : Met l yX7_ringless wsX7_ringless { frames := 2, cells := 0, slots := 0, locals := 43 } (cPc D cI cJ [.ref x, .int p0, .int p1] sz [(x, .inr (7, [.ref x0, .ref x1, .ref x2, .ref x3, .ref x4, .ref x5])), (x0, .inr (0, [.ref b0, .ref b1, .ref b2, .ref b3, .ref b4, .ref b5, .ref b6, .ref b7, .ref b8, .ref b9, .ref b10, .ref b11, .int 0, .int 0, .int 0]))]) (cQi D (fun r u => r = -1 ∧ u = []) (va_A [(x, .inr (7, [.ref x0, .ref x1, .ref x2, .ref x3, .ref x4, .ref x5])), (x0, .inr (0, [.ref b0, .ref b1, .ref b2, .ref b3, .ref b4, .ref b5, .ref b6, .ref b7, .ref b8, .ref b9, .ref b10, .ref b11, .int 0, .int 0, .int 0]))] sz)) 0 0 (va_A [(x, .inr (7, [.ref x0, .ref x1, .ref x2, .ref x3, .ref x4, .ref x5])), (x0, .inr (0, [.ref b0, .ref b1, .ref b2, .ref b3, .ref b4, .ref b5, .ref b6, .ref b7, .ref b8, .ref b9, .ref b10, .ref b11, .int 0, .int 0, .int 0]))] sz) := by
  refine k_ofW (Qc := cQi D (fun r u => r = -1 ∧ u = [])) (by decide) rfl (Nat.le_of_ble_eq_true rfl) ?_
  intro p e s m below meth c A ls hx hb hr hml hts hown hlk hnm hsz hE hP hD hS hA hl
  have hown : s.vm.findClass RX7 = some m.cls := hown
  have hl : lv_has ls 4 [(0, .ref x), (1, .int p0), (2, .int p1)] := hl
  refine lv_aload_n hx hb dX7_ringless_0 rfl (lv_at hl 0 rfl) ?_
  refine lv_iload_n hx hb dX7_ringless_1 rfl (lv_at hl 1 rfl) ?_
  refine k_i (va_runV (As := [.int p0]) (rest := []) ⟨hx, hb, hml, hown, hts⟩ (m_X7_isLoss l D cI cJ (s.heap).size x x0 x1 x2 x3 x4 x5 b0 b1 b2 b3 b4 b5 b6 b7 b8 b9 b10 b11 0 0 0 p0) (cwV 1 hts gX7_ringless_X7_isLoss rfl rfl rfl (by decide +kernel) ⟨Nat.le_of_ble_eq_true rfl, Nat.le_of_ble_eq_true rfl⟩) (k_preV hE hP hD [0, 1] (by decide) rfl 0 rfl rfl) rfl rfl hl.1 rfl (lv_room (Nat.le_of_ble_eq_true rfl)) dX7_ringless_2 ⟨Nat.le_of_ble_eq_true rfl, Nat.le_of_ble_eq_true rfl⟩) hP hD hS hA [0, 1] [] rfl (wr := []) rfl (by decide) (by decide) (fun r1 u H locs hw2 hP hD hS => ?_)
  obtain ⟨hw2, rfl⟩ := hw2
  obtain rfl : r1 = 0 := by rw [hw2]; exact bz_z (nofit _)
  have hP : va_P D vwCl [(x, .inr (7, [.ref x0, .ref x1, .ref x2, .ref x3, .ref x4, .ref x5])), (x0, .inr (0, [.ref b0, .ref b1, .ref b2, .ref b3, .ref b4, .ref b5, .ref b6, .ref b7, .ref b8, .ref b9, .ref b10, .ref b11, .int 0, .int 0, .int 0]))] H := hP
  have hD : va_D A [(x, .inr (7, [.ref x0, .ref x1, .ref x2, .ref x3, .ref x4, .ref x5])), (x0, .inr (0, [.ref b0, .ref b1, .ref b2, .ref b3, .ref b4, .ref b5, .ref b6, .ref b7, .ref b8, .ref b9, .ref b10, .ref b11, .int 0, .int 0, .int 0]))] := hD
  refine lv_if_ne (tgt := 10) hx hb dX7_ringless_5 (by decide) (fun c3 => absurd c3 (by decide)) (fun _ => ?_)
  refine lv_iconst (v := (-1)) hx hb dX7_ringless_8 (by decide) ?_
  refine k_iret (u := []) hx hb hr hlk (k_sub hP [] rfl) (hD.sub [] (by decide) rfl) hS dX7_ringless_9 ?_
  exact ⟨rfl, rfl⟩
theorem dX7_fewest_0 : decode cX7_fewest 0 = .ok (.aload_n 0, 1) := by decide +kernel
theorem dX7_fewest_1 : decode cX7_fewest 1 = .ok (.iload_n 1, 1) := by decide +kernel
theorem dX7_fewest_2 : decode cX7_fewest 2 = .ok (.invokevirtual 137, 3) := by decide +kernel
theorem dX7_fewest_5 : decode cX7_fewest 5 = .ok (.ifCond .ne 5, 3) := by decide +kernel
theorem dX7_fewest_8 : decode cX7_fewest 8 = .ok (.iconst (-1), 1) := by decide +kernel
theorem dX7_fewest_9 : decode cX7_fewest 9 = .ok (.ireturn, 1) := by decide +kernel
set_option maxRecDepth 20000 in
theorem ggX7_fewest_X7_isLoss : GoodIn wsX7_fewest wsX7_isLoss := goodIn_r _ [6, 7, 8, 9, 10, 5, 11, 177, 178, 179, 180, 181, 182, 183, 184, 185, 186, 187, 188, 189, 190, 191, 192, 193, 194, 195, 196, 197] (by decide +kernel) (by decide +kernel)
set_option maxRecDepth 20000 in
theorem gX7_fewest_X7_isLoss : GoodIn wsX7_fewest (wsV RX7 137 RX7 yX7_isLoss wsX7_isLoss) := goodIn_app (goodIn_of _ (by decide +kernel)) ggX7_fewest_X7_isLoss
set_option maxHeartbeats 4000000 in
set_option maxRecDepth 100000 in
theorem f_X7_fewest (l : Launch) (D : va_G) (cI cJ : ClassId) (sz : Nat) (x x0 x1 x2 x3 x4 x5 b0 b1 b2 b3 b4 b5 b6 b7 b8 b9 b10 b11 : Nat) (p0 p1 : Int32) : Met l yX7_fewest wsX7_fewest { frames := 2, cells := 0, slots := 0, locals := 43 } (cPc D cI cJ [.ref x, .int p0, .int p1] sz [(x, .inr (7, [.ref x0, .ref x1, .ref x2, .ref x3, .ref x4, .ref x5])), (x0, .inr (0, [.ref b0, .ref b1, .ref b2, .ref b3, .ref b4, .ref b5, .ref b6, .ref b7, .ref b8, .ref b9, .ref b10, .ref b11, .int 0, .int 0, .int 0]))]) (cQi D (fun r u => r = -1 ∧ u = []) (va_A [(x, .inr (7, [.ref x0, .ref x1, .ref x2, .ref x3, .ref x4, .ref x5])), (x0, .inr (0, [.ref b0, .ref b1, .ref b2, .ref b3, .ref b4, .ref b5, .ref b6, .ref b7, .ref b8, .ref b9, .ref b10, .ref b11, .int 0, .int 0, .int 0]))] sz)) 0 0 (va_A [(x, .inr (7, [.ref x0, .ref x1, .ref x2, .ref x3, .ref x4, .ref x5])), (x0, .inr (0, [.ref b0, .ref b1, .ref b2, .ref b3, .ref b4, .ref b5, .ref b6, .ref b7, .ref b8, .ref b9, .ref b10, .ref b11, .int 0, .int 0, .int 0]))] sz) := by
  refine k_ofW (Qc := cQi D (fun r u => r = -1 ∧ u = [])) (by decide) rfl (Nat.le_of_ble_eq_true rfl) ?_
  intro p e s m below meth c A ls hx hb hr hml hts hown hlk hnm hsz hE hP hD hS hA hl
  have hown : s.vm.findClass RX7 = some m.cls := hown
  have hl : lv_has ls 4 [(0, .ref x), (1, .int p0), (2, .int p1)] := hl
  refine lv_aload_n hx hb dX7_fewest_0 rfl (lv_at hl 0 rfl) ?_
  refine lv_iload_n hx hb dX7_fewest_1 rfl (lv_at hl 1 rfl) ?_
  refine k_i (va_runV (As := [.int p0]) (rest := []) ⟨hx, hb, hml, hown, hts⟩ (m_X7_isLoss l D cI cJ (s.heap).size x x0 x1 x2 x3 x4 x5 b0 b1 b2 b3 b4 b5 b6 b7 b8 b9 b10 b11 0 0 0 p0) (cwV 1 hts gX7_fewest_X7_isLoss rfl rfl rfl (by decide +kernel) ⟨Nat.le_of_ble_eq_true rfl, Nat.le_of_ble_eq_true rfl⟩) (k_preV hE hP hD [0, 1] (by decide) rfl 0 rfl rfl) rfl rfl hl.1 rfl (lv_room (Nat.le_of_ble_eq_true rfl)) dX7_fewest_2 ⟨Nat.le_of_ble_eq_true rfl, Nat.le_of_ble_eq_true rfl⟩) hP hD hS hA [0, 1] [] rfl (wr := []) rfl (by decide) (by decide) (fun r1 u H locs hw2 hP hD hS => ?_)
  obtain ⟨hw2, rfl⟩ := hw2
  obtain rfl : r1 = 0 := by rw [hw2]; exact bz_z (nofit _)
  have hP : va_P D vwCl [(x, .inr (7, [.ref x0, .ref x1, .ref x2, .ref x3, .ref x4, .ref x5])), (x0, .inr (0, [.ref b0, .ref b1, .ref b2, .ref b3, .ref b4, .ref b5, .ref b6, .ref b7, .ref b8, .ref b9, .ref b10, .ref b11, .int 0, .int 0, .int 0]))] H := hP
  have hD : va_D A [(x, .inr (7, [.ref x0, .ref x1, .ref x2, .ref x3, .ref x4, .ref x5])), (x0, .inr (0, [.ref b0, .ref b1, .ref b2, .ref b3, .ref b4, .ref b5, .ref b6, .ref b7, .ref b8, .ref b9, .ref b10, .ref b11, .int 0, .int 0, .int 0]))] := hD
  refine lv_if_ne (tgt := 10) hx hb dX7_fewest_5 (by decide) (fun c3 => absurd c3 (by decide)) (fun _ => ?_)
  refine lv_iconst (v := (-1)) hx hb dX7_fewest_8 (by decide) ?_
  refine k_iret (u := []) hx hb hr hlk (k_sub hP [] rfl) (hD.sub [] (by decide) rfl) hS dX7_fewest_9 ?_
  exact ⟨rfl, rfl⟩
theorem dX7_moved_0 : decode cX7_moved 0 = .ok (.aload_n 0, 1) := by decide +kernel
theorem dX7_moved_1 : decode cX7_moved 1 = .ok (.iload_n 1, 1) := by decide +kernel
theorem dX7_moved_2 : decode cX7_moved 2 = .ok (.invokevirtual 137, 3) := by decide +kernel
theorem dX7_moved_5 : decode cX7_moved 5 = .ok (.ifCond .eq 18, 3) := by decide +kernel
theorem dX7_moved_23 : decode cX7_moved 23 = .ok (.iconst (-1), 1) := by decide +kernel
theorem dX7_moved_24 : decode cX7_moved 24 = .ok (.ireturn, 1) := by decide +kernel
set_option maxRecDepth 20000 in
theorem ggX7_moved_X7_isLoss : GoodIn wsX7_moved wsX7_isLoss := goodIn_r _ [14, 15, 16, 17, 18, 13, 19, 170, 171, 172, 173, 174, 175, 199, 200, 201, 202, 203, 204, 205, 206, 207, 208, 209, 210, 211, 212, 213] (by decide +kernel) (by decide +kernel)
set_option maxRecDepth 20000 in
theorem gX7_moved_X7_isLoss : GoodIn wsX7_moved (wsV RX7 137 RX7 yX7_isLoss wsX7_isLoss) := goodIn_app (goodIn_of _ (by decide +kernel)) ggX7_moved_X7_isLoss
set_option maxHeartbeats 4000000 in
set_option maxRecDepth 100000 in
theorem f_X7_moved (l : Launch) (D : va_G) (cI cJ : ClassId) (sz : Nat) (x x0 x1 x2 x3 x4 x5 b0 b1 b2 b3 b4 b5 b6 b7 b8 b9 b10 b11 : Nat) (p0 p1 p2 : Int32) : Met l yX7_moved wsX7_moved { frames := 2, cells := 0, slots := 0, locals := 43 } (cPc D cI cJ [.ref x, .int p0, .int p1, .int p2] sz [(x, .inr (7, [.ref x0, .ref x1, .ref x2, .ref x3, .ref x4, .ref x5])), (x0, .inr (0, [.ref b0, .ref b1, .ref b2, .ref b3, .ref b4, .ref b5, .ref b6, .ref b7, .ref b8, .ref b9, .ref b10, .ref b11, .int 0, .int 0, .int 0]))]) (cQi D (fun r u => r = -1 ∧ u = []) (va_A [(x, .inr (7, [.ref x0, .ref x1, .ref x2, .ref x3, .ref x4, .ref x5])), (x0, .inr (0, [.ref b0, .ref b1, .ref b2, .ref b3, .ref b4, .ref b5, .ref b6, .ref b7, .ref b8, .ref b9, .ref b10, .ref b11, .int 0, .int 0, .int 0]))] sz)) 0 0 (va_A [(x, .inr (7, [.ref x0, .ref x1, .ref x2, .ref x3, .ref x4, .ref x5])), (x0, .inr (0, [.ref b0, .ref b1, .ref b2, .ref b3, .ref b4, .ref b5, .ref b6, .ref b7, .ref b8, .ref b9, .ref b10, .ref b11, .int 0, .int 0, .int 0]))] sz) := by
  refine k_ofW (Qc := cQi D (fun r u => r = -1 ∧ u = [])) (by decide) rfl (Nat.le_of_ble_eq_true rfl) ?_
  intro p e s m below meth c A ls hx hb hr hml hts hown hlk hnm hsz hE hP hD hS hA hl
  have hown : s.vm.findClass RX7 = some m.cls := hown
  have hl : lv_has ls 6 [(0, .ref x), (1, .int p0), (2, .int p1), (3, .int p2)] := hl
  refine lv_aload_n hx hb dX7_moved_0 rfl (lv_at hl 0 rfl) ?_
  refine lv_iload_n hx hb dX7_moved_1 rfl (lv_at hl 1 rfl) ?_
  refine k_i (va_runV (As := [.int p0]) (rest := []) ⟨hx, hb, hml, hown, hts⟩ (m_X7_isLoss l D cI cJ (s.heap).size x x0 x1 x2 x3 x4 x5 b0 b1 b2 b3 b4 b5 b6 b7 b8 b9 b10 b11 0 0 0 p0) (cwV 1 hts gX7_moved_X7_isLoss rfl rfl rfl (by decide +kernel) ⟨Nat.le_of_ble_eq_true rfl, Nat.le_of_ble_eq_true rfl⟩) (k_preV hE hP hD [0, 1] (by decide) rfl 0 rfl rfl) rfl rfl hl.1 rfl (lv_room (Nat.le_of_ble_eq_true rfl)) dX7_moved_2 ⟨Nat.le_of_ble_eq_true rfl, Nat.le_of_ble_eq_true rfl⟩) hP hD hS hA [0, 1] [] rfl (wr := []) rfl (by decide) (by decide) (fun r1 u H locs hw2 hP hD hS => ?_)
  obtain ⟨hw2, rfl⟩ := hw2
  obtain rfl : r1 = 0 := by rw [hw2]; exact bz_z (nofit _)
  have hP : va_P D vwCl [(x, .inr (7, [.ref x0, .ref x1, .ref x2, .ref x3, .ref x4, .ref x5])), (x0, .inr (0, [.ref b0, .ref b1, .ref b2, .ref b3, .ref b4, .ref b5, .ref b6, .ref b7, .ref b8, .ref b9, .ref b10, .ref b11, .int 0, .int 0, .int 0]))] H := hP
  have hD : va_D A [(x, .inr (7, [.ref x0, .ref x1, .ref x2, .ref x3, .ref x4, .ref x5])), (x0, .inr (0, [.ref b0, .ref b1, .ref b2, .ref b3, .ref b4, .ref b5, .ref b6, .ref b7, .ref b8, .ref b9, .ref b10, .ref b11, .int 0, .int 0, .int 0]))] := hD
  refine lv_if_eq (tgt := 23) hx hb dX7_moved_5 (by decide) (fun _ => ?_) (fun c3 => absurd (by decide) c3)
  refine lv_iconst (v := (-1)) hx hb dX7_moved_23 (by decide) ?_
  refine k_iret (u := []) hx hb hr hlk (k_sub hP [] rfl) (hD.sub [] (by decide) rfl) hS dX7_moved_24 ?_
  exact ⟨rfl, rfl⟩
theorem dX7_clause_0 : decode cX7_clause 0 = .ok (.aload_n 0, 1) := by decide +kernel
theorem dX7_clause_1 : decode cX7_clause 1 = .ok (.iload_n 1, 1) := by decide +kernel
theorem dX7_clause_2 : decode cX7_clause 2 = .ok (.invokevirtual 74, 3) := by decide +kernel
theorem dX7_clause_5 : decode cX7_clause 5 = .ok (.ifCond .eq 21, 3) := by decide +kernel
theorem dX7_clause_26 : decode cX7_clause 26 = .ok (.iconst 0, 1) := by decide +kernel
theorem dX7_clause_27 : decode cX7_clause 27 = .ok (.ireturn, 1) := by decide +kernel
set_option maxRecDepth 20000 in
theorem ggX7_clause_X7_isPolicy : GoodIn wsX7_clause wsX7_isPolicy := goodIn_r _ [8, 1, 9, 10, 11, 7, 12, 16, 17, 18, 19, 20, 21, 22, 23, 24, 25, 26, 27, 28, 29, 30, 31, 32, 33, 34, 35, 36] (by decide +kernel) (by decide +kernel)
set_option maxRecDepth 20000 in
theorem gX7_clause_X7_isPolicy : GoodIn wsX7_clause (wsV RX7 74 RX7 yX7_isPolicy wsX7_isPolicy) := goodIn_app (goodIn_of _ (by decide +kernel)) ggX7_clause_X7_isPolicy
set_option maxHeartbeats 4000000 in
set_option maxRecDepth 100000 in
theorem f_X7_clause (l : Launch) (D : va_G) (cI cJ : ClassId) (sz : Nat) (x x0 x1 x2 x3 x4 x5 b0 b1 b2 b3 b4 b5 b6 b7 b8 b9 b10 b11 : Nat) (p0 p1 p2 : Int32) : Met l yX7_clause wsX7_clause { frames := 2, cells := 0, slots := 0, locals := 43 } (cPc D cI cJ [.ref x, .int p0, .int p1, .int p2] sz [(x, .inr (7, [.ref x0, .ref x1, .ref x2, .ref x3, .ref x4, .ref x5])), (x0, .inr (0, [.ref b0, .ref b1, .ref b2, .ref b3, .ref b4, .ref b5, .ref b6, .ref b7, .ref b8, .ref b9, .ref b10, .ref b11, .int 0, .int 0, .int 0]))]) (cQi D (fun r u => r = 0 ∧ u = []) (va_A [(x, .inr (7, [.ref x0, .ref x1, .ref x2, .ref x3, .ref x4, .ref x5])), (x0, .inr (0, [.ref b0, .ref b1, .ref b2, .ref b3, .ref b4, .ref b5, .ref b6, .ref b7, .ref b8, .ref b9, .ref b10, .ref b11, .int 0, .int 0, .int 0]))] sz)) 0 0 (va_A [(x, .inr (7, [.ref x0, .ref x1, .ref x2, .ref x3, .ref x4, .ref x5])), (x0, .inr (0, [.ref b0, .ref b1, .ref b2, .ref b3, .ref b4, .ref b5, .ref b6, .ref b7, .ref b8, .ref b9, .ref b10, .ref b11, .int 0, .int 0, .int 0]))] sz) := by
  refine k_ofW (Qc := cQi D (fun r u => r = 0 ∧ u = [])) (by decide) rfl (Nat.le_of_ble_eq_true rfl) ?_
  intro p e s m below meth c A ls hx hb hr hml hts hown hlk hnm hsz hE hP hD hS hA hl
  have hown : s.vm.findClass RX7 = some m.cls := hown
  have hl : lv_has ls 4 [(0, .ref x), (1, .int p0), (2, .int p1), (3, .int p2)] := hl
  refine lv_aload_n hx hb dX7_clause_0 rfl (lv_at hl 0 rfl) ?_
  refine lv_iload_n hx hb dX7_clause_1 rfl (lv_at hl 1 rfl) ?_
  refine k_i (va_runV (As := [.int p0]) (rest := []) ⟨hx, hb, hml, hown, hts⟩ (m_X7_isPolicy l D cI cJ (s.heap).size x x0 x1 x2 x3 x4 x5 b0 b1 b2 b3 b4 b5 b6 b7 b8 b9 b10 b11 0 0 0 p0) (cwV 1 hts gX7_clause_X7_isPolicy rfl rfl rfl (by decide +kernel) ⟨Nat.le_of_ble_eq_true rfl, Nat.le_of_ble_eq_true rfl⟩) (k_preV hE hP hD [0, 1] (by decide) rfl 0 rfl rfl) rfl rfl hl.1 rfl (lv_room (Nat.le_of_ble_eq_true rfl)) dX7_clause_2 ⟨Nat.le_of_ble_eq_true rfl, Nat.le_of_ble_eq_true rfl⟩) hP hD hS hA [0, 1] [] rfl (wr := []) rfl (by decide) (by decide) (fun r1 u H locs hw2 hP hD hS => ?_)
  obtain ⟨hw2, rfl⟩ := hw2
  obtain rfl : r1 = 0 := by rw [hw2]; exact bz_z (nofit _)
  have hP : va_P D vwCl [(x, .inr (7, [.ref x0, .ref x1, .ref x2, .ref x3, .ref x4, .ref x5])), (x0, .inr (0, [.ref b0, .ref b1, .ref b2, .ref b3, .ref b4, .ref b5, .ref b6, .ref b7, .ref b8, .ref b9, .ref b10, .ref b11, .int 0, .int 0, .int 0]))] H := hP
  have hD : va_D A [(x, .inr (7, [.ref x0, .ref x1, .ref x2, .ref x3, .ref x4, .ref x5])), (x0, .inr (0, [.ref b0, .ref b1, .ref b2, .ref b3, .ref b4, .ref b5, .ref b6, .ref b7, .ref b8, .ref b9, .ref b10, .ref b11, .int 0, .int 0, .int 0]))] := hD
  refine lv_if_eq (tgt := 26) hx hb dX7_clause_5 (by decide) (fun _ => ?_) (fun c3 => absurd (by decide) c3)
  refine lv_iconst (v := 0) hx hb dX7_clause_26 (by decide) ?_
  refine k_zret (u := []) hx hb hr (by decide) hlk (k_sub hP [] rfl) (hD.sub [] (by decide) rfl) hS dX7_clause_27 ?_
  exact ⟨rfl, rfl⟩
theorem dX7_limit_0 : decode cX7_limit 0 = .ok (.aload_n 0, 1) := by decide +kernel
theorem dX7_limit_1 : decode cX7_limit 1 = .ok (.iload_n 1, 1) := by decide +kernel
theorem dX7_limit_2 : decode cX7_limit 2 = .ok (.invokevirtual 74, 3) := by decide +kernel
theorem dX7_limit_5 : decode cX7_limit 5 = .ok (.ifCond .eq 32, 3) := by decide +kernel
theorem dX7_limit_37 : decode cX7_limit 37 = .ok (.iconst 0, 1) := by decide +kernel
theorem dX7_limit_38 : decode cX7_limit 38 = .ok (.ireturn, 1) := by decide +kernel
set_option maxRecDepth 20000 in
theorem ggX7_limit_X7_isPolicy : GoodIn wsX7_limit wsX7_isPolicy := goodIn_r _ [8, 2, 9, 10, 11, 7, 12, 16, 17, 18, 19, 20, 21, 22, 23, 24, 25, 26, 27, 28, 29, 30, 31, 32, 33, 34, 35, 36] (by decide +kernel) (by decide +kernel)
set_option maxRecDepth 20000 in
theorem gX7_limit_X7_isPolicy : GoodIn wsX7_limit (wsV RX7 74 RX7 yX7_isPolicy wsX7_isPolicy) := goodIn_app (goodIn_of _ (by decide +kernel)) ggX7_limit_X7_isPolicy
set_option maxHeartbeats 4000000 in
set_option maxRecDepth 100000 in
theorem f_X7_limit (l : Launch) (D : va_G) (cI cJ : ClassId) (sz : Nat) (x x0 x1 x2 x3 x4 x5 b0 b1 b2 b3 b4 b5 b6 b7 b8 b9 b10 b11 : Nat) (p0 p1 : Int32) : Met l yX7_limit wsX7_limit { frames := 2, cells := 0, slots := 0, locals := 43 } (cPc D cI cJ [.ref x, .int p0, .int p1] sz [(x, .inr (7, [.ref x0, .ref x1, .ref x2, .ref x3, .ref x4, .ref x5])), (x0, .inr (0, [.ref b0, .ref b1, .ref b2, .ref b3, .ref b4, .ref b5, .ref b6, .ref b7, .ref b8, .ref b9, .ref b10, .ref b11, .int 0, .int 0, .int 0]))]) (cQi D (fun r u => r = 0 ∧ u = []) (va_A [(x, .inr (7, [.ref x0, .ref x1, .ref x2, .ref x3, .ref x4, .ref x5])), (x0, .inr (0, [.ref b0, .ref b1, .ref b2, .ref b3, .ref b4, .ref b5, .ref b6, .ref b7, .ref b8, .ref b9, .ref b10, .ref b11, .int 0, .int 0, .int 0]))] sz)) 0 0 (va_A [(x, .inr (7, [.ref x0, .ref x1, .ref x2, .ref x3, .ref x4, .ref x5])), (x0, .inr (0, [.ref b0, .ref b1, .ref b2, .ref b3, .ref b4, .ref b5, .ref b6, .ref b7, .ref b8, .ref b9, .ref b10, .ref b11, .int 0, .int 0, .int 0]))] sz) := by
  refine k_ofW (Qc := cQi D (fun r u => r = 0 ∧ u = [])) (by decide) rfl (Nat.le_of_ble_eq_true rfl) ?_
  intro p e s m below meth c A ls hx hb hr hml hts hown hlk hnm hsz hE hP hD hS hA hl
  have hown : s.vm.findClass RX7 = some m.cls := hown
  have hl : lv_has ls 3 [(0, .ref x), (1, .int p0), (2, .int p1)] := hl
  refine lv_aload_n hx hb dX7_limit_0 rfl (lv_at hl 0 rfl) ?_
  refine lv_iload_n hx hb dX7_limit_1 rfl (lv_at hl 1 rfl) ?_
  refine k_i (va_runV (As := [.int p0]) (rest := []) ⟨hx, hb, hml, hown, hts⟩ (m_X7_isPolicy l D cI cJ (s.heap).size x x0 x1 x2 x3 x4 x5 b0 b1 b2 b3 b4 b5 b6 b7 b8 b9 b10 b11 0 0 0 p0) (cwV 1 hts gX7_limit_X7_isPolicy rfl rfl rfl (by decide +kernel) ⟨Nat.le_of_ble_eq_true rfl, Nat.le_of_ble_eq_true rfl⟩) (k_preV hE hP hD [0, 1] (by decide) rfl 0 rfl rfl) rfl rfl hl.1 rfl (lv_room (Nat.le_of_ble_eq_true rfl)) dX7_limit_2 ⟨Nat.le_of_ble_eq_true rfl, Nat.le_of_ble_eq_true rfl⟩) hP hD hS hA [0, 1] [] rfl (wr := []) rfl (by decide) (by decide) (fun r1 u H locs hw2 hP hD hS => ?_)
  obtain ⟨hw2, rfl⟩ := hw2
  obtain rfl : r1 = 0 := by rw [hw2]; exact bz_z (nofit _)
  have hP : va_P D vwCl [(x, .inr (7, [.ref x0, .ref x1, .ref x2, .ref x3, .ref x4, .ref x5])), (x0, .inr (0, [.ref b0, .ref b1, .ref b2, .ref b3, .ref b4, .ref b5, .ref b6, .ref b7, .ref b8, .ref b9, .ref b10, .ref b11, .int 0, .int 0, .int 0]))] H := hP
  have hD : va_D A [(x, .inr (7, [.ref x0, .ref x1, .ref x2, .ref x3, .ref x4, .ref x5])), (x0, .inr (0, [.ref b0, .ref b1, .ref b2, .ref b3, .ref b4, .ref b5, .ref b6, .ref b7, .ref b8, .ref b9, .ref b10, .ref b11, .int 0, .int 0, .int 0]))] := hD
  refine lv_if_eq (tgt := 37) hx hb dX7_limit_5 (by decide) (fun _ => ?_) (fun c3 => absurd (by decide) c3)
  refine lv_iconst (v := 0) hx hb dX7_limit_37 (by decide) ?_
  refine k_zret (u := []) hx hb hr (by decide) hlk (k_sub hP [] rfl) (hD.sub [] (by decide) rfl) hS dX7_limit_38 ?_
  exact ⟨rfl, rfl⟩
theorem dX7_sub_0 : decode cX7_sub 0 = .ok (.aload_n 0, 1) := by decide +kernel
theorem dX7_sub_1 : decode cX7_sub 1 = .ok (.iload_n 1, 1) := by decide +kernel
theorem dX7_sub_2 : decode cX7_sub 2 = .ok (.invokevirtual 74, 3) := by decide +kernel
theorem dX7_sub_5 : decode cX7_sub 5 = .ok (.ifCond .eq 44, 3) := by decide +kernel
theorem dX7_sub_49 : decode cX7_sub 49 = .ok (.iconst 0, 1) := by decide +kernel
theorem dX7_sub_50 : decode cX7_sub 50 = .ok (.ireturn, 1) := by decide +kernel
set_option maxRecDepth 20000 in
theorem ggX7_sub_X7_isPolicy : GoodIn wsX7_sub wsX7_isPolicy := goodIn_r _ [8, 2, 9, 10, 11, 7, 12, 19, 20, 21, 22, 23, 24, 25, 26, 27, 28, 29, 30, 31, 32, 33, 34, 35, 36, 37, 38, 39] (by decide +kernel) (by decide +kernel)
set_option maxRecDepth 20000 in
theorem gX7_sub_X7_isPolicy : GoodIn wsX7_sub (wsV RX7 74 RX7 yX7_isPolicy wsX7_isPolicy) := goodIn_app (goodIn_of _ (by decide +kernel)) ggX7_sub_X7_isPolicy
set_option maxHeartbeats 4000000 in
set_option maxRecDepth 100000 in
theorem f_X7_sub (l : Launch) (D : va_G) (cI cJ : ClassId) (sz : Nat) (x x0 x1 x2 x3 x4 x5 b0 b1 b2 b3 b4 b5 b6 b7 b8 b9 b10 b11 : Nat) (p0 p1 p2 : Int32) : Met l yX7_sub wsX7_sub { frames := 2, cells := 0, slots := 0, locals := 43 } (cPc D cI cJ [.ref x, .int p0, .int p1, .int p2] sz [(x, .inr (7, [.ref x0, .ref x1, .ref x2, .ref x3, .ref x4, .ref x5])), (x0, .inr (0, [.ref b0, .ref b1, .ref b2, .ref b3, .ref b4, .ref b5, .ref b6, .ref b7, .ref b8, .ref b9, .ref b10, .ref b11, .int 0, .int 0, .int 0]))]) (cQi D (fun r u => r = 0 ∧ u = []) (va_A [(x, .inr (7, [.ref x0, .ref x1, .ref x2, .ref x3, .ref x4, .ref x5])), (x0, .inr (0, [.ref b0, .ref b1, .ref b2, .ref b3, .ref b4, .ref b5, .ref b6, .ref b7, .ref b8, .ref b9, .ref b10, .ref b11, .int 0, .int 0, .int 0]))] sz)) 0 0 (va_A [(x, .inr (7, [.ref x0, .ref x1, .ref x2, .ref x3, .ref x4, .ref x5])), (x0, .inr (0, [.ref b0, .ref b1, .ref b2, .ref b3, .ref b4, .ref b5, .ref b6, .ref b7, .ref b8, .ref b9, .ref b10, .ref b11, .int 0, .int 0, .int 0]))] sz) := by
  refine k_ofW (Qc := cQi D (fun r u => r = 0 ∧ u = [])) (by decide) rfl (Nat.le_of_ble_eq_true rfl) ?_
  intro p e s m below meth c A ls hx hb hr hml hts hown hlk hnm hsz hE hP hD hS hA hl
  have hown : s.vm.findClass RX7 = some m.cls := hown
  have hl : lv_has ls 4 [(0, .ref x), (1, .int p0), (2, .int p1), (3, .int p2)] := hl
  refine lv_aload_n hx hb dX7_sub_0 rfl (lv_at hl 0 rfl) ?_
  refine lv_iload_n hx hb dX7_sub_1 rfl (lv_at hl 1 rfl) ?_
  refine k_i (va_runV (As := [.int p0]) (rest := []) ⟨hx, hb, hml, hown, hts⟩ (m_X7_isPolicy l D cI cJ (s.heap).size x x0 x1 x2 x3 x4 x5 b0 b1 b2 b3 b4 b5 b6 b7 b8 b9 b10 b11 0 0 0 p0) (cwV 1 hts gX7_sub_X7_isPolicy rfl rfl rfl (by decide +kernel) ⟨Nat.le_of_ble_eq_true rfl, Nat.le_of_ble_eq_true rfl⟩) (k_preV hE hP hD [0, 1] (by decide) rfl 0 rfl rfl) rfl rfl hl.1 rfl (lv_room (Nat.le_of_ble_eq_true rfl)) dX7_sub_2 ⟨Nat.le_of_ble_eq_true rfl, Nat.le_of_ble_eq_true rfl⟩) hP hD hS hA [0, 1] [] rfl (wr := []) rfl (by decide) (by decide) (fun r1 u H locs hw2 hP hD hS => ?_)
  obtain ⟨hw2, rfl⟩ := hw2
  obtain rfl : r1 = 0 := by rw [hw2]; exact bz_z (nofit _)
  have hP : va_P D vwCl [(x, .inr (7, [.ref x0, .ref x1, .ref x2, .ref x3, .ref x4, .ref x5])), (x0, .inr (0, [.ref b0, .ref b1, .ref b2, .ref b3, .ref b4, .ref b5, .ref b6, .ref b7, .ref b8, .ref b9, .ref b10, .ref b11, .int 0, .int 0, .int 0]))] H := hP
  have hD : va_D A [(x, .inr (7, [.ref x0, .ref x1, .ref x2, .ref x3, .ref x4, .ref x5])), (x0, .inr (0, [.ref b0, .ref b1, .ref b2, .ref b3, .ref b4, .ref b5, .ref b6, .ref b7, .ref b8, .ref b9, .ref b10, .ref b11, .int 0, .int 0, .int 0]))] := hD
  refine lv_if_eq (tgt := 49) hx hb dX7_sub_5 (by decide) (fun _ => ?_) (fun c3 => absurd (by decide) c3)
  refine lv_iconst (v := 0) hx hb dX7_sub_49 (by decide) ?_
  refine k_zret (u := []) hx hb hr (by decide) hlk (k_sub hP [] rfl) (hD.sub [] (by decide) rfl) hS dX7_sub_50 ?_
  exact ⟨rfl, rfl⟩
theorem dX7_revoke_0 : decode cX7_revoke 0 = .ok (.aload_n 0, 1) := by decide +kernel
theorem dX7_revoke_1 : decode cX7_revoke 1 = .ok (.getfield 20, 3) := by decide +kernel
theorem dX7_revoke_4 : decode cX7_revoke 4 = .ok (.getfield 103, 3) := by decide +kernel
theorem dX7_revoke_7 : decode cX7_revoke 7 = .ok (.ifCond .ne 5, 3) := by decide +kernel
theorem dX7_revoke_10 : decode cX7_revoke 10 = .ok (.iconst (-1), 1) := by decide +kernel
theorem dX7_revoke_11 : decode cX7_revoke 11 = .ok (.ireturn, 1) := by decide +kernel
set_option maxHeartbeats 4000000 in
set_option maxRecDepth 100000 in
theorem f_X7_revoke (l : Launch) (D : va_G) (cI cJ : ClassId) (sz : Nat) (x x0 x1 x2 x3 x4 x5 b0 b1 b2 b3 b4 b5 b6 b7 b8 b9 b10 b11 : Nat) : Met l yX7_revoke wsX7_revoke { frames := 0, cells := 0, slots := 0, locals := 0 } (cPc D cI cJ [.ref x] sz [(x, .inr (7, [.ref x0, .ref x1, .ref x2, .ref x3, .ref x4, .ref x5])), (x0, .inr (0, [.ref b0, .ref b1, .ref b2, .ref b3, .ref b4, .ref b5, .ref b6, .ref b7, .ref b8, .ref b9, .ref b10, .ref b11, .int 0, .int 0, .int 0]))]) (cQi D (fun r u => r = -1 ∧ u = []) (va_A [(x, .inr (7, [.ref x0, .ref x1, .ref x2, .ref x3, .ref x4, .ref x5])), (x0, .inr (0, [.ref b0, .ref b1, .ref b2, .ref b3, .ref b4, .ref b5, .ref b6, .ref b7, .ref b8, .ref b9, .ref b10, .ref b11, .int 0, .int 0, .int 0]))] sz)) 0 0 (va_A [(x, .inr (7, [.ref x0, .ref x1, .ref x2, .ref x3, .ref x4, .ref x5])), (x0, .inr (0, [.ref b0, .ref b1, .ref b2, .ref b3, .ref b4, .ref b5, .ref b6, .ref b7, .ref b8, .ref b9, .ref b10, .ref b11, .int 0, .int 0, .int 0]))] sz) := by
  refine k_ofW (Qc := cQi D (fun r u => r = -1 ∧ u = [])) (by decide) rfl (Nat.le_of_ble_eq_true rfl) ?_
  intro p e s m below meth c A ls hx hb hr hml hts hown hlk hnm hsz hE hP hD hS hA hl
  have hown : s.vm.findClass RX7 = some m.cls := hown
  have hiX7 : ∀ w ∈ u_ws RX7 TX7 6, w ∈ wsX7_revoke := fun w h => List.mem_cons_of_mem _ (List.mem_append_left _ (List.mem_append_right _ h))
  have hiX0 : ∀ w ∈ u_ws RX0 TX0 15, w ∈ wsX7_revoke := fun w h => List.mem_cons_of_mem _ (List.mem_append_right _ h)
  have hl : lv_has ls 1 [(0, .ref x)] := hl
  refine lv_aload_n hx hb dX7_revoke_0 rfl (lv_at hl 0 rfl) ?_
  refine va_get (D := D) (ci := 7) (v := .ref x0) (C := RX7) (T := TX7) (N := 6) hx hb hts hiX7 hown hE.1 hP 0 rfl rfl 0 (by decide) (hts _ (List.mem_of_getElem? (i := 1) rfl)) (fun _ h9 => h9) rfl dX7_revoke_1 ?_
  refine va_get (D := D) (ci := 0) (v := .int 0) (C := RX0) (T := TX0) (N := 15) hx hb hts hiX0 hown hE.1 hP 1 rfl rfl 13 (by decide) (hts _ (List.mem_of_getElem? (i := 2) rfl)) (fun _ h9 => h9) rfl dX7_revoke_4 ?_
  refine lv_if_ne (tgt := 12) hx hb dX7_revoke_7 (by decide) (fun c1 => absurd c1 (by decide)) (fun _ => ?_)
  refine lv_iconst (v := (-1)) hx hb dX7_revoke_10 (by decide) ?_
  refine k_iret (u := []) hx hb hr hlk (k_sub hP [] rfl) (hD.sub [] (by decide) rfl) hS dX7_revoke_11 ?_
  exact ⟨rfl, rfl⟩
theorem dX7_rule_0 : decode cX7_rule 0 = .ok (.aload_n 0, 1) := by decide +kernel
theorem dX7_rule_1 : decode cX7_rule 1 = .ok (.getfield 20, 3) := by decide +kernel
theorem dX7_rule_4 : decode cX7_rule 4 = .ok (.iconst 1, 1) := by decide +kernel
theorem dX7_rule_5 : decode cX7_rule 5 = .ok (.aload_n 0, 1) := by decide +kernel
theorem dX7_rule_6 : decode cX7_rule 6 = .ok (.getfield 20, 3) := by decide +kernel
theorem dX7_rule_9 : decode cX7_rule 9 = .ok (.getfield 112, 3) := by decide +kernel
theorem dX7_rule_12 : decode cX7_rule 12 = .ok (.isub, 1) := by decide +kernel
theorem dX7_rule_13 : decode cX7_rule 13 = .ok (.putfield 112, 3) := by decide +kernel
theorem dX7_rule_16 : decode cX7_rule 16 = .ok (.aload_n 0, 1) := by decide +kernel
theorem dX7_rule_17 : decode cX7_rule 17 = .ok (.getfield 20, 3) := by decide +kernel
theorem dX7_rule_20 : decode cX7_rule 20 = .ok (.getfield 112, 3) := by decide +kernel
theorem dX7_rule_23 : decode cX7_rule 23 = .ok (.ireturn, 1) := by decide +kernel
set_option maxHeartbeats 4000000 in
set_option maxRecDepth 100000 in
theorem f_X7_rule (l : Launch) (D : va_G) (cI cJ : ClassId) (sz : Nat) (x x0 x1 x2 x3 x4 x5 b0 b1 b2 b3 b4 b5 b6 b7 b8 b9 b10 b11 : Nat) : Met l yX7_rule wsX7_rule { frames := 0, cells := 0, slots := 0, locals := 0 } (cPc D cI cJ [.ref x] sz [(x, .inr (7, [.ref x0, .ref x1, .ref x2, .ref x3, .ref x4, .ref x5])), (x0, .inr (0, [.ref b0, .ref b1, .ref b2, .ref b3, .ref b4, .ref b5, .ref b6, .ref b7, .ref b8, .ref b9, .ref b10, .ref b11, .int 0, .int 0, .int 0]))]) (cQi D (fun r u => r = 1 ∧ u = []) (va_A [(x, .inr (7, [.ref x0, .ref x1, .ref x2, .ref x3, .ref x4, .ref x5])), (x0, .inr (0, [.ref b0, .ref b1, .ref b2, .ref b3, .ref b4, .ref b5, .ref b6, .ref b7, .ref b8, .ref b9, .ref b10, .ref b11, .int 0, .int 0, .int 0]))] sz)) 0 0 (va_A [(x, .inr (7, [.ref x0, .ref x1, .ref x2, .ref x3, .ref x4, .ref x5])), (x0, .inr (0, [.ref b0, .ref b1, .ref b2, .ref b3, .ref b4, .ref b5, .ref b6, .ref b7, .ref b8, .ref b9, .ref b10, .ref b11, .int 0, .int 0, .int 0]))] sz) := by
  refine k_ofW (Qc := cQi D (fun r u => r = 1 ∧ u = [])) (by decide) rfl (Nat.le_of_ble_eq_true rfl) ?_
  intro p e s m below meth c A ls hx hb hr hml hts hown hlk hnm hsz hE hP hD hS hA hl
  have hown : s.vm.findClass RX7 = some m.cls := hown
  have hiX7 : ∀ w ∈ u_ws RX7 TX7 6, w ∈ wsX7_rule := fun w h => List.mem_cons_of_mem _ (List.mem_append_left _ (List.mem_append_right _ h))
  have hiX0 : ∀ w ∈ u_ws RX0 TX0 15, w ∈ wsX7_rule := fun w h => List.mem_cons_of_mem _ (List.mem_append_right _ h)
  have hl : lv_has ls 1 [(0, .ref x)] := hl
  refine lv_aload_n hx hb dX7_rule_0 rfl (lv_at hl 0 rfl) ?_
  refine va_get (D := D) (ci := 7) (v := .ref x0) (C := RX7) (T := TX7) (N := 6) hx hb hts hiX7 hown hE.1 hP 0 rfl rfl 0 (by decide) (hts _ (List.mem_of_getElem? (i := 1) rfl)) (fun _ h9 => h9) rfl dX7_rule_1 ?_
  refine lv_iconst (v := 1) hx hb dX7_rule_4 (by decide) ?_
  refine lv_aload_n hx hb dX7_rule_5 rfl (lv_at hl 0 rfl) ?_
  refine va_get (D := D) (ci := 7) (v := .ref x0) (C := RX7) (T := TX7) (N := 6) hx hb hts hiX7 hown hE.1 hP 0 rfl rfl 0 (by decide) (hts _ (List.mem_of_getElem? (i := 1) rfl)) (fun _ h9 => h9) rfl dX7_rule_6 ?_
  refine va_get (D := D) (ci := 0) (v := .int 0) (C := RX0) (T := TX0) (N := 15) hx hb hts hiX0 hown hE.1 hP 1 rfl rfl 14 (by decide) (hts _ (List.mem_of_getElem? (i := 2) rfl)) (fun _ h9 => h9) rfl dX7_rule_9 ?_
  refine lv_isub hx hb dX7_rule_12 ?_
  refine lv_topi (fun v1 ev1 => ?_)
  obtain rfl : v1 = 1 := by rw [ev1]; decide
  refine va_put (D := D) (ci := 0) (v := .int 1) (ty := .int) (C := RX0) (T := TX0) (N := 15) hx hb hts hiX0 tyX0 tyX0_ok nmX0 hown hE.1 hP hD hS 1 rfl rfl 14 (by decide) (hts _ (List.mem_of_getElem? (i := 2) rfl)) (fun _ h9 => h9) rfl (by decide +kernel) rfl rfl (Nat.le_of_ble_eq_true rfl) dX7_rule_13 (fun H locs hP hD hS => ?_)
  have hP : va_P D vwCl [(x, .inr (7, [.ref x0, .ref x1, .ref x2, .ref x3, .ref x4, .ref x5])), (x0, .inr (0, [.ref b0, .ref b1, .ref b2, .ref b3, .ref b4, .ref b5, .ref b6, .ref b7, .ref b8, .ref b9, .ref b10, .ref b11, .int 0, .int 0, .int 1]))] H := hP
  have hD : va_D A [(x, .inr (7, [.ref x0, .ref x1, .ref x2, .ref x3, .ref x4, .ref x5])), (x0, .inr (0, [.ref b0, .ref b1, .ref b2, .ref b3, .ref b4, .ref b5, .ref b6, .ref b7, .ref b8, .ref b9, .ref b10, .ref b11, .int 0, .int 0, .int 1]))] := hD
  refine lv_aload_n hx hb dX7_rule_16 rfl (lv_at hl 0 rfl) ?_
  refine va_get (D := D) (ci := 7) (v := .ref x0) (C := RX7) (T := TX7) (N := 6) hx hb hts hiX7 hown hE.1 hP 0 rfl rfl 0 (by decide) (hts _ (List.mem_of_getElem? (i := 1) rfl)) (fun _ h9 => h9) rfl dX7_rule_17 ?_
  refine va_get (D := D) (ci := 0) (v := .int 1) (C := RX0) (T := TX0) (N := 15) hx hb hts hiX0 hown hE.1 hP 1 rfl rfl 14 (by decide) (hts _ (List.mem_of_getElem? (i := 2) rfl)) (fun _ h9 => h9) rfl dX7_rule_20 ?_
  refine k_iret (u := []) hx hb hr hlk (k_sub hP [] rfl) (hD.sub [] (by decide) rfl) hS dX7_rule_23 ?_
  exact ⟨rfl, rfl⟩
theorem dX7_policy_0 : decode cX7_policy 0 = .ok (.iload_n 1, 1) := by decide +kernel
theorem dX7_policy_1 : decode cX7_policy 1 = .ok (.iconst 1, 1) := by decide +kernel
theorem dX7_policy_2 : decode cX7_policy 2 = .ok (.ldc 46, 2) := by decide +kernel
theorem dX7_policy_4 : decode cX7_policy 4 = .ok (.invokestatic 47, 3) := by decide +kernel
theorem dX7_policy_7 : decode cX7_policy 7 = .ok (.ifCond .eq 58, 3) := by decide +kernel
theorem dX7_policy_10 : decode cX7_policy 10 = .ok (.iload_n 2, 1) := by decide +kernel
theorem dX7_policy_11 : decode cX7_policy 11 = .ok (.iconst 1, 1) := by decide +kernel
theorem dX7_policy_12 : decode cX7_policy 12 = .ok (.ldc 51, 2) := by decide +kernel
theorem dX7_policy_14 : decode cX7_policy 14 = .ok (.invokestatic 47, 3) := by decide +kernel
theorem dX7_policy_17 : decode cX7_policy 17 = .ok (.ifCond .eq 48, 3) := by decide +kernel
theorem dX7_policy_20 : decode cX7_policy 20 = .ok (.iload_n 3, 1) := by decide +kernel
theorem dX7_policy_21 : decode cX7_policy 21 = .ok (.iconst 0, 1) := by decide +kernel
theorem dX7_policy_22 : decode cX7_policy 22 = .ok (.ldc 52, 2) := by decide +kernel
theorem dX7_policy_24 : decode cX7_policy 24 = .ok (.invokestatic 47, 3) := by decide +kernel
theorem dX7_policy_27 : decode cX7_policy 27 = .ok (.ifCond .eq 38, 3) := by decide +kernel
theorem dX7_policy_30 : decode cX7_policy 30 = .ok (.iload 4, 2) := by decide +kernel
theorem dX7_policy_32 : decode cX7_policy 32 = .ok (.iconst 0, 1) := by decide +kernel
theorem dX7_policy_33 : decode cX7_policy 33 = .ok (.ldc 51, 2) := by decide +kernel
theorem dX7_policy_35 : decode cX7_policy 35 = .ok (.invokestatic 47, 3) := by decide +kernel
theorem dX7_policy_38 : decode cX7_policy 38 = .ok (.ifCond .eq 27, 3) := by decide +kernel
theorem dX7_policy_41 : decode cX7_policy 41 = .ok (.iload 5, 2) := by decide +kernel
theorem dX7_policy_43 : decode cX7_policy 43 = .ok (.iconst 1, 1) := by decide +kernel
theorem dX7_policy_44 : decode cX7_policy 44 = .ok (.sipush 255, 3) := by decide +kernel
theorem dX7_policy_47 : decode cX7_policy 47 = .ok (.invokestatic 47, 3) := by decide +kernel
theorem dX7_policy_50 : decode cX7_policy 50 = .ok (.ifCond .eq 15, 3) := by decide +kernel
theorem dX7_policy_53 : decode cX7_policy 53 = .ok (.aload_n 0, 1) := by decide +kernel
theorem dX7_policy_54 : decode cX7_policy 54 = .ok (.getfield 20, 3) := by decide +kernel
theorem dX7_policy_57 : decode cX7_policy 57 = .ok (.getfield 53, 3) := by decide +kernel
theorem dX7_policy_60 : decode cX7_policy 60 = .ok (.bipush 8, 2) := by decide +kernel
theorem dX7_policy_62 : decode cX7_policy 62 = .ok (.if_icmp .lt 5, 3) := by decide +kernel
theorem dX7_policy_65 : decode cX7_policy 65 = .ok (.iconst (-1), 1) := by decide +kernel
theorem dX7_policy_66 : decode cX7_policy 66 = .ok (.ireturn, 1) := by decide +kernel
theorem dX7_policy_67 : decode cX7_policy 67 = .ok (.aload_n 0, 1) := by decide +kernel
theorem dX7_policy_68 : decode cX7_policy 68 = .ok (.getfield 20, 3) := by decide +kernel
theorem dX7_policy_71 : decode cX7_policy 71 = .ok (.getfield 53, 3) := by decide +kernel
theorem dX7_policy_74 : decode cX7_policy 74 = .ok (.istore 6, 2) := by decide +kernel
theorem dX7_policy_76 : decode cX7_policy 76 = .ok (.aload_n 0, 1) := by decide +kernel
theorem dX7_policy_77 : decode cX7_policy 77 = .ok (.getfield 20, 3) := by decide +kernel
theorem dX7_policy_80 : decode cX7_policy 80 = .ok (.getfield 59, 3) := by decide +kernel
theorem dX7_policy_83 : decode cX7_policy 83 = .ok (.iload 6, 2) := by decide +kernel
theorem dX7_policy_85 : decode cX7_policy 85 = .ok (.iload_n 1, 1) := by decide +kernel
theorem dX7_policy_86 : decode cX7_policy 86 = .ok (.iastore, 1) := by decide +kernel
theorem dX7_policy_87 : decode cX7_policy 87 = .ok (.aload_n 0, 1) := by decide +kernel
theorem dX7_policy_88 : decode cX7_policy 88 = .ok (.getfield 20, 3) := by decide +kernel
theorem dX7_policy_91 : decode cX7_policy 91 = .ok (.getfield 62, 3) := by decide +kernel
theorem dX7_policy_94 : decode cX7_policy 94 = .ok (.iload 6, 2) := by decide +kernel
theorem dX7_policy_96 : decode cX7_policy 96 = .ok (.iload_n 2, 1) := by decide +kernel
theorem dX7_policy_97 : decode cX7_policy 97 = .ok (.iastore, 1) := by decide +kernel
theorem dX7_policy_98 : decode cX7_policy 98 = .ok (.aload_n 0, 1) := by decide +kernel
theorem dX7_policy_99 : decode cX7_policy 99 = .ok (.getfield 20, 3) := by decide +kernel
theorem dX7_policy_102 : decode cX7_policy 102 = .ok (.getfield 65, 3) := by decide +kernel
theorem dX7_policy_105 : decode cX7_policy 105 = .ok (.iload 6, 2) := by decide +kernel
theorem dX7_policy_107 : decode cX7_policy 107 = .ok (.iload_n 3, 1) := by decide +kernel
theorem dX7_policy_108 : decode cX7_policy 108 = .ok (.iastore, 1) := by decide +kernel
theorem dX7_policy_109 : decode cX7_policy 109 = .ok (.aload_n 0, 1) := by decide +kernel
theorem dX7_policy_110 : decode cX7_policy 110 = .ok (.getfield 20, 3) := by decide +kernel
theorem dX7_policy_113 : decode cX7_policy 113 = .ok (.getfield 68, 3) := by decide +kernel
theorem dX7_policy_116 : decode cX7_policy 116 = .ok (.iload 6, 2) := by decide +kernel
theorem dX7_policy_118 : decode cX7_policy 118 = .ok (.iload 4, 2) := by decide +kernel
theorem dX7_policy_120 : decode cX7_policy 120 = .ok (.iastore, 1) := by decide +kernel
theorem dX7_policy_121 : decode cX7_policy 121 = .ok (.aload_n 0, 1) := by decide +kernel
theorem dX7_policy_122 : decode cX7_policy 122 = .ok (.getfield 20, 3) := by decide +kernel
theorem dX7_policy_125 : decode cX7_policy 125 = .ok (.getfield 71, 3) := by decide +kernel
theorem dX7_policy_128 : decode cX7_policy 128 = .ok (.iload 6, 2) := by decide +kernel
theorem dX7_policy_130 : decode cX7_policy 130 = .ok (.iload 5, 2) := by decide +kernel
theorem dX7_policy_132 : decode cX7_policy 132 = .ok (.iastore, 1) := by decide +kernel
theorem dX7_policy_133 : decode cX7_policy 133 = .ok (.aload_n 0, 1) := by decide +kernel
theorem dX7_policy_134 : decode cX7_policy 134 = .ok (.getfield 20, 3) := by decide +kernel
theorem dX7_policy_137 : decode cX7_policy 137 = .ok (.iload 6, 2) := by decide +kernel
theorem dX7_policy_139 : decode cX7_policy 139 = .ok (.iconst 1, 1) := by decide +kernel
theorem dX7_policy_140 : decode cX7_policy 140 = .ok (.iadd, 1) := by decide +kernel
theorem dX7_policy_141 : decode cX7_policy 141 = .ok (.putfield 53, 3) := by decide +kernel
theorem dX7_policy_144 : decode cX7_policy 144 = .ok (.iload 6, 2) := by decide +kernel
theorem dX7_policy_146 : decode cX7_policy 146 = .ok (.ireturn, 1) := by decide +kernel
set_option maxRecDepth 20000 in
theorem ggX7_policy_X7_within : GoodIn wsX7_policy wsX7_within := goodIn_r _ [14] (by decide +kernel) (by decide +kernel)
set_option maxRecDepth 20000 in
theorem gX7_policy_X7_within : GoodIn wsX7_policy (va_wsS RX7 47 yX7_within wsX7_within) := goodIn_app (goodIn_of _ (by decide +kernel)) ggX7_policy_X7_within
set_option maxHeartbeats 4000000 in
set_option maxRecDepth 100000 in
theorem f_X7_policy (l : Launch) (D : va_G) (cI cJ : ClassId) (sz : Nat) (x x0 x1 x2 x3 x4 x5 b0 b1 b2 b3 b4 b5 b6 b7 b8 b9 b10 b11 : Nat) (p0 p1 p2 p3 p4 : Int32) : Met l yX7_policy wsX7_policy { frames := 1, cells := 0, slots := 0, locals := 22 } (cPc D cI cJ [.ref x, .int p0, .int p1, .int p2, .int p3, .int p4] sz [(x, .inr (7, [.ref x0, .ref x1, .ref x2, .ref x3, .ref x4, .ref x5])), (x0, .inr (0, [.ref b0, .ref b1, .ref b2, .ref b3, .ref b4, .ref b5, .ref b6, .ref b7, .ref b8, .ref b9, .ref b10, .ref b11, .int 0, .int 0, .int 0])), (b0, .inl (cI, 8, .inl (fun _ => 0))), (b1, .inl (cI, 8, .inl (fun _ => 0))), (b2, .inl (cI, 8, .inl (fun _ => 0))), (b3, .inl (cI, 8, .inl (fun _ => 0))), (b4, .inl (cI, 8, .inl (fun _ => 0)))]) (cQi D (fun r u => r = pz ((1 ≤ p0 ∧ p0 ≤ 1000000) ∧ (1 ≤ p1 ∧ p1 ≤ 9000000) ∧ (0 ≤ p2 ∧ p2 ≤ 99999) ∧ (0 ≤ p3 ∧ p3 ≤ 9000000) ∧ 1 ≤ p4 ∧ p4 ≤ 255) ∧ u = []) (va_A [(x, .inr (7, [.ref x0, .ref x1, .ref x2, .ref x3, .ref x4, .ref x5])), (x0, .inr (0, [.ref b0, .ref b1, .ref b2, .ref b3, .ref b4, .ref b5, .ref b6, .ref b7, .ref b8, .ref b9, .ref b10, .ref b11, .int 0, .int 0, .int 0])), (b0, .inl (cI, 8, .inl (fun _ => 0))), (b1, .inl (cI, 8, .inl (fun _ => 0))), (b2, .inl (cI, 8, .inl (fun _ => 0))), (b3, .inl (cI, 8, .inl (fun _ => 0))), (b4, .inl (cI, 8, .inl (fun _ => 0)))] sz)) 0 0 (va_A [(x, .inr (7, [.ref x0, .ref x1, .ref x2, .ref x3, .ref x4, .ref x5])), (x0, .inr (0, [.ref b0, .ref b1, .ref b2, .ref b3, .ref b4, .ref b5, .ref b6, .ref b7, .ref b8, .ref b9, .ref b10, .ref b11, .int 0, .int 0, .int 0])), (b0, .inl (cI, 8, .inl (fun _ => 0))), (b1, .inl (cI, 8, .inl (fun _ => 0))), (b2, .inl (cI, 8, .inl (fun _ => 0))), (b3, .inl (cI, 8, .inl (fun _ => 0))), (b4, .inl (cI, 8, .inl (fun _ => 0)))] sz) := by
  refine k_ofW (Qc := cQi D (fun r u => r = pz ((1 ≤ p0 ∧ p0 ≤ 1000000) ∧ (1 ≤ p1 ∧ p1 ≤ 9000000) ∧ (0 ≤ p2 ∧ p2 ≤ 99999) ∧ (0 ≤ p3 ∧ p3 ≤ 9000000) ∧ 1 ≤ p4 ∧ p4 ≤ 255) ∧ u = [])) (by decide) rfl (Nat.le_of_ble_eq_true rfl) ?_
  intro p e s m below meth c A ls hx hb hr hml hts hown hlk hnm hsz hE hP hD hS hA hl
  have hown : s.vm.findClass RX7 = some m.cls := hown
  have hiX7 : ∀ w ∈ u_ws RX7 TX7 6, w ∈ wsX7_policy := fun w h => List.mem_cons_of_mem _ (List.mem_append_left _ (List.mem_append_right _ h))
  have hiX0 : ∀ w ∈ u_ws RX0 TX0 15, w ∈ wsX7_policy := fun w h => List.mem_cons_of_mem _ (List.mem_append_right _ h)
  have hl : lv_has ls 7 [(0, .ref x), (1, .int p0), (2, .int p1), (3, .int p2), (4, .int p3), (5, .int p4)] := hl
  refine lv_iload_n hx hb dX7_policy_0 rfl (lv_at hl 1 rfl) ?_
  refine lv_iconst (v := 1) hx hb dX7_policy_1 (by decide) ?_
  refine lv_ldc (v := 1000000) hx hb hown (hts _ (List.mem_of_getElem? (i := 1) rfl)) dX7_policy_2 ?_
  refine k_i (va_runS (As := [.int p0, .int 1, .int 1000000]) (rest := []) ⟨hx, hb, hml, hown, hts⟩ (m_X7_within l D cI cJ (s.heap).size p0 1 1000000) (va_cwS 3 hts gX7_policy_X7_within rfl rfl rfl (by decide +kernel) ⟨Nat.le_of_ble_eq_true rfl, Nat.le_of_ble_eq_true rfl⟩) (k_pre hE hP hD [] (by decide) rfl) rfl rfl hl.1 rfl (lv_room (Nat.le_of_ble_eq_true rfl)) dX7_policy_4 ⟨Nat.le_of_ble_eq_true rfl, Nat.le_of_ble_eq_true rfl⟩) hP hD hS hA [] [0, 1, 2, 3, 4, 5, 6] rfl (wr := [(x, .inr (7, [.ref x0, .ref x1, .ref x2, .ref x3, .ref x4, .ref x5])), (x0, .inr (0, [.ref b0, .ref b1, .ref b2, .ref b3, .ref b4, .ref b5, .ref b6, .ref b7, .ref b8, .ref b9, .ref b10, .ref b11, .int 0, .int 0, .int 0])), (b0, .inl (cI, 8, .inl (fun _ => 0))), (b1, .inl (cI, 8, .inl (fun _ => 0))), (b2, .inl (cI, 8, .inl (fun _ => 0))), (b3, .inl (cI, 8, .inl (fun _ => 0))), (b4, .inl (cI, 8, .inl (fun _ => 0)))]) rfl (by decide) (by decide) (fun r1 u H locs hw2 hP hD hS => ?_)
  obtain ⟨hw2, rfl⟩ := hw2
  have hP : va_P D vwCl [(x, .inr (7, [.ref x0, .ref x1, .ref x2, .ref x3, .ref x4, .ref x5])), (x0, .inr (0, [.ref b0, .ref b1, .ref b2, .ref b3, .ref b4, .ref b5, .ref b6, .ref b7, .ref b8, .ref b9, .ref b10, .ref b11, .int 0, .int 0, .int 0])), (b0, .inl (cI, 8, .inl (fun _ => 0))), (b1, .inl (cI, 8, .inl (fun _ => 0))), (b2, .inl (cI, 8, .inl (fun _ => 0))), (b3, .inl (cI, 8, .inl (fun _ => 0))), (b4, .inl (cI, 8, .inl (fun _ => 0)))] H := hP
  have hD : va_D A [(x, .inr (7, [.ref x0, .ref x1, .ref x2, .ref x3, .ref x4, .ref x5])), (x0, .inr (0, [.ref b0, .ref b1, .ref b2, .ref b3, .ref b4, .ref b5, .ref b6, .ref b7, .ref b8, .ref b9, .ref b10, .ref b11, .int 0, .int 0, .int 0])), (b0, .inl (cI, 8, .inl (fun _ => 0))), (b1, .inl (cI, 8, .inl (fun _ => 0))), (b2, .inl (cI, 8, .inl (fun _ => 0))), (b3, .inl (cI, 8, .inl (fun _ => 0))), (b4, .inl (cI, 8, .inl (fun _ => 0)))] := hD
  refine lv_if_eq (tgt := 65) hx hb dX7_policy_7 (by decide) (fun c3 => ?_) (fun c3 => ?_)
  · skip
    have hc3 : ¬ (1 ≤ p0 ∧ p0 ≤ 1000000) := bz_0 hw2 c3
    refine lv_iconst (v := (-1)) hx hb dX7_policy_65 (by decide) ?_
    refine k_iret (u := []) hx hb hr hlk (k_sub hP [] rfl) (hD.sub [] (by decide) rfl) hS dX7_policy_66 ?_
    exact ⟨pz_f (fun q => hc3 q.1), rfl⟩
  · skip
    have hc3 : 1 ≤ p0 ∧ p0 ≤ 1000000 := bz_1 hw2 c3
    refine lv_iload_n hx hb dX7_policy_10 rfl (lv_at hl 2 rfl) ?_
    refine lv_iconst (v := 1) hx hb dX7_policy_11 (by decide) ?_
    refine lv_ldc (v := 9000000) hx hb hown (hts _ (List.mem_of_getElem? (i := 2) rfl)) dX7_policy_12 ?_
    refine k_i (va_runS (As := [.int p1, .int 1, .int 9000000]) (rest := []) ⟨hx, hb, hml, hown, hts⟩ (m_X7_within l D cI cJ H.size p1 1 9000000) (va_cwS 3 hts gX7_policy_X7_within rfl rfl rfl (by decide +kernel) ⟨Nat.le_of_ble_eq_true rfl, Nat.le_of_ble_eq_true rfl⟩) (k_pre hE hP hD [] (by decide) rfl) rfl rfl hl.1 rfl (lv_room (Nat.le_of_ble_eq_true rfl)) dX7_policy_14 ⟨Nat.le_of_ble_eq_true rfl, Nat.le_of_ble_eq_true rfl⟩) hP hD hS hA [] [0, 1, 2, 3, 4, 5, 6] rfl (wr := [(x, .inr (7, [.ref x0, .ref x1, .ref x2, .ref x3, .ref x4, .ref x5])), (x0, .inr (0, [.ref b0, .ref b1, .ref b2, .ref b3, .ref b4, .ref b5, .ref b6, .ref b7, .ref b8, .ref b9, .ref b10, .ref b11, .int 0, .int 0, .int 0])), (b0, .inl (cI, 8, .inl (fun _ => 0))), (b1, .inl (cI, 8, .inl (fun _ => 0))), (b2, .inl (cI, 8, .inl (fun _ => 0))), (b3, .inl (cI, 8, .inl (fun _ => 0))), (b4, .inl (cI, 8, .inl (fun _ => 0)))]) rfl (by decide) (by decide) (fun r4 u H locs hw5 hP hD hS => ?_)
    obtain ⟨hw5, rfl⟩ := hw5
    have hP : va_P D vwCl [(x, .inr (7, [.ref x0, .ref x1, .ref x2, .ref x3, .ref x4, .ref x5])), (x0, .inr (0, [.ref b0, .ref b1, .ref b2, .ref b3, .ref b4, .ref b5, .ref b6, .ref b7, .ref b8, .ref b9, .ref b10, .ref b11, .int 0, .int 0, .int 0])), (b0, .inl (cI, 8, .inl (fun _ => 0))), (b1, .inl (cI, 8, .inl (fun _ => 0))), (b2, .inl (cI, 8, .inl (fun _ => 0))), (b3, .inl (cI, 8, .inl (fun _ => 0))), (b4, .inl (cI, 8, .inl (fun _ => 0)))] H := hP
    have hD : va_D A [(x, .inr (7, [.ref x0, .ref x1, .ref x2, .ref x3, .ref x4, .ref x5])), (x0, .inr (0, [.ref b0, .ref b1, .ref b2, .ref b3, .ref b4, .ref b5, .ref b6, .ref b7, .ref b8, .ref b9, .ref b10, .ref b11, .int 0, .int 0, .int 0])), (b0, .inl (cI, 8, .inl (fun _ => 0))), (b1, .inl (cI, 8, .inl (fun _ => 0))), (b2, .inl (cI, 8, .inl (fun _ => 0))), (b3, .inl (cI, 8, .inl (fun _ => 0))), (b4, .inl (cI, 8, .inl (fun _ => 0)))] := hD
    refine lv_if_eq (tgt := 65) hx hb dX7_policy_17 (by decide) (fun c6 => ?_) (fun c6 => ?_)
    · skip
      have hc6 : ¬ (1 ≤ p1 ∧ p1 ≤ 9000000) := bz_0 hw5 c6
      refine lv_iconst (v := (-1)) hx hb dX7_policy_65 (by decide) ?_
      refine k_iret (u := []) hx hb hr hlk (k_sub hP [] rfl) (hD.sub [] (by decide) rfl) hS dX7_policy_66 ?_
      exact ⟨pz_f (fun q => hc6 q.2.1), rfl⟩
    · skip
      have hc6 : 1 ≤ p1 ∧ p1 ≤ 9000000 := bz_1 hw5 c6
      refine lv_iload_n hx hb dX7_policy_20 rfl (lv_at hl 3 rfl) ?_
      refine lv_iconst (v := 0) hx hb dX7_policy_21 (by decide) ?_
      refine lv_ldc (v := 99999) hx hb hown (hts _ (List.mem_of_getElem? (i := 3) rfl)) dX7_policy_22 ?_
      refine k_i (va_runS (As := [.int p2, .int 0, .int 99999]) (rest := []) ⟨hx, hb, hml, hown, hts⟩ (m_X7_within l D cI cJ H.size p2 0 99999) (va_cwS 3 hts gX7_policy_X7_within rfl rfl rfl (by decide +kernel) ⟨Nat.le_of_ble_eq_true rfl, Nat.le_of_ble_eq_true rfl⟩) (k_pre hE hP hD [] (by decide) rfl) rfl rfl hl.1 rfl (lv_room (Nat.le_of_ble_eq_true rfl)) dX7_policy_24 ⟨Nat.le_of_ble_eq_true rfl, Nat.le_of_ble_eq_true rfl⟩) hP hD hS hA [] [0, 1, 2, 3, 4, 5, 6] rfl (wr := [(x, .inr (7, [.ref x0, .ref x1, .ref x2, .ref x3, .ref x4, .ref x5])), (x0, .inr (0, [.ref b0, .ref b1, .ref b2, .ref b3, .ref b4, .ref b5, .ref b6, .ref b7, .ref b8, .ref b9, .ref b10, .ref b11, .int 0, .int 0, .int 0])), (b0, .inl (cI, 8, .inl (fun _ => 0))), (b1, .inl (cI, 8, .inl (fun _ => 0))), (b2, .inl (cI, 8, .inl (fun _ => 0))), (b3, .inl (cI, 8, .inl (fun _ => 0))), (b4, .inl (cI, 8, .inl (fun _ => 0)))]) rfl (by decide) (by decide) (fun r7 u H locs hw8 hP hD hS => ?_)
      obtain ⟨hw8, rfl⟩ := hw8
      have hP : va_P D vwCl [(x, .inr (7, [.ref x0, .ref x1, .ref x2, .ref x3, .ref x4, .ref x5])), (x0, .inr (0, [.ref b0, .ref b1, .ref b2, .ref b3, .ref b4, .ref b5, .ref b6, .ref b7, .ref b8, .ref b9, .ref b10, .ref b11, .int 0, .int 0, .int 0])), (b0, .inl (cI, 8, .inl (fun _ => 0))), (b1, .inl (cI, 8, .inl (fun _ => 0))), (b2, .inl (cI, 8, .inl (fun _ => 0))), (b3, .inl (cI, 8, .inl (fun _ => 0))), (b4, .inl (cI, 8, .inl (fun _ => 0)))] H := hP
      have hD : va_D A [(x, .inr (7, [.ref x0, .ref x1, .ref x2, .ref x3, .ref x4, .ref x5])), (x0, .inr (0, [.ref b0, .ref b1, .ref b2, .ref b3, .ref b4, .ref b5, .ref b6, .ref b7, .ref b8, .ref b9, .ref b10, .ref b11, .int 0, .int 0, .int 0])), (b0, .inl (cI, 8, .inl (fun _ => 0))), (b1, .inl (cI, 8, .inl (fun _ => 0))), (b2, .inl (cI, 8, .inl (fun _ => 0))), (b3, .inl (cI, 8, .inl (fun _ => 0))), (b4, .inl (cI, 8, .inl (fun _ => 0)))] := hD
      refine lv_if_eq (tgt := 65) hx hb dX7_policy_27 (by decide) (fun c9 => ?_) (fun c9 => ?_)
      · skip
        have hc9 : ¬ (0 ≤ p2 ∧ p2 ≤ 99999) := bz_0 hw8 c9
        refine lv_iconst (v := (-1)) hx hb dX7_policy_65 (by decide) ?_
        refine k_iret (u := []) hx hb hr hlk (k_sub hP [] rfl) (hD.sub [] (by decide) rfl) hS dX7_policy_66 ?_
        exact ⟨pz_f (fun q => hc9 q.2.2.1), rfl⟩
      · skip
        have hc9 : 0 ≤ p2 ∧ p2 ≤ 99999 := bz_1 hw8 c9
        refine lv_iload hx hb dX7_policy_30 (lv_at hl 4 rfl) ?_
        refine lv_iconst (v := 0) hx hb dX7_policy_32 (by decide) ?_
        refine lv_ldc (v := 9000000) hx hb hown (hts _ (List.mem_of_getElem? (i := 2) rfl)) dX7_policy_33 ?_
        refine k_i (va_runS (As := [.int p3, .int 0, .int 9000000]) (rest := []) ⟨hx, hb, hml, hown, hts⟩ (m_X7_within l D cI cJ H.size p3 0 9000000) (va_cwS 3 hts gX7_policy_X7_within rfl rfl rfl (by decide +kernel) ⟨Nat.le_of_ble_eq_true rfl, Nat.le_of_ble_eq_true rfl⟩) (k_pre hE hP hD [] (by decide) rfl) rfl rfl hl.1 rfl (lv_room (Nat.le_of_ble_eq_true rfl)) dX7_policy_35 ⟨Nat.le_of_ble_eq_true rfl, Nat.le_of_ble_eq_true rfl⟩) hP hD hS hA [] [0, 1, 2, 3, 4, 5, 6] rfl (wr := [(x, .inr (7, [.ref x0, .ref x1, .ref x2, .ref x3, .ref x4, .ref x5])), (x0, .inr (0, [.ref b0, .ref b1, .ref b2, .ref b3, .ref b4, .ref b5, .ref b6, .ref b7, .ref b8, .ref b9, .ref b10, .ref b11, .int 0, .int 0, .int 0])), (b0, .inl (cI, 8, .inl (fun _ => 0))), (b1, .inl (cI, 8, .inl (fun _ => 0))), (b2, .inl (cI, 8, .inl (fun _ => 0))), (b3, .inl (cI, 8, .inl (fun _ => 0))), (b4, .inl (cI, 8, .inl (fun _ => 0)))]) rfl (by decide) (by decide) (fun r10 u H locs hw11 hP hD hS => ?_)
        obtain ⟨hw11, rfl⟩ := hw11
        have hP : va_P D vwCl [(x, .inr (7, [.ref x0, .ref x1, .ref x2, .ref x3, .ref x4, .ref x5])), (x0, .inr (0, [.ref b0, .ref b1, .ref b2, .ref b3, .ref b4, .ref b5, .ref b6, .ref b7, .ref b8, .ref b9, .ref b10, .ref b11, .int 0, .int 0, .int 0])), (b0, .inl (cI, 8, .inl (fun _ => 0))), (b1, .inl (cI, 8, .inl (fun _ => 0))), (b2, .inl (cI, 8, .inl (fun _ => 0))), (b3, .inl (cI, 8, .inl (fun _ => 0))), (b4, .inl (cI, 8, .inl (fun _ => 0)))] H := hP
        have hD : va_D A [(x, .inr (7, [.ref x0, .ref x1, .ref x2, .ref x3, .ref x4, .ref x5])), (x0, .inr (0, [.ref b0, .ref b1, .ref b2, .ref b3, .ref b4, .ref b5, .ref b6, .ref b7, .ref b8, .ref b9, .ref b10, .ref b11, .int 0, .int 0, .int 0])), (b0, .inl (cI, 8, .inl (fun _ => 0))), (b1, .inl (cI, 8, .inl (fun _ => 0))), (b2, .inl (cI, 8, .inl (fun _ => 0))), (b3, .inl (cI, 8, .inl (fun _ => 0))), (b4, .inl (cI, 8, .inl (fun _ => 0)))] := hD
        refine lv_if_eq (tgt := 65) hx hb dX7_policy_38 (by decide) (fun c12 => ?_) (fun c12 => ?_)
        · skip
          have hc12 : ¬ (0 ≤ p3 ∧ p3 ≤ 9000000) := bz_0 hw11 c12
          refine lv_iconst (v := (-1)) hx hb dX7_policy_65 (by decide) ?_
          refine k_iret (u := []) hx hb hr hlk (k_sub hP [] rfl) (hD.sub [] (by decide) rfl) hS dX7_policy_66 ?_
          exact ⟨pz_f (fun q => hc12 q.2.2.2.1), rfl⟩
        · skip
          have hc12 : 0 ≤ p3 ∧ p3 ≤ 9000000 := bz_1 hw11 c12
          refine lv_iload hx hb dX7_policy_41 (lv_at hl 5 rfl) ?_
          refine lv_iconst (v := 1) hx hb dX7_policy_43 (by decide) ?_
          refine lv_sipush (v := 255) hx hb dX7_policy_44 (by decide) ?_
          refine k_i (va_runS (As := [.int p4, .int 1, .int 255]) (rest := []) ⟨hx, hb, hml, hown, hts⟩ (m_X7_within l D cI cJ H.size p4 1 255) (va_cwS 3 hts gX7_policy_X7_within rfl rfl rfl (by decide +kernel) ⟨Nat.le_of_ble_eq_true rfl, Nat.le_of_ble_eq_true rfl⟩) (k_pre hE hP hD [] (by decide) rfl) rfl rfl hl.1 rfl (lv_room (Nat.le_of_ble_eq_true rfl)) dX7_policy_47 ⟨Nat.le_of_ble_eq_true rfl, Nat.le_of_ble_eq_true rfl⟩) hP hD hS hA [] [0, 1, 2, 3, 4, 5, 6] rfl (wr := [(x, .inr (7, [.ref x0, .ref x1, .ref x2, .ref x3, .ref x4, .ref x5])), (x0, .inr (0, [.ref b0, .ref b1, .ref b2, .ref b3, .ref b4, .ref b5, .ref b6, .ref b7, .ref b8, .ref b9, .ref b10, .ref b11, .int 0, .int 0, .int 0])), (b0, .inl (cI, 8, .inl (fun _ => 0))), (b1, .inl (cI, 8, .inl (fun _ => 0))), (b2, .inl (cI, 8, .inl (fun _ => 0))), (b3, .inl (cI, 8, .inl (fun _ => 0))), (b4, .inl (cI, 8, .inl (fun _ => 0)))]) rfl (by decide) (by decide) (fun r13 u H locs hw14 hP hD hS => ?_)
          obtain ⟨hw14, rfl⟩ := hw14
          have hP : va_P D vwCl [(x, .inr (7, [.ref x0, .ref x1, .ref x2, .ref x3, .ref x4, .ref x5])), (x0, .inr (0, [.ref b0, .ref b1, .ref b2, .ref b3, .ref b4, .ref b5, .ref b6, .ref b7, .ref b8, .ref b9, .ref b10, .ref b11, .int 0, .int 0, .int 0])), (b0, .inl (cI, 8, .inl (fun _ => 0))), (b1, .inl (cI, 8, .inl (fun _ => 0))), (b2, .inl (cI, 8, .inl (fun _ => 0))), (b3, .inl (cI, 8, .inl (fun _ => 0))), (b4, .inl (cI, 8, .inl (fun _ => 0)))] H := hP
          have hD : va_D A [(x, .inr (7, [.ref x0, .ref x1, .ref x2, .ref x3, .ref x4, .ref x5])), (x0, .inr (0, [.ref b0, .ref b1, .ref b2, .ref b3, .ref b4, .ref b5, .ref b6, .ref b7, .ref b8, .ref b9, .ref b10, .ref b11, .int 0, .int 0, .int 0])), (b0, .inl (cI, 8, .inl (fun _ => 0))), (b1, .inl (cI, 8, .inl (fun _ => 0))), (b2, .inl (cI, 8, .inl (fun _ => 0))), (b3, .inl (cI, 8, .inl (fun _ => 0))), (b4, .inl (cI, 8, .inl (fun _ => 0)))] := hD
          refine lv_if_eq (tgt := 65) hx hb dX7_policy_50 (by decide) (fun c15 => ?_) (fun c15 => ?_)
          · skip
            have hc15 : ¬ (1 ≤ p4 ∧ p4 ≤ 255) := bz_0 hw14 c15
            refine lv_iconst (v := (-1)) hx hb dX7_policy_65 (by decide) ?_
            refine k_iret (u := []) hx hb hr hlk (k_sub hP [] rfl) (hD.sub [] (by decide) rfl) hS dX7_policy_66 ?_
            exact ⟨pz_f (fun q => hc15 q.2.2.2.2), rfl⟩
          · skip
            have hc15 : 1 ≤ p4 ∧ p4 ≤ 255 := bz_1 hw14 c15
            refine lv_aload_n hx hb dX7_policy_53 rfl (lv_at hl 0 rfl) ?_
            refine va_get (D := D) (ci := 7) (v := .ref x0) (C := RX7) (T := TX7) (N := 6) hx hb hts hiX7 hown hE.1 hP 0 rfl rfl 0 (by decide) (hts _ (List.mem_of_getElem? (i := 4) rfl)) (fun _ h9 => h9) rfl dX7_policy_54 ?_
            refine va_get (D := D) (ci := 0) (v := .int 0) (C := RX0) (T := TX0) (N := 15) hx hb hts hiX0 hown hE.1 hP 1 rfl rfl 12 (by decide) (hts _ (List.mem_of_getElem? (i := 5) rfl)) (fun _ h9 => h9) rfl dX7_policy_57 ?_
            refine lv_bipush (v := 8) hx hb dX7_policy_60 (by decide) ?_
            refine lv_icmp_lt (tgt := 67) hx hb dX7_policy_62 (by decide) (fun _ => ?_) (fun c16 => absurd (by decide) c16)
            refine lv_aload_n hx hb dX7_policy_67 rfl (lv_at hl 0 rfl) ?_
            refine va_get (D := D) (ci := 7) (v := .ref x0) (C := RX7) (T := TX7) (N := 6) hx hb hts hiX7 hown hE.1 hP 0 rfl rfl 0 (by decide) (hts _ (List.mem_of_getElem? (i := 4) rfl)) (fun _ h9 => h9) rfl dX7_policy_68 ?_
            refine va_get (D := D) (ci := 0) (v := .int 0) (C := RX0) (T := TX0) (N := 15) hx hb hts hiX0 hown hE.1 hP 1 rfl rfl 12 (by decide) (hts _ (List.mem_of_getElem? (i := 5) rfl)) (fun _ h9 => h9) rfl dX7_policy_71 ?_
            refine lv_istore (lv' := [(6, .int 0), (0, .ref x), (1, .int p0), (2, .int p1), (3, .int p2), (4, .int p3), (5, .int p4)]) hx hb dX7_policy_74 hl (by decide) rfl (fun ls hl => ?_)
            refine lv_aload_n hx hb dX7_policy_76 rfl (lv_at hl 1 rfl) ?_
            refine va_get (D := D) (ci := 7) (v := .ref x0) (C := RX7) (T := TX7) (N := 6) hx hb hts hiX7 hown hE.1 hP 0 rfl rfl 0 (by decide) (hts _ (List.mem_of_getElem? (i := 4) rfl)) (fun _ h9 => h9) rfl dX7_policy_77 ?_
            refine va_get (D := D) (ci := 0) (v := .ref b0) (C := RX0) (T := TX0) (N := 15) hx hb hts hiX0 hown hE.1 hP 1 rfl rfl 0 (by decide) (hts _ (List.mem_of_getElem? (i := 6) rfl)) (fun _ h9 => h9) rfl dX7_policy_80 ?_
            refine lv_iload hx hb dX7_policy_83 (lv_at hl 0 rfl) ?_
            refine lv_iload_n hx hb dX7_policy_85 rfl (lv_at hl 2 rfl) ?_
            refine va_iast hx hb hE.1 hP hD hS 2 0 rfl rfl (by unfold vp_in; decide) dX7_policy_86 (fun H locs hP hD hS => ?_)
            have hP : va_P D vwCl [(x, .inr (7, [.ref x0, .ref x1, .ref x2, .ref x3, .ref x4, .ref x5])), (x0, .inr (0, [.ref b0, .ref b1, .ref b2, .ref b3, .ref b4, .ref b5, .ref b6, .ref b7, .ref b8, .ref b9, .ref b10, .ref b11, .int 0, .int 0, .int 0])), (b0, .inl (cI, 8, .inl (upd (fun _ => 0) (Int32.toNatClampNeg 0) p0))), (b1, .inl (cI, 8, .inl (fun _ => 0))), (b2, .inl (cI, 8, .inl (fun _ => 0))), (b3, .inl (cI, 8, .inl (fun _ => 0))), (b4, .inl (cI, 8, .inl (fun _ => 0)))] H := hP
            have hD : va_D A [(x, .inr (7, [.ref x0, .ref x1, .ref x2, .ref x3, .ref x4, .ref x5])), (x0, .inr (0, [.ref b0, .ref b1, .ref b2, .ref b3, .ref b4, .ref b5, .ref b6, .ref b7, .ref b8, .ref b9, .ref b10, .ref b11, .int 0, .int 0, .int 0])), (b0, .inl (cI, 8, .inl (upd (fun _ => 0) (Int32.toNatClampNeg 0) p0))), (b1, .inl (cI, 8, .inl (fun _ => 0))), (b2, .inl (cI, 8, .inl (fun _ => 0))), (b3, .inl (cI, 8, .inl (fun _ => 0))), (b4, .inl (cI, 8, .inl (fun _ => 0)))] := hD
            refine lv_aload_n hx hb dX7_policy_87 rfl (lv_at hl 1 rfl) ?_
            refine va_get (D := D) (ci := 7) (v := .ref x0) (C := RX7) (T := TX7) (N := 6) hx hb hts hiX7 hown hE.1 hP 0 rfl rfl 0 (by decide) (hts _ (List.mem_of_getElem? (i := 4) rfl)) (fun _ h9 => h9) rfl dX7_policy_88 ?_
            refine va_get (D := D) (ci := 0) (v := .ref b1) (C := RX0) (T := TX0) (N := 15) hx hb hts hiX0 hown hE.1 hP 1 rfl rfl 1 (by decide) (hts _ (List.mem_of_getElem? (i := 7) rfl)) (fun _ h9 => h9) rfl dX7_policy_91 ?_
            refine lv_iload hx hb dX7_policy_94 (lv_at hl 0 rfl) ?_
            refine lv_iload_n hx hb dX7_policy_96 rfl (lv_at hl 3 rfl) ?_
            refine va_iast hx hb hE.1 hP hD hS 3 0 rfl rfl (by unfold vp_in; decide) dX7_policy_97 (fun H locs hP hD hS => ?_)
            have hP : va_P D vwCl [(x, .inr (7, [.ref x0, .ref x1, .ref x2, .ref x3, .ref x4, .ref x5])), (x0, .inr (0, [.ref b0, .ref b1, .ref b2, .ref b3, .ref b4, .ref b5, .ref b6, .ref b7, .ref b8, .ref b9, .ref b10, .ref b11, .int 0, .int 0, .int 0])), (b0, .inl (cI, 8, .inl (upd (fun _ => 0) (Int32.toNatClampNeg 0) p0))), (b1, .inl (cI, 8, .inl (upd (fun _ => 0) (Int32.toNatClampNeg 0) p1))), (b2, .inl (cI, 8, .inl (fun _ => 0))), (b3, .inl (cI, 8, .inl (fun _ => 0))), (b4, .inl (cI, 8, .inl (fun _ => 0)))] H := hP
            have hD : va_D A [(x, .inr (7, [.ref x0, .ref x1, .ref x2, .ref x3, .ref x4, .ref x5])), (x0, .inr (0, [.ref b0, .ref b1, .ref b2, .ref b3, .ref b4, .ref b5, .ref b6, .ref b7, .ref b8, .ref b9, .ref b10, .ref b11, .int 0, .int 0, .int 0])), (b0, .inl (cI, 8, .inl (upd (fun _ => 0) (Int32.toNatClampNeg 0) p0))), (b1, .inl (cI, 8, .inl (upd (fun _ => 0) (Int32.toNatClampNeg 0) p1))), (b2, .inl (cI, 8, .inl (fun _ => 0))), (b3, .inl (cI, 8, .inl (fun _ => 0))), (b4, .inl (cI, 8, .inl (fun _ => 0)))] := hD
            refine lv_aload_n hx hb dX7_policy_98 rfl (lv_at hl 1 rfl) ?_
            refine va_get (D := D) (ci := 7) (v := .ref x0) (C := RX7) (T := TX7) (N := 6) hx hb hts hiX7 hown hE.1 hP 0 rfl rfl 0 (by decide) (hts _ (List.mem_of_getElem? (i := 4) rfl)) (fun _ h9 => h9) rfl dX7_policy_99 ?_
            refine va_get (D := D) (ci := 0) (v := .ref b2) (C := RX0) (T := TX0) (N := 15) hx hb hts hiX0 hown hE.1 hP 1 rfl rfl 2 (by decide) (hts _ (List.mem_of_getElem? (i := 8) rfl)) (fun _ h9 => h9) rfl dX7_policy_102 ?_
            refine lv_iload hx hb dX7_policy_105 (lv_at hl 0 rfl) ?_
            refine lv_iload_n hx hb dX7_policy_107 rfl (lv_at hl 4 rfl) ?_
            refine va_iast hx hb hE.1 hP hD hS 4 0 rfl rfl (by unfold vp_in; decide) dX7_policy_108 (fun H locs hP hD hS => ?_)
            have hP : va_P D vwCl [(x, .inr (7, [.ref x0, .ref x1, .ref x2, .ref x3, .ref x4, .ref x5])), (x0, .inr (0, [.ref b0, .ref b1, .ref b2, .ref b3, .ref b4, .ref b5, .ref b6, .ref b7, .ref b8, .ref b9, .ref b10, .ref b11, .int 0, .int 0, .int 0])), (b0, .inl (cI, 8, .inl (upd (fun _ => 0) (Int32.toNatClampNeg 0) p0))), (b1, .inl (cI, 8, .inl (upd (fun _ => 0) (Int32.toNatClampNeg 0) p1))), (b2, .inl (cI, 8, .inl (upd (fun _ => 0) (Int32.toNatClampNeg 0) p2))), (b3, .inl (cI, 8, .inl (fun _ => 0))), (b4, .inl (cI, 8, .inl (fun _ => 0)))] H := hP
            have hD : va_D A [(x, .inr (7, [.ref x0, .ref x1, .ref x2, .ref x3, .ref x4, .ref x5])), (x0, .inr (0, [.ref b0, .ref b1, .ref b2, .ref b3, .ref b4, .ref b5, .ref b6, .ref b7, .ref b8, .ref b9, .ref b10, .ref b11, .int 0, .int 0, .int 0])), (b0, .inl (cI, 8, .inl (upd (fun _ => 0) (Int32.toNatClampNeg 0) p0))), (b1, .inl (cI, 8, .inl (upd (fun _ => 0) (Int32.toNatClampNeg 0) p1))), (b2, .inl (cI, 8, .inl (upd (fun _ => 0) (Int32.toNatClampNeg 0) p2))), (b3, .inl (cI, 8, .inl (fun _ => 0))), (b4, .inl (cI, 8, .inl (fun _ => 0)))] := hD
            refine lv_aload_n hx hb dX7_policy_109 rfl (lv_at hl 1 rfl) ?_
            refine va_get (D := D) (ci := 7) (v := .ref x0) (C := RX7) (T := TX7) (N := 6) hx hb hts hiX7 hown hE.1 hP 0 rfl rfl 0 (by decide) (hts _ (List.mem_of_getElem? (i := 4) rfl)) (fun _ h9 => h9) rfl dX7_policy_110 ?_
            refine va_get (D := D) (ci := 0) (v := .ref b3) (C := RX0) (T := TX0) (N := 15) hx hb hts hiX0 hown hE.1 hP 1 rfl rfl 3 (by decide) (hts _ (List.mem_of_getElem? (i := 9) rfl)) (fun _ h9 => h9) rfl dX7_policy_113 ?_
            refine lv_iload hx hb dX7_policy_116 (lv_at hl 0 rfl) ?_
            refine lv_iload hx hb dX7_policy_118 (lv_at hl 5 rfl) ?_
            refine va_iast hx hb hE.1 hP hD hS 5 0 rfl rfl (by unfold vp_in; decide) dX7_policy_120 (fun H locs hP hD hS => ?_)
            have hP : va_P D vwCl [(x, .inr (7, [.ref x0, .ref x1, .ref x2, .ref x3, .ref x4, .ref x5])), (x0, .inr (0, [.ref b0, .ref b1, .ref b2, .ref b3, .ref b4, .ref b5, .ref b6, .ref b7, .ref b8, .ref b9, .ref b10, .ref b11, .int 0, .int 0, .int 0])), (b0, .inl (cI, 8, .inl (upd (fun _ => 0) (Int32.toNatClampNeg 0) p0))), (b1, .inl (cI, 8, .inl (upd (fun _ => 0) (Int32.toNatClampNeg 0) p1))), (b2, .inl (cI, 8, .inl (upd (fun _ => 0) (Int32.toNatClampNeg 0) p2))), (b3, .inl (cI, 8, .inl (upd (fun _ => 0) (Int32.toNatClampNeg 0) p3))), (b4, .inl (cI, 8, .inl (fun _ => 0)))] H := hP
            have hD : va_D A [(x, .inr (7, [.ref x0, .ref x1, .ref x2, .ref x3, .ref x4, .ref x5])), (x0, .inr (0, [.ref b0, .ref b1, .ref b2, .ref b3, .ref b4, .ref b5, .ref b6, .ref b7, .ref b8, .ref b9, .ref b10, .ref b11, .int 0, .int 0, .int 0])), (b0, .inl (cI, 8, .inl (upd (fun _ => 0) (Int32.toNatClampNeg 0) p0))), (b1, .inl (cI, 8, .inl (upd (fun _ => 0) (Int32.toNatClampNeg 0) p1))), (b2, .inl (cI, 8, .inl (upd (fun _ => 0) (Int32.toNatClampNeg 0) p2))), (b3, .inl (cI, 8, .inl (upd (fun _ => 0) (Int32.toNatClampNeg 0) p3))), (b4, .inl (cI, 8, .inl (fun _ => 0)))] := hD
            refine lv_aload_n hx hb dX7_policy_121 rfl (lv_at hl 1 rfl) ?_
            refine va_get (D := D) (ci := 7) (v := .ref x0) (C := RX7) (T := TX7) (N := 6) hx hb hts hiX7 hown hE.1 hP 0 rfl rfl 0 (by decide) (hts _ (List.mem_of_getElem? (i := 4) rfl)) (fun _ h9 => h9) rfl dX7_policy_122 ?_
            refine va_get (D := D) (ci := 0) (v := .ref b4) (C := RX0) (T := TX0) (N := 15) hx hb hts hiX0 hown hE.1 hP 1 rfl rfl 4 (by decide) (hts _ (List.mem_of_getElem? (i := 10) rfl)) (fun _ h9 => h9) rfl dX7_policy_125 ?_
            refine lv_iload hx hb dX7_policy_128 (lv_at hl 0 rfl) ?_
            refine lv_iload hx hb dX7_policy_130 (lv_at hl 6 rfl) ?_
            refine va_iast hx hb hE.1 hP hD hS 6 0 rfl rfl (by unfold vp_in; decide) dX7_policy_132 (fun H locs hP hD hS => ?_)
            have hP : va_P D vwCl [(x, .inr (7, [.ref x0, .ref x1, .ref x2, .ref x3, .ref x4, .ref x5])), (x0, .inr (0, [.ref b0, .ref b1, .ref b2, .ref b3, .ref b4, .ref b5, .ref b6, .ref b7, .ref b8, .ref b9, .ref b10, .ref b11, .int 0, .int 0, .int 0])), (b0, .inl (cI, 8, .inl (upd (fun _ => 0) (Int32.toNatClampNeg 0) p0))), (b1, .inl (cI, 8, .inl (upd (fun _ => 0) (Int32.toNatClampNeg 0) p1))), (b2, .inl (cI, 8, .inl (upd (fun _ => 0) (Int32.toNatClampNeg 0) p2))), (b3, .inl (cI, 8, .inl (upd (fun _ => 0) (Int32.toNatClampNeg 0) p3))), (b4, .inl (cI, 8, .inl (upd (fun _ => 0) (Int32.toNatClampNeg 0) p4)))] H := hP
            have hD : va_D A [(x, .inr (7, [.ref x0, .ref x1, .ref x2, .ref x3, .ref x4, .ref x5])), (x0, .inr (0, [.ref b0, .ref b1, .ref b2, .ref b3, .ref b4, .ref b5, .ref b6, .ref b7, .ref b8, .ref b9, .ref b10, .ref b11, .int 0, .int 0, .int 0])), (b0, .inl (cI, 8, .inl (upd (fun _ => 0) (Int32.toNatClampNeg 0) p0))), (b1, .inl (cI, 8, .inl (upd (fun _ => 0) (Int32.toNatClampNeg 0) p1))), (b2, .inl (cI, 8, .inl (upd (fun _ => 0) (Int32.toNatClampNeg 0) p2))), (b3, .inl (cI, 8, .inl (upd (fun _ => 0) (Int32.toNatClampNeg 0) p3))), (b4, .inl (cI, 8, .inl (upd (fun _ => 0) (Int32.toNatClampNeg 0) p4)))] := hD
            refine lv_aload_n hx hb dX7_policy_133 rfl (lv_at hl 1 rfl) ?_
            refine va_get (D := D) (ci := 7) (v := .ref x0) (C := RX7) (T := TX7) (N := 6) hx hb hts hiX7 hown hE.1 hP 0 rfl rfl 0 (by decide) (hts _ (List.mem_of_getElem? (i := 4) rfl)) (fun _ h9 => h9) rfl dX7_policy_134 ?_
            refine lv_iload hx hb dX7_policy_137 (lv_at hl 0 rfl) ?_
            refine lv_iconst (v := 1) hx hb dX7_policy_139 (by decide) ?_
            refine lv_iadd hx hb dX7_policy_140 ?_
            refine lv_topi (fun v17 ev17 => ?_)
            obtain rfl : v17 = 1 := by rw [ev17]; decide
            refine va_put (D := D) (ci := 0) (v := .int 1) (ty := .int) (C := RX0) (T := TX0) (N := 15) hx hb hts hiX0 tyX0 tyX0_ok nmX0 hown hE.1 hP hD hS 1 rfl rfl 12 (by decide) (hts _ (List.mem_of_getElem? (i := 5) rfl)) (fun _ h9 => h9) rfl (by decide +kernel) rfl rfl (Nat.le_of_ble_eq_true rfl) dX7_policy_141 (fun H locs hP hD hS => ?_)
            have hP : va_P D vwCl [(x, .inr (7, [.ref x0, .ref x1, .ref x2, .ref x3, .ref x4, .ref x5])), (x0, .inr (0, [.ref b0, .ref b1, .ref b2, .ref b3, .ref b4, .ref b5, .ref b6, .ref b7, .ref b8, .ref b9, .ref b10, .ref b11, .int 1, .int 0, .int 0])), (b0, .inl (cI, 8, .inl (upd (fun _ => 0) (Int32.toNatClampNeg 0) p0))), (b1, .inl (cI, 8, .inl (upd (fun _ => 0) (Int32.toNatClampNeg 0) p1))), (b2, .inl (cI, 8, .inl (upd (fun _ => 0) (Int32.toNatClampNeg 0) p2))), (b3, .inl (cI, 8, .inl (upd (fun _ => 0) (Int32.toNatClampNeg 0) p3))), (b4, .inl (cI, 8, .inl (upd (fun _ => 0) (Int32.toNatClampNeg 0) p4)))] H := hP
            have hD : va_D A [(x, .inr (7, [.ref x0, .ref x1, .ref x2, .ref x3, .ref x4, .ref x5])), (x0, .inr (0, [.ref b0, .ref b1, .ref b2, .ref b3, .ref b4, .ref b5, .ref b6, .ref b7, .ref b8, .ref b9, .ref b10, .ref b11, .int 1, .int 0, .int 0])), (b0, .inl (cI, 8, .inl (upd (fun _ => 0) (Int32.toNatClampNeg 0) p0))), (b1, .inl (cI, 8, .inl (upd (fun _ => 0) (Int32.toNatClampNeg 0) p1))), (b2, .inl (cI, 8, .inl (upd (fun _ => 0) (Int32.toNatClampNeg 0) p2))), (b3, .inl (cI, 8, .inl (upd (fun _ => 0) (Int32.toNatClampNeg 0) p3))), (b4, .inl (cI, 8, .inl (upd (fun _ => 0) (Int32.toNatClampNeg 0) p4)))] := hD
            refine lv_iload hx hb dX7_policy_144 (lv_at hl 0 rfl) ?_
            refine k_iret (u := []) hx hb hr hlk (k_sub hP [] rfl) (hD.sub [] (by decide) rfl) hS dX7_policy_146 ?_
            exact ⟨pz_t ⟨hc3, hc6, hc9, hc12, hc15⟩, rfl⟩
theorem dX7_loss_0 : decode cX7_loss 0 = .ok (.iload_n 1, 1) := by decide +kernel
theorem dX7_loss_1 : decode cX7_loss 1 = .ok (.invokestatic 91, 3) := by decide +kernel
theorem dX7_loss_4 : decode cX7_loss 4 = .ok (.ifCond .eq 25, 3) := by decide +kernel
theorem dX7_loss_7 : decode cX7_loss 7 = .ok (.iload_n 2, 1) := by decide +kernel
theorem dX7_loss_8 : decode cX7_loss 8 = .ok (.iconst 1, 1) := by decide +kernel
theorem dX7_loss_9 : decode cX7_loss 9 = .ok (.ldc 46, 2) := by decide +kernel
theorem dX7_loss_11 : decode cX7_loss 11 = .ok (.invokestatic 47, 3) := by decide +kernel
theorem dX7_loss_14 : decode cX7_loss 14 = .ok (.ifCond .eq 15, 3) := by decide +kernel
theorem dX7_loss_17 : decode cX7_loss 17 = .ok (.aload_n 0, 1) := by decide +kernel
theorem dX7_loss_18 : decode cX7_loss 18 = .ok (.getfield 20, 3) := by decide +kernel
theorem dX7_loss_21 : decode cX7_loss 21 = .ok (.getfield 103, 3) := by decide +kernel
theorem dX7_loss_24 : decode cX7_loss 24 = .ok (.bipush 10, 2) := by decide +kernel
theorem dX7_loss_26 : decode cX7_loss 26 = .ok (.if_icmp .lt 5, 3) := by decide +kernel
theorem dX7_loss_29 : decode cX7_loss 29 = .ok (.iconst (-1), 1) := by decide +kernel
theorem dX7_loss_30 : decode cX7_loss 30 = .ok (.ireturn, 1) := by decide +kernel
theorem dX7_loss_31 : decode cX7_loss 31 = .ok (.aload_n 0, 1) := by decide +kernel
theorem dX7_loss_32 : decode cX7_loss 32 = .ok (.getfield 20, 3) := by decide +kernel
theorem dX7_loss_35 : decode cX7_loss 35 = .ok (.getfield 103, 3) := by decide +kernel
theorem dX7_loss_38 : decode cX7_loss 38 = .ok (.istore_n 3, 1) := by decide +kernel
theorem dX7_loss_39 : decode cX7_loss 39 = .ok (.aload_n 0, 1) := by decide +kernel
theorem dX7_loss_40 : decode cX7_loss 40 = .ok (.getfield 20, 3) := by decide +kernel
theorem dX7_loss_43 : decode cX7_loss 43 = .ok (.getfield 106, 3) := by decide +kernel
theorem dX7_loss_46 : decode cX7_loss 46 = .ok (.iload_n 3, 1) := by decide +kernel
theorem dX7_loss_47 : decode cX7_loss 47 = .ok (.iload_n 1, 1) := by decide +kernel
theorem dX7_loss_48 : decode cX7_loss 48 = .ok (.iastore, 1) := by decide +kernel
theorem dX7_loss_49 : decode cX7_loss 49 = .ok (.aload_n 0, 1) := by decide +kernel
theorem dX7_loss_50 : decode cX7_loss 50 = .ok (.getfield 20, 3) := by decide +kernel
theorem dX7_loss_53 : decode cX7_loss 53 = .ok (.getfield 109, 3) := by decide +kernel
theorem dX7_loss_56 : decode cX7_loss 56 = .ok (.iload_n 3, 1) := by decide +kernel
theorem dX7_loss_57 : decode cX7_loss 57 = .ok (.iload_n 2, 1) := by decide +kernel
theorem dX7_loss_58 : decode cX7_loss 58 = .ok (.iastore, 1) := by decide +kernel
theorem dX7_loss_59 : decode cX7_loss 59 = .ok (.aload_n 0, 1) := by decide +kernel
theorem dX7_loss_60 : decode cX7_loss 60 = .ok (.getfield 20, 3) := by decide +kernel
theorem dX7_loss_63 : decode cX7_loss 63 = .ok (.iload_n 3, 1) := by decide +kernel
theorem dX7_loss_64 : decode cX7_loss 64 = .ok (.iconst 1, 1) := by decide +kernel
theorem dX7_loss_65 : decode cX7_loss 65 = .ok (.iadd, 1) := by decide +kernel
theorem dX7_loss_66 : decode cX7_loss 66 = .ok (.putfield 103, 3) := by decide +kernel
theorem dX7_loss_69 : decode cX7_loss 69 = .ok (.iload_n 3, 1) := by decide +kernel
theorem dX7_loss_70 : decode cX7_loss 70 = .ok (.ireturn, 1) := by decide +kernel
set_option maxRecDepth 20000 in
theorem ggX7_loss_X7_isItem : GoodIn wsX7_loss wsX7_isItem := goodIn_r _ [9, 10, 11, 8, 12] (by decide +kernel) (by decide +kernel)
set_option maxRecDepth 20000 in
theorem gX7_loss_X7_isItem : GoodIn wsX7_loss (va_wsS RX7 91 yX7_isItem wsX7_isItem) := goodIn_app (goodIn_of _ (by decide +kernel)) ggX7_loss_X7_isItem
set_option maxRecDepth 20000 in
theorem ggX7_loss_X7_within : GoodIn wsX7_loss wsX7_within := goodIn_r _ [12] (by decide +kernel) (by decide +kernel)
set_option maxRecDepth 20000 in
theorem gX7_loss_X7_within : GoodIn wsX7_loss (va_wsS RX7 47 yX7_within wsX7_within) := goodIn_app (goodIn_of _ (by decide +kernel)) ggX7_loss_X7_within
set_option maxHeartbeats 4000000 in
set_option maxRecDepth 100000 in
theorem f_X7_loss (l : Launch) (D : va_G) (cI cJ : ClassId) (sz : Nat) (x x0 x1 x2 x3 x4 x5 b0 b1 b2 b3 b4 b5 b6 b7 b8 b9 b10 b11 : Nat) (p0 p1 : Int32) : Met l yX7_loss wsX7_loss { frames := 2, cells := 0, slots := 0, locals := 42 } (cPc D cI cJ [.ref x, .int p0, .int p1] sz [(x, .inr (7, [.ref x0, .ref x1, .ref x2, .ref x3, .ref x4, .ref x5])), (x0, .inr (0, [.ref b0, .ref b1, .ref b2, .ref b3, .ref b4, .ref b5, .ref b6, .ref b7, .ref b8, .ref b9, .ref b10, .ref b11, .int 0, .int 0, .int 0])), (b10, .inl (cI, 10, .inl (fun _ => 0))), (b11, .inl (cI, 10, .inl (fun _ => 0)))]) (cQi D (fun r u => r = pz ((0 ≤ p0 ∧ p0 ≤ 7) ∧ 1 ≤ p1 ∧ p1 ≤ 1000000) ∧ u = []) (va_A [(x, .inr (7, [.ref x0, .ref x1, .ref x2, .ref x3, .ref x4, .ref x5])), (x0, .inr (0, [.ref b0, .ref b1, .ref b2, .ref b3, .ref b4, .ref b5, .ref b6, .ref b7, .ref b8, .ref b9, .ref b10, .ref b11, .int 0, .int 0, .int 0])), (b10, .inl (cI, 10, .inl (fun _ => 0))), (b11, .inl (cI, 10, .inl (fun _ => 0)))] sz)) 0 0 (va_A [(x, .inr (7, [.ref x0, .ref x1, .ref x2, .ref x3, .ref x4, .ref x5])), (x0, .inr (0, [.ref b0, .ref b1, .ref b2, .ref b3, .ref b4, .ref b5, .ref b6, .ref b7, .ref b8, .ref b9, .ref b10, .ref b11, .int 0, .int 0, .int 0])), (b10, .inl (cI, 10, .inl (fun _ => 0))), (b11, .inl (cI, 10, .inl (fun _ => 0)))] sz) := by
  refine k_ofW (Qc := cQi D (fun r u => r = pz ((0 ≤ p0 ∧ p0 ≤ 7) ∧ 1 ≤ p1 ∧ p1 ≤ 1000000) ∧ u = [])) (by decide) rfl (Nat.le_of_ble_eq_true rfl) ?_
  intro p e s m below meth c A ls hx hb hr hml hts hown hlk hnm hsz hE hP hD hS hA hl
  have hown : s.vm.findClass RX7 = some m.cls := hown
  have hiX7 : ∀ w ∈ u_ws RX7 TX7 6, w ∈ wsX7_loss := fun w h => List.mem_cons_of_mem _ (List.mem_append_left _ (List.mem_append_right _ h))
  have hiX0 : ∀ w ∈ u_ws RX0 TX0 15, w ∈ wsX7_loss := fun w h => List.mem_cons_of_mem _ (List.mem_append_right _ h)
  have hl : lv_has ls 4 [(0, .ref x), (1, .int p0), (2, .int p1)] := hl
  refine lv_iload_n hx hb dX7_loss_0 rfl (lv_at hl 1 rfl) ?_
  refine k_i (va_runS (As := [.int p0]) (rest := []) ⟨hx, hb, hml, hown, hts⟩ (m_X7_isItem l D cI cJ (s.heap).size p0) (va_cwS 1 hts gX7_loss_X7_isItem rfl rfl rfl (by decide +kernel) ⟨Nat.le_of_ble_eq_true rfl, Nat.le_of_ble_eq_true rfl⟩) (k_pre hE hP hD [] (by decide) rfl) rfl rfl hl.1 rfl (lv_room (Nat.le_of_ble_eq_true rfl)) dX7_loss_1 ⟨Nat.le_of_ble_eq_true rfl, Nat.le_of_ble_eq_true rfl⟩) hP hD hS hA [] [0, 1, 2, 3] rfl (wr := [(x, .inr (7, [.ref x0, .ref x1, .ref x2, .ref x3, .ref x4, .ref x5])), (x0, .inr (0, [.ref b0, .ref b1, .ref b2, .ref b3, .ref b4, .ref b5, .ref b6, .ref b7, .ref b8, .ref b9, .ref b10, .ref b11, .int 0, .int 0, .int 0])), (b10, .inl (cI, 10, .inl (fun _ => 0))), (b11, .inl (cI, 10, .inl (fun _ => 0)))]) rfl (by decide) (by decide) (fun r1 u H locs hw2 hP hD hS => ?_)
  obtain ⟨hw2, rfl⟩ := hw2
  have hP : va_P D vwCl [(x, .inr (7, [.ref x0, .ref x1, .ref x2, .ref x3, .ref x4, .ref x5])), (x0, .inr (0, [.ref b0, .ref b1, .ref b2, .ref b3, .ref b4, .ref b5, .ref b6, .ref b7, .ref b8, .ref b9, .ref b10, .ref b11, .int 0, .int 0, .int 0])), (b10, .inl (cI, 10, .inl (fun _ => 0))), (b11, .inl (cI, 10, .inl (fun _ => 0)))] H := hP
  have hD : va_D A [(x, .inr (7, [.ref x0, .ref x1, .ref x2, .ref x3, .ref x4, .ref x5])), (x0, .inr (0, [.ref b0, .ref b1, .ref b2, .ref b3, .ref b4, .ref b5, .ref b6, .ref b7, .ref b8, .ref b9, .ref b10, .ref b11, .int 0, .int 0, .int 0])), (b10, .inl (cI, 10, .inl (fun _ => 0))), (b11, .inl (cI, 10, .inl (fun _ => 0)))] := hD
  refine lv_if_eq (tgt := 29) hx hb dX7_loss_4 (by decide) (fun c3 => ?_) (fun c3 => ?_)
  · skip
    have hc3 : ¬ (0 ≤ p0 ∧ p0 ≤ 7) := bz_0 hw2 c3
    refine lv_iconst (v := (-1)) hx hb dX7_loss_29 (by decide) ?_
    refine k_iret (u := []) hx hb hr hlk (k_sub hP [] rfl) (hD.sub [] (by decide) rfl) hS dX7_loss_30 ?_
    exact ⟨pz_f (fun q => hc3 q.1), rfl⟩
  · skip
    have hc3 : 0 ≤ p0 ∧ p0 ≤ 7 := bz_1 hw2 c3
    refine lv_iload_n hx hb dX7_loss_7 rfl (lv_at hl 2 rfl) ?_
    refine lv_iconst (v := 1) hx hb dX7_loss_8 (by decide) ?_
    refine lv_ldc (v := 1000000) hx hb hown (hts _ (List.mem_of_getElem? (i := 1) rfl)) dX7_loss_9 ?_
    refine k_i (va_runS (As := [.int p1, .int 1, .int 1000000]) (rest := []) ⟨hx, hb, hml, hown, hts⟩ (m_X7_within l D cI cJ H.size p1 1 1000000) (va_cwS 3 hts gX7_loss_X7_within rfl rfl rfl (by decide +kernel) ⟨Nat.le_of_ble_eq_true rfl, Nat.le_of_ble_eq_true rfl⟩) (k_pre hE hP hD [] (by decide) rfl) rfl rfl hl.1 rfl (lv_room (Nat.le_of_ble_eq_true rfl)) dX7_loss_11 ⟨Nat.le_of_ble_eq_true rfl, Nat.le_of_ble_eq_true rfl⟩) hP hD hS hA [] [0, 1, 2, 3] rfl (wr := [(x, .inr (7, [.ref x0, .ref x1, .ref x2, .ref x3, .ref x4, .ref x5])), (x0, .inr (0, [.ref b0, .ref b1, .ref b2, .ref b3, .ref b4, .ref b5, .ref b6, .ref b7, .ref b8, .ref b9, .ref b10, .ref b11, .int 0, .int 0, .int 0])), (b10, .inl (cI, 10, .inl (fun _ => 0))), (b11, .inl (cI, 10, .inl (fun _ => 0)))]) rfl (by decide) (by decide) (fun r4 u H locs hw5 hP hD hS => ?_)
    obtain ⟨hw5, rfl⟩ := hw5
    have hP : va_P D vwCl [(x, .inr (7, [.ref x0, .ref x1, .ref x2, .ref x3, .ref x4, .ref x5])), (x0, .inr (0, [.ref b0, .ref b1, .ref b2, .ref b3, .ref b4, .ref b5, .ref b6, .ref b7, .ref b8, .ref b9, .ref b10, .ref b11, .int 0, .int 0, .int 0])), (b10, .inl (cI, 10, .inl (fun _ => 0))), (b11, .inl (cI, 10, .inl (fun _ => 0)))] H := hP
    have hD : va_D A [(x, .inr (7, [.ref x0, .ref x1, .ref x2, .ref x3, .ref x4, .ref x5])), (x0, .inr (0, [.ref b0, .ref b1, .ref b2, .ref b3, .ref b4, .ref b5, .ref b6, .ref b7, .ref b8, .ref b9, .ref b10, .ref b11, .int 0, .int 0, .int 0])), (b10, .inl (cI, 10, .inl (fun _ => 0))), (b11, .inl (cI, 10, .inl (fun _ => 0)))] := hD
    refine lv_if_eq (tgt := 29) hx hb dX7_loss_14 (by decide) (fun c6 => ?_) (fun c6 => ?_)
    · skip
      have hc6 : ¬ (1 ≤ p1 ∧ p1 ≤ 1000000) := bz_0 hw5 c6
      refine lv_iconst (v := (-1)) hx hb dX7_loss_29 (by decide) ?_
      refine k_iret (u := []) hx hb hr hlk (k_sub hP [] rfl) (hD.sub [] (by decide) rfl) hS dX7_loss_30 ?_
      exact ⟨pz_f (fun q => hc6 q.2), rfl⟩
    · skip
      have hc6 : 1 ≤ p1 ∧ p1 ≤ 1000000 := bz_1 hw5 c6
      refine lv_aload_n hx hb dX7_loss_17 rfl (lv_at hl 0 rfl) ?_
      refine va_get (D := D) (ci := 7) (v := .ref x0) (C := RX7) (T := TX7) (N := 6) hx hb hts hiX7 hown hE.1 hP 0 rfl rfl 0 (by decide) (hts _ (List.mem_of_getElem? (i := 2) rfl)) (fun _ h9 => h9) rfl dX7_loss_18 ?_
      refine va_get (D := D) (ci := 0) (v := .int 0) (C := RX0) (T := TX0) (N := 15) hx hb hts hiX0 hown hE.1 hP 1 rfl rfl 13 (by decide) (hts _ (List.mem_of_getElem? (i := 3) rfl)) (fun _ h9 => h9) rfl dX7_loss_21 ?_
      refine lv_bipush (v := 10) hx hb dX7_loss_24 (by decide) ?_
      refine lv_icmp_lt (tgt := 31) hx hb dX7_loss_26 (by decide) (fun _ => ?_) (fun c7 => absurd (by decide) c7)
      refine lv_aload_n hx hb dX7_loss_31 rfl (lv_at hl 0 rfl) ?_
      refine va_get (D := D) (ci := 7) (v := .ref x0) (C := RX7) (T := TX7) (N := 6) hx hb hts hiX7 hown hE.1 hP 0 rfl rfl 0 (by decide) (hts _ (List.mem_of_getElem? (i := 2) rfl)) (fun _ h9 => h9) rfl dX7_loss_32 ?_
      refine va_get (D := D) (ci := 0) (v := .int 0) (C := RX0) (T := TX0) (N := 15) hx hb hts hiX0 hown hE.1 hP 1 rfl rfl 13 (by decide) (hts _ (List.mem_of_getElem? (i := 3) rfl)) (fun _ h9 => h9) rfl dX7_loss_35 ?_
      refine lv_istore_n (lv' := [(3, .int 0), (0, .ref x), (1, .int p0), (2, .int p1)]) hx hb dX7_loss_38 rfl hl (by decide) rfl (fun ls hl => ?_)
      refine lv_aload_n hx hb dX7_loss_39 rfl (lv_at hl 1 rfl) ?_
      refine va_get (D := D) (ci := 7) (v := .ref x0) (C := RX7) (T := TX7) (N := 6) hx hb hts hiX7 hown hE.1 hP 0 rfl rfl 0 (by decide) (hts _ (List.mem_of_getElem? (i := 2) rfl)) (fun _ h9 => h9) rfl dX7_loss_40 ?_
      refine va_get (D := D) (ci := 0) (v := .ref b10) (C := RX0) (T := TX0) (N := 15) hx hb hts hiX0 hown hE.1 hP 1 rfl rfl 10 (by decide) (hts _ (List.mem_of_getElem? (i := 4) rfl)) (fun _ h9 => h9) rfl dX7_loss_43 ?_
      refine lv_iload_n hx hb dX7_loss_46 rfl (lv_at hl 0 rfl) ?_
      refine lv_iload_n hx hb dX7_loss_47 rfl (lv_at hl 2 rfl) ?_
      refine va_iast hx hb hE.1 hP hD hS 2 0 rfl rfl (by unfold vp_in; decide) dX7_loss_48 (fun H locs hP hD hS => ?_)
      have hP : va_P D vwCl [(x, .inr (7, [.ref x0, .ref x1, .ref x2, .ref x3, .ref x4, .ref x5])), (x0, .inr (0, [.ref b0, .ref b1, .ref b2, .ref b3, .ref b4, .ref b5, .ref b6, .ref b7, .ref b8, .ref b9, .ref b10, .ref b11, .int 0, .int 0, .int 0])), (b10, .inl (cI, 10, .inl (upd (fun _ => 0) (Int32.toNatClampNeg 0) p0))), (b11, .inl (cI, 10, .inl (fun _ => 0)))] H := hP
      have hD : va_D A [(x, .inr (7, [.ref x0, .ref x1, .ref x2, .ref x3, .ref x4, .ref x5])), (x0, .inr (0, [.ref b0, .ref b1, .ref b2, .ref b3, .ref b4, .ref b5, .ref b6, .ref b7, .ref b8, .ref b9, .ref b10, .ref b11, .int 0, .int 0, .int 0])), (b10, .inl (cI, 10, .inl (upd (fun _ => 0) (Int32.toNatClampNeg 0) p0))), (b11, .inl (cI, 10, .inl (fun _ => 0)))] := hD
      refine lv_aload_n hx hb dX7_loss_49 rfl (lv_at hl 1 rfl) ?_
      refine va_get (D := D) (ci := 7) (v := .ref x0) (C := RX7) (T := TX7) (N := 6) hx hb hts hiX7 hown hE.1 hP 0 rfl rfl 0 (by decide) (hts _ (List.mem_of_getElem? (i := 2) rfl)) (fun _ h9 => h9) rfl dX7_loss_50 ?_
      refine va_get (D := D) (ci := 0) (v := .ref b11) (C := RX0) (T := TX0) (N := 15) hx hb hts hiX0 hown hE.1 hP 1 rfl rfl 11 (by decide) (hts _ (List.mem_of_getElem? (i := 5) rfl)) (fun _ h9 => h9) rfl dX7_loss_53 ?_
      refine lv_iload_n hx hb dX7_loss_56 rfl (lv_at hl 0 rfl) ?_
      refine lv_iload_n hx hb dX7_loss_57 rfl (lv_at hl 3 rfl) ?_
      refine va_iast hx hb hE.1 hP hD hS 3 0 rfl rfl (by unfold vp_in; decide) dX7_loss_58 (fun H locs hP hD hS => ?_)
      have hP : va_P D vwCl [(x, .inr (7, [.ref x0, .ref x1, .ref x2, .ref x3, .ref x4, .ref x5])), (x0, .inr (0, [.ref b0, .ref b1, .ref b2, .ref b3, .ref b4, .ref b5, .ref b6, .ref b7, .ref b8, .ref b9, .ref b10, .ref b11, .int 0, .int 0, .int 0])), (b10, .inl (cI, 10, .inl (upd (fun _ => 0) (Int32.toNatClampNeg 0) p0))), (b11, .inl (cI, 10, .inl (upd (fun _ => 0) (Int32.toNatClampNeg 0) p1)))] H := hP
      have hD : va_D A [(x, .inr (7, [.ref x0, .ref x1, .ref x2, .ref x3, .ref x4, .ref x5])), (x0, .inr (0, [.ref b0, .ref b1, .ref b2, .ref b3, .ref b4, .ref b5, .ref b6, .ref b7, .ref b8, .ref b9, .ref b10, .ref b11, .int 0, .int 0, .int 0])), (b10, .inl (cI, 10, .inl (upd (fun _ => 0) (Int32.toNatClampNeg 0) p0))), (b11, .inl (cI, 10, .inl (upd (fun _ => 0) (Int32.toNatClampNeg 0) p1)))] := hD
      refine lv_aload_n hx hb dX7_loss_59 rfl (lv_at hl 1 rfl) ?_
      refine va_get (D := D) (ci := 7) (v := .ref x0) (C := RX7) (T := TX7) (N := 6) hx hb hts hiX7 hown hE.1 hP 0 rfl rfl 0 (by decide) (hts _ (List.mem_of_getElem? (i := 2) rfl)) (fun _ h9 => h9) rfl dX7_loss_60 ?_
      refine lv_iload_n hx hb dX7_loss_63 rfl (lv_at hl 0 rfl) ?_
      refine lv_iconst (v := 1) hx hb dX7_loss_64 (by decide) ?_
      refine lv_iadd hx hb dX7_loss_65 ?_
      refine lv_topi (fun v8 ev8 => ?_)
      obtain rfl : v8 = 1 := by rw [ev8]; decide
      refine va_put (D := D) (ci := 0) (v := .int 1) (ty := .int) (C := RX0) (T := TX0) (N := 15) hx hb hts hiX0 tyX0 tyX0_ok nmX0 hown hE.1 hP hD hS 1 rfl rfl 13 (by decide) (hts _ (List.mem_of_getElem? (i := 3) rfl)) (fun _ h9 => h9) rfl (by decide +kernel) rfl rfl (Nat.le_of_ble_eq_true rfl) dX7_loss_66 (fun H locs hP hD hS => ?_)
      have hP : va_P D vwCl [(x, .inr (7, [.ref x0, .ref x1, .ref x2, .ref x3, .ref x4, .ref x5])), (x0, .inr (0, [.ref b0, .ref b1, .ref b2, .ref b3, .ref b4, .ref b5, .ref b6, .ref b7, .ref b8, .ref b9, .ref b10, .ref b11, .int 0, .int 1, .int 0])), (b10, .inl (cI, 10, .inl (upd (fun _ => 0) (Int32.toNatClampNeg 0) p0))), (b11, .inl (cI, 10, .inl (upd (fun _ => 0) (Int32.toNatClampNeg 0) p1)))] H := hP
      have hD : va_D A [(x, .inr (7, [.ref x0, .ref x1, .ref x2, .ref x3, .ref x4, .ref x5])), (x0, .inr (0, [.ref b0, .ref b1, .ref b2, .ref b3, .ref b4, .ref b5, .ref b6, .ref b7, .ref b8, .ref b9, .ref b10, .ref b11, .int 0, .int 1, .int 0])), (b10, .inl (cI, 10, .inl (upd (fun _ => 0) (Int32.toNatClampNeg 0) p0))), (b11, .inl (cI, 10, .inl (upd (fun _ => 0) (Int32.toNatClampNeg 0) p1)))] := hD
      refine lv_iload_n hx hb dX7_loss_69 rfl (lv_at hl 0 rfl) ?_
      refine k_iret (u := []) hx hb hr hlk (k_sub hP [] rfl) (hD.sub [] (by decide) rfl) hS dX7_loss_70 ?_
      exact ⟨pz_t ⟨hc3, hc6⟩, rfl⟩
