theorem wi_t {n lo hi : Int32} (h1 : ¬ n < lo) (h2 : ¬ hi < n) : lo ≤ n ∧ n ≤ hi := ⟨Int32.not_lt.mp h1, Int32.not_lt.mp h2⟩
theorem wi_f1 {n lo hi : Int32} (h1 : n < lo) : ¬ (lo ≤ n ∧ n ≤ hi) := fun h => Int32.not_lt.mpr h.1 h1
theorem wi_f2 {n lo hi : Int32} (h1 : hi < n) : ¬ (lo ≤ n ∧ n ≤ hi) := fun h => Int32.not_lt.mpr h.2 h1
theorem wl_t {n lo hi : Int64} (h1 : ¬ n < lo) (h2 : ¬ hi < n) : lo ≤ n ∧ n ≤ hi := ⟨Int64.not_lt.mp h1, Int64.not_lt.mp h2⟩
theorem wl_f1 {n lo hi : Int64} (h1 : n < lo) : ¬ (lo ≤ n ∧ n ≤ hi) := fun h => Int64.not_lt.mpr h.1 h1
theorem wl_f2 {n lo hi : Int64} (h1 : hi < n) : ¬ (lo ≤ n ∧ n ≤ hi) := fun h => Int64.not_lt.mpr h.2 h1
theorem dX7_within_0 : decode cX7_within 0 = .ok (.iload_n 0, 1) := by decide +kernel
theorem dX7_within_1 : decode cX7_within 1 = .ok (.iload_n 1, 1) := by decide +kernel
theorem dX7_within_2 : decode cX7_within 2 = .ok (.if_icmp .lt 12, 3) := by decide +kernel
theorem dX7_within_5 : decode cX7_within 5 = .ok (.iload_n 0, 1) := by decide +kernel
theorem dX7_within_6 : decode cX7_within 6 = .ok (.iload_n 2, 1) := by decide +kernel
theorem dX7_within_7 : decode cX7_within 7 = .ok (.if_icmp .gt 7, 3) := by decide +kernel
theorem dX7_within_10 : decode cX7_within 10 = .ok (.iconst 1, 1) := by decide +kernel
theorem dX7_within_11 : decode cX7_within 11 = .ok (.goto 4, 3) := by decide +kernel
theorem dX7_within_14 : decode cX7_within 14 = .ok (.iconst 0, 1) := by decide +kernel
theorem dX7_within_15 : decode cX7_within 15 = .ok (.ireturn, 1) := by decide +kernel
set_option maxHeartbeats 4000000 in
set_option maxRecDepth 100000 in
/-- within -/
theorem m_X7_within (l : Launch) (D : va_G) (cI cJ : ClassId) (sz : Nat) (n lo hi : Int32) : Met l yX7_within wtX7_within { frames := 0, cells := 0, slots := 0, locals := 0 } (cPc D cI cJ [.int n, .int lo, .int hi] sz []) (cQi D (fun r u => r = bz (lo ≤ n ∧ n ≤ hi) ∧ u = []) (va_A [] sz)) 0 0 (va_A [] sz) := by
  refine k_ofW (Qc := cQi D (fun r u => r = bz (lo ≤ n ∧ n ≤ hi) ∧ u = [])) (by decide) rfl (Nat.le_of_ble_eq_true rfl) ?_
  intro p e s m below meth c A ls hx hb hr hml hts hown hlk hnm hsz hE hP hD hS hA hl
  have hown : s.vm.findClass RX7 = some m.cls := hown
  have hl : lv_has ls 3 [(0, .int n), (1, .int lo), (2, .int hi)] := hl
  refine lv_iload_n hx hb dX7_within_0 rfl (lv_at hl 0 rfl) ?_
  refine lv_iload_n hx hb dX7_within_1 rfl (lv_at hl 1 rfl) ?_
  refine lv_icmp_lt (tgt := 14) hx hb dX7_within_2 (by decide) (fun c1 => ?_) (fun c1 => ?_)
  · skip
    refine lv_iconst (v := 0) hx hb dX7_within_14 (by decide) ?_
    refine k_zret (u := []) hx hb hr (by decide) hlk hP hD hS dX7_within_15 ?_
    exact ⟨bz_f (wi_f1 c1), rfl⟩
  · skip
    refine lv_iload_n hx hb dX7_within_5 rfl (lv_at hl 0 rfl) ?_
    refine lv_iload_n hx hb dX7_within_6 rfl (lv_at hl 2 rfl) ?_
    refine lv_icmp_gt (tgt := 14) hx hb dX7_within_7 (by decide) (fun c2 => ?_) (fun c2 => ?_)
    · skip
      refine lv_iconst (v := 0) hx hb dX7_within_14 (by decide) ?_
      refine k_zret (u := []) hx hb hr (by decide) hlk hP hD hS dX7_within_15 ?_
      exact ⟨bz_f (wi_f2 c2), rfl⟩
    · skip
      refine lv_iconst (v := 1) hx hb dX7_within_10 (by decide) ?_
      refine lv_goto (tgt := 15) hx hb dX7_within_11 (by decide) ?_
      refine k_zret (u := []) hx hb hr (by decide) hlk hP hD hS dX7_within_15 ?_
      exact ⟨bz_t (wi_t c1 c2), rfl⟩
theorem dX7_has_0 : decode cX7_has 0 = .ok (.iload_n 0, 1) := by decide +kernel
theorem dX7_has_1 : decode cX7_has 1 = .ok (.iload_n 1, 1) := by decide +kernel
theorem dX7_has_2 : decode cX7_has 2 = .ok (.ishr, 1) := by decide +kernel
theorem dX7_has_3 : decode cX7_has 3 = .ok (.iconst 1, 1) := by decide +kernel
theorem dX7_has_4 : decode cX7_has 4 = .ok (.iand, 1) := by decide +kernel
theorem dX7_has_5 : decode cX7_has 5 = .ok (.ifCond .eq 7, 3) := by decide +kernel
theorem dX7_has_8 : decode cX7_has 8 = .ok (.iconst 1, 1) := by decide +kernel
theorem dX7_has_9 : decode cX7_has 9 = .ok (.goto 4, 3) := by decide +kernel
theorem dX7_has_12 : decode cX7_has 12 = .ok (.iconst 0, 1) := by decide +kernel
theorem dX7_has_13 : decode cX7_has 13 = .ok (.ireturn, 1) := by decide +kernel
set_option maxHeartbeats 4000000 in
set_option maxRecDepth 100000 in
/-- has -/
theorem m_X7_has (l : Launch) (D : va_G) (cI cJ : ClassId) (sz : Nat) (set k : Int32) : Met l yX7_has wtX7_has { frames := 0, cells := 0, slots := 0, locals := 0 } (cPc D cI cJ [.int set, .int k] sz []) (cQi D (fun r u => r = bz (¬ (set >>> (k &&& 31)) &&& 1 = 0) ∧ u = []) (va_A [] sz)) 0 0 (va_A [] sz) := by
  refine k_ofW (Qc := cQi D (fun r u => r = bz (¬ (set >>> (k &&& 31)) &&& 1 = 0) ∧ u = [])) (by decide) rfl (Nat.le_of_ble_eq_true rfl) ?_
  intro p e s m below meth c A ls hx hb hr hml hts hown hlk hnm hsz hE hP hD hS hA hl
  have hown : s.vm.findClass RX7 = some m.cls := hown
  have hl : lv_has ls 2 [(0, .int set), (1, .int k)] := hl
  refine lv_iload_n hx hb dX7_has_0 rfl (lv_at hl 0 rfl) ?_
  refine lv_iload_n hx hb dX7_has_1 rfl (lv_at hl 1 rfl) ?_
  refine lv_ishr hx hb dX7_has_2 ?_
  refine lv_iconst (v := 1) hx hb dX7_has_3 (by decide) ?_
  refine lv_iand hx hb dX7_has_4 ?_
  refine lv_if_eq (tgt := 12) hx hb dX7_has_5 (by decide) (fun c1 => ?_) (fun c1 => ?_)
  · skip
    refine lv_iconst (v := 0) hx hb dX7_has_12 (by decide) ?_
    refine k_zret (u := []) hx hb hr (by decide) hlk hP hD hS dX7_has_13 ?_
    exact ⟨bz_f (fun h => h c1), rfl⟩
  · skip
    refine lv_iconst (v := 1) hx hb dX7_has_8 (by decide) ?_
    refine lv_goto (tgt := 13) hx hb dX7_has_9 (by decide) ?_
    refine k_zret (u := []) hx hb hr (by decide) hlk hP hD hS dX7_has_13 ?_
    exact ⟨bz_t c1, rfl⟩
theorem dX7_isItem_0 : decode cX7_isItem 0 = .ok (.iload_n 0, 1) := by decide +kernel
theorem dX7_isItem_1 : decode cX7_isItem 1 = .ok (.iconst 0, 1) := by decide +kernel
theorem dX7_isItem_2 : decode cX7_isItem 2 = .ok (.bipush 7, 2) := by decide +kernel
theorem dX7_isItem_4 : decode cX7_isItem 4 = .ok (.invokestatic 47, 3) := by decide +kernel
theorem dX7_isItem_7 : decode cX7_isItem 7 = .ok (.ireturn, 1) := by decide +kernel
theorem gX7_isItem_X7_within : GoodIn wtX7_isItem (va_wsS RX7 47 yX7_within wtX7_within) := tb_good (tb_s0 wd_164 wd_165 wd_2 wd_166)
set_option maxHeartbeats 4000000 in
set_option maxRecDepth 100000 in
theorem m_X7_isItem (l : Launch) (D : va_G) (cI cJ : ClassId) (sz : Nat) (n : Int32) : Met l yX7_isItem wtX7_isItem { frames := 1, cells := 0, slots := 0, locals := 22 } (cPc D cI cJ [.int n] sz []) (cQi D (fun r u => r = bz (0 ≤ n ∧ n ≤ 7) ∧ u = []) (va_A [] sz)) 0 0 (va_A [] sz) := by
  refine k_ofW (Qc := cQi D (fun r u => r = bz (0 ≤ n ∧ n ≤ 7) ∧ u = [])) (by decide) rfl (Nat.le_of_ble_eq_true rfl) ?_
  intro p e s m below meth c A ls hx hb hr hml hts hown hlk hnm hsz hE hP hD hS hA hl
  have hown : s.vm.findClass RX7 = some m.cls := hown
  have hl : lv_has ls 1 [(0, .int n)] := hl
  refine lv_iload_n hx hb dX7_isItem_0 rfl (lv_at hl 0 rfl) ?_
  refine lv_iconst (v := 0) hx hb dX7_isItem_1 (by decide) ?_
  refine lv_bipush (v := 7) hx hb dX7_isItem_2 (by decide) ?_
  refine k_iS (va_runS (As := [.int n, .int 0, .int 7]) (rest := []) ⟨hx, hb, hml, hown, hts⟩ (m_X7_within l D cI cJ (s.heap).size n 0 7) (va_cwS 3 hts gX7_isItem_X7_within rfl rfl rfl (by decide +kernel) ⟨Nat.le_of_ble_eq_true rfl, Nat.le_of_ble_eq_true rfl⟩) (k_pre hE hP hD [] (by decide +kernel) rfl) rfl rfl hl.1 rfl (lv_room (Nat.le_of_ble_eq_true rfl)) dX7_isItem_4 ⟨Nat.le_of_ble_eq_true rfl, Nat.le_of_ble_eq_true rfl⟩) hP hD hS hA [] rfl (fun _ _ h9 => h9.2) (fun r1 H locs hw2 hP hD hS => ?_)
  obtain ⟨hw2, -⟩ := hw2
  refine k_zret (u := []) hx hb hr (bz_01 hw2) hlk hP hD hS dX7_isItem_7 ?_
  exact ⟨hw2, rfl⟩
theorem dX7_isKind_0 : decode cX7_isKind 0 = .ok (.iload_n 0, 1) := by decide +kernel
theorem dX7_isKind_1 : decode cX7_isKind 1 = .ok (.iconst 0, 1) := by decide +kernel
theorem dX7_isKind_2 : decode cX7_isKind 2 = .ok (.iconst 3, 1) := by decide +kernel
theorem dX7_isKind_3 : decode cX7_isKind 3 = .ok (.invokestatic 47, 3) := by decide +kernel
theorem dX7_isKind_6 : decode cX7_isKind 6 = .ok (.ireturn, 1) := by decide +kernel
theorem gX7_isKind_X7_within : GoodIn wtX7_isKind (va_wsS RX7 47 yX7_within wtX7_within) := tb_good (tb_s0 wd_164 wd_165 wd_2 wd_166)
set_option maxHeartbeats 4000000 in
set_option maxRecDepth 100000 in
theorem m_X7_isKind (l : Launch) (D : va_G) (cI cJ : ClassId) (sz : Nat) (n : Int32) : Met l yX7_isKind wtX7_isKind { frames := 1, cells := 0, slots := 0, locals := 22 } (cPc D cI cJ [.int n] sz []) (cQi D (fun r u => r = bz (0 ≤ n ∧ n ≤ 3) ∧ u = []) (va_A [] sz)) 0 0 (va_A [] sz) := by
  refine k_ofW (Qc := cQi D (fun r u => r = bz (0 ≤ n ∧ n ≤ 3) ∧ u = [])) (by decide) rfl (Nat.le_of_ble_eq_true rfl) ?_
  intro p e s m below meth c A ls hx hb hr hml hts hown hlk hnm hsz hE hP hD hS hA hl
  have hown : s.vm.findClass RX7 = some m.cls := hown
  have hl : lv_has ls 1 [(0, .int n)] := hl
  refine lv_iload_n hx hb dX7_isKind_0 rfl (lv_at hl 0 rfl) ?_
  refine lv_iconst (v := 0) hx hb dX7_isKind_1 (by decide) ?_
  refine lv_iconst (v := 3) hx hb dX7_isKind_2 (by decide) ?_
  refine k_iS (va_runS (As := [.int n, .int 0, .int 3]) (rest := []) ⟨hx, hb, hml, hown, hts⟩ (m_X7_within l D cI cJ (s.heap).size n 0 3) (va_cwS 3 hts gX7_isKind_X7_within rfl rfl rfl (by decide +kernel) ⟨Nat.le_of_ble_eq_true rfl, Nat.le_of_ble_eq_true rfl⟩) (k_pre hE hP hD [] (by decide +kernel) rfl) rfl rfl hl.1 rfl (lv_room (Nat.le_of_ble_eq_true rfl)) dX7_isKind_3 ⟨Nat.le_of_ble_eq_true rfl, Nat.le_of_ble_eq_true rfl⟩) hP hD hS hA [] rfl (fun _ _ h9 => h9.2) (fun r1 H locs hw2 hP hD hS => ?_)
  obtain ⟨hw2, -⟩ := hw2
  refine k_zret (u := []) hx hb hr (bz_01 hw2) hlk hP hD hS dX7_isKind_6 ?_
  exact ⟨hw2, rfl⟩
theorem dX7_isPlace_0 : decode cX7_isPlace 0 = .ok (.iload_n 0, 1) := by decide +kernel
theorem dX7_isPlace_1 : decode cX7_isPlace 1 = .ok (.iconst 0, 1) := by decide +kernel
theorem dX7_isPlace_2 : decode cX7_isPlace 2 = .ok (.iconst 3, 1) := by decide +kernel
theorem dX7_isPlace_3 : decode cX7_isPlace 3 = .ok (.invokestatic 47, 3) := by decide +kernel
theorem dX7_isPlace_6 : decode cX7_isPlace 6 = .ok (.ifCond .eq 17, 3) := by decide +kernel
theorem dX7_isPlace_9 : decode cX7_isPlace 9 = .ok (.iload_n 1, 1) := by decide +kernel
theorem dX7_isPlace_10 : decode cX7_isPlace 10 = .ok (.iconst 0, 1) := by decide +kernel
theorem dX7_isPlace_11 : decode cX7_isPlace 11 = .ok (.bipush 7, 2) := by decide +kernel
theorem dX7_isPlace_13 : decode cX7_isPlace 13 = .ok (.invokestatic 47, 3) := by decide +kernel
theorem dX7_isPlace_16 : decode cX7_isPlace 16 = .ok (.ifCond .eq 7, 3) := by decide +kernel
theorem dX7_isPlace_19 : decode cX7_isPlace 19 = .ok (.iconst 1, 1) := by decide +kernel
theorem dX7_isPlace_20 : decode cX7_isPlace 20 = .ok (.goto 4, 3) := by decide +kernel
theorem dX7_isPlace_23 : decode cX7_isPlace 23 = .ok (.iconst 0, 1) := by decide +kernel
theorem dX7_isPlace_24 : decode cX7_isPlace 24 = .ok (.ireturn, 1) := by decide +kernel
theorem gX7_isPlace_X7_within : GoodIn wtX7_isPlace (va_wsS RX7 47 yX7_within wtX7_within) := tb_good (tb_s0 wd_164 wd_165 wd_2 wd_166)
set_option maxHeartbeats 4000000 in
set_option maxRecDepth 100000 in
theorem m_X7_isPlace (l : Launch) (D : va_G) (cI cJ : ClassId) (sz : Nat) (n k : Int32) : Met l yX7_isPlace wtX7_isPlace { frames := 1, cells := 0, slots := 0, locals := 22 } (cPc D cI cJ [.int n, .int k] sz []) (cQi D (fun r u => r = bz ((0 ≤ n ∧ n ≤ 3) ∧ 0 ≤ k ∧ k ≤ 7) ∧ u = []) (va_A [] sz)) 0 0 (va_A [] sz) := by
  refine k_ofW (Qc := cQi D (fun r u => r = bz ((0 ≤ n ∧ n ≤ 3) ∧ 0 ≤ k ∧ k ≤ 7) ∧ u = [])) (by decide) rfl (Nat.le_of_ble_eq_true rfl) ?_
  intro p e s m below meth c A ls hx hb hr hml hts hown hlk hnm hsz hE hP hD hS hA hl
  have hown : s.vm.findClass RX7 = some m.cls := hown
  have hl : lv_has ls 2 [(0, .int n), (1, .int k)] := hl
  refine lv_iload_n hx hb dX7_isPlace_0 rfl (lv_at hl 0 rfl) ?_
  refine lv_iconst (v := 0) hx hb dX7_isPlace_1 (by decide) ?_
  refine lv_iconst (v := 3) hx hb dX7_isPlace_2 (by decide) ?_
  refine k_iS (va_runS (As := [.int n, .int 0, .int 3]) (rest := []) ⟨hx, hb, hml, hown, hts⟩ (m_X7_within l D cI cJ (s.heap).size n 0 3) (va_cwS 3 hts gX7_isPlace_X7_within rfl rfl rfl (by decide +kernel) ⟨Nat.le_of_ble_eq_true rfl, Nat.le_of_ble_eq_true rfl⟩) (k_pre hE hP hD [] (by decide +kernel) rfl) rfl rfl hl.1 rfl (lv_room (Nat.le_of_ble_eq_true rfl)) dX7_isPlace_3 ⟨Nat.le_of_ble_eq_true rfl, Nat.le_of_ble_eq_true rfl⟩) hP hD hS hA [] rfl (fun _ _ h9 => h9.2) (fun r1 H locs hw2 hP hD hS => ?_)
  obtain ⟨hw2, -⟩ := hw2
  refine lv_if_eq (tgt := 23) hx hb dX7_isPlace_6 (by decide) (fun c3 => ?_) (fun c3 => ?_)
  · skip
    have hc3 : ¬ (0 ≤ n ∧ n ≤ 3) := bz_0 hw2 c3
    refine lv_iconst (v := 0) hx hb dX7_isPlace_23 (by decide) ?_
    refine k_zret (u := []) hx hb hr (by decide) hlk hP hD hS dX7_isPlace_24 ?_
    exact ⟨bz_f (fun q => hc3 q.1), rfl⟩
  · skip
    have hc3 : 0 ≤ n ∧ n ≤ 3 := bz_1 hw2 c3
    refine lv_iload_n hx hb dX7_isPlace_9 rfl (lv_at hl 1 rfl) ?_
    refine lv_iconst (v := 0) hx hb dX7_isPlace_10 (by decide) ?_
    refine lv_bipush (v := 7) hx hb dX7_isPlace_11 (by decide) ?_
    refine k_iS (va_runS (As := [.int k, .int 0, .int 7]) (rest := []) ⟨hx, hb, hml, hown, hts⟩ (m_X7_within l D cI cJ H.size k 0 7) (va_cwS 3 hts gX7_isPlace_X7_within rfl rfl rfl (by decide +kernel) ⟨Nat.le_of_ble_eq_true rfl, Nat.le_of_ble_eq_true rfl⟩) (k_pre hE hP hD [] (by decide +kernel) rfl) rfl rfl hl.1 rfl (lv_room (Nat.le_of_ble_eq_true rfl)) dX7_isPlace_13 ⟨Nat.le_of_ble_eq_true rfl, Nat.le_of_ble_eq_true rfl⟩) hP hD hS hA [] rfl (fun _ _ h9 => h9.2) (fun r4 H locs hw5 hP hD hS => ?_)
    obtain ⟨hw5, -⟩ := hw5
    refine lv_if_eq (tgt := 23) hx hb dX7_isPlace_16 (by decide) (fun c6 => ?_) (fun c6 => ?_)
    · skip
      have hc6 : ¬ (0 ≤ k ∧ k ≤ 7) := bz_0 hw5 c6
      refine lv_iconst (v := 0) hx hb dX7_isPlace_23 (by decide) ?_
      refine k_zret (u := []) hx hb hr (by decide) hlk hP hD hS dX7_isPlace_24 ?_
      exact ⟨bz_f (fun q => hc6 q.2), rfl⟩
    · skip
      have hc6 : 0 ≤ k ∧ k ≤ 7 := bz_1 hw5 c6
      refine lv_iconst (v := 1) hx hb dX7_isPlace_19 (by decide) ?_
      refine lv_goto (tgt := 24) hx hb dX7_isPlace_20 (by decide) ?_
      refine k_zret (u := []) hx hb hr (by decide) hlk hP hD hS dX7_isPlace_24 ?_
      exact ⟨bz_t ⟨hc3, hc6⟩, rfl⟩
theorem dX7_isPolicy_0 : decode cX7_isPolicy 0 = .ok (.iload_n 1, 1) := by decide +kernel
theorem dX7_isPolicy_1 : decode cX7_isPolicy 1 = .ok (.iconst 0, 1) := by decide +kernel
theorem dX7_isPolicy_2 : decode cX7_isPolicy 2 = .ok (.aload_n 0, 1) := by decide +kernel
theorem dX7_isPolicy_3 : decode cX7_isPolicy 3 = .ok (.getfield 20, 3) := by decide +kernel
theorem dX7_isPolicy_6 : decode cX7_isPolicy 6 = .ok (.getfield 53, 3) := by decide +kernel
theorem dX7_isPolicy_9 : decode cX7_isPolicy 9 = .ok (.iconst 1, 1) := by decide +kernel
theorem dX7_isPolicy_10 : decode cX7_isPolicy 10 = .ok (.isub, 1) := by decide +kernel
theorem dX7_isPolicy_11 : decode cX7_isPolicy 11 = .ok (.invokestatic 47, 3) := by decide +kernel
theorem dX7_isPolicy_14 : decode cX7_isPolicy 14 = .ok (.ireturn, 1) := by decide +kernel
theorem gX7_isPolicy_X7_within : GoodIn wtX7_isPolicy (va_wsS RX7 47 yX7_within wtX7_within) := tb_good (tb_s0 wd_164 wd_165 wd_2 wd_166)
set_option maxHeartbeats 4000000 in
set_option maxRecDepth 100000 in
theorem m_X7_isPolicy (l : Launch) (D : va_G) (cI cJ : ClassId) (sz : Nat) (x x0 x1 x2 x3 x4 x5 b0 b1 b2 b3 b4 b5 b6 b7 b8 b9 b10 b11 : Nat) (bi12 bi13 bi14 n : Int32) : Met l yX7_isPolicy wtX7_isPolicy { frames := 1, cells := 0, slots := 0, locals := 22 } (cPc D cI cJ [.ref x, .int n] sz [(oX7 x x0 x1 x2 x3 x4 x5), (oX0 x0 b0 b1 b2 b3 b4 b5 b6 b7 b8 b9 b10 b11 bi12 bi13 bi14)]) (cQi D (fun r u => r = bz (0 ≤ n ∧ n ≤ bi12 - 1) ∧ u = [(oX7 x x0 x1 x2 x3 x4 x5), (oX0 x0 b0 b1 b2 b3 b4 b5 b6 b7 b8 b9 b10 b11 bi12 bi13 bi14)]) (va_A [(oX7 x x0 x1 x2 x3 x4 x5), (oX0 x0 b0 b1 b2 b3 b4 b5 b6 b7 b8 b9 b10 b11 bi12 bi13 bi14)] sz)) 0 0 (va_A [(oX7 x x0 x1 x2 x3 x4 x5), (oX0 x0 b0 b1 b2 b3 b4 b5 b6 b7 b8 b9 b10 b11 bi12 bi13 bi14)] sz) := by
  refine k_ofW (Qc := cQi D (fun r u => r = bz (0 ≤ n ∧ n ≤ bi12 - 1) ∧ u = [(oX7 x x0 x1 x2 x3 x4 x5), (oX0 x0 b0 b1 b2 b3 b4 b5 b6 b7 b8 b9 b10 b11 bi12 bi13 bi14)])) (by decide) rfl (Nat.le_of_ble_eq_true rfl) ?_
  intro p e s m below meth c A ls hx hb hr hml hts hown hlk hnm hsz hE hP hD hS hA hl
  have hown : s.vm.findClass RX7 = some m.cls := hown
  have hiX7 : ∀ w ∈ u_ws RX7 TX7 6, w ∈ wtX7_isPolicy := fun w h => List.mem_cons_of_mem _ (iuX7 w h)
  have hiX0 : ∀ w ∈ u_ws RX0 TX0 15, w ∈ wtX7_isPolicy := fun w h => List.mem_cons_of_mem _ (iuX0 w h)
  have hl : lv_has ls 2 [(0, .ref x), (1, .int n)] := hl
  refine lv_iload_n hx hb dX7_isPolicy_0 rfl (lv_at hl 1 rfl) ?_
  refine lv_iconst (v := 0) hx hb dX7_isPolicy_1 (by decide) ?_
  refine lv_aload_n hx hb dX7_isPolicy_2 rfl (lv_at hl 0 rfl) ?_
  refine va_get (D := D) (ci := 7) (v := .ref x0) (C := RX7) (T := TX7) (N := 6) hx hb hts hiX7 hown hE.1 hP 0 rfl rfl 0 (by decide) (hts _ (List.mem_cons_of_mem _ wd_19)) (fun _ h9 => h9) rfl dX7_isPolicy_3 ?_
  refine va_get (D := D) (ci := 0) (v := .int bi12) (C := RX0) (T := TX0) (N := 15) hx hb hts hiX0 hown hE.1 hP 1 rfl rfl 12 (by decide) (hts _ (List.mem_cons_of_mem _ wd_158)) (fun _ h9 => h9) rfl dX7_isPolicy_6 ?_
  refine lv_iconst (v := 1) hx hb dX7_isPolicy_9 (by decide) ?_
  refine lv_isub hx hb dX7_isPolicy_10 ?_
  refine k_iS (va_runS (As := [.int n, .int 0, .int (bi12 - 1)]) (rest := []) ⟨hx, hb, hml, hown, hts⟩ (m_X7_within l D cI cJ (s.heap).size n 0 (bi12 - 1)) (va_cwS 3 hts gX7_isPolicy_X7_within rfl rfl rfl (by decide +kernel) ⟨Nat.le_of_ble_eq_true rfl, Nat.le_of_ble_eq_true rfl⟩) (k_pre hE hP hD [] (by decide +kernel) rfl) rfl rfl hl.1 rfl (lv_room (Nat.le_of_ble_eq_true rfl)) dX7_isPolicy_11 ⟨Nat.le_of_ble_eq_true rfl, Nat.le_of_ble_eq_true rfl⟩) hP hD hS hA [] rfl (fun _ _ h9 => h9.2) (fun r1 H locs hw2 hP hD hS => ?_)
  obtain ⟨hw2, -⟩ := hw2
  refine k_zret (u := [(oX7 x x0 x1 x2 x3 x4 x5), (oX0 x0 b0 b1 b2 b3 b4 b5 b6 b7 b8 b9 b10 b11 bi12 bi13 bi14)]) hx hb hr (bz_01 hw2) hlk hP hD hS dX7_isPolicy_14 ?_
  exact ⟨hw2, rfl⟩
theorem dX7_isLoss_0 : decode cX7_isLoss 0 = .ok (.iload_n 1, 1) := by decide +kernel
theorem dX7_isLoss_1 : decode cX7_isLoss 1 = .ok (.iconst 0, 1) := by decide +kernel
theorem dX7_isLoss_2 : decode cX7_isLoss 2 = .ok (.aload_n 0, 1) := by decide +kernel
theorem dX7_isLoss_3 : decode cX7_isLoss 3 = .ok (.getfield 20, 3) := by decide +kernel
theorem dX7_isLoss_6 : decode cX7_isLoss 6 = .ok (.getfield 103, 3) := by decide +kernel
theorem dX7_isLoss_9 : decode cX7_isLoss 9 = .ok (.iconst 1, 1) := by decide +kernel
theorem dX7_isLoss_10 : decode cX7_isLoss 10 = .ok (.isub, 1) := by decide +kernel
theorem dX7_isLoss_11 : decode cX7_isLoss 11 = .ok (.invokestatic 47, 3) := by decide +kernel
theorem dX7_isLoss_14 : decode cX7_isLoss 14 = .ok (.ireturn, 1) := by decide +kernel
theorem gX7_isLoss_X7_within : GoodIn wtX7_isLoss (va_wsS RX7 47 yX7_within wtX7_within) := tb_good (tb_s0 wd_164 wd_165 wd_2 wd_166)
set_option maxHeartbeats 4000000 in
set_option maxRecDepth 100000 in
theorem m_X7_isLoss (l : Launch) (D : va_G) (cI cJ : ClassId) (sz : Nat) (x x0 x1 x2 x3 x4 x5 b0 b1 b2 b3 b4 b5 b6 b7 b8 b9 b10 b11 : Nat) (bi12 bi13 bi14 n : Int32) : Met l yX7_isLoss wtX7_isLoss { frames := 1, cells := 0, slots := 0, locals := 22 } (cPc D cI cJ [.ref x, .int n] sz [(oX7 x x0 x1 x2 x3 x4 x5), (oX0 x0 b0 b1 b2 b3 b4 b5 b6 b7 b8 b9 b10 b11 bi12 bi13 bi14)]) (cQi D (fun r u => r = bz (0 ≤ n ∧ n ≤ bi13 - 1) ∧ u = [(oX7 x x0 x1 x2 x3 x4 x5), (oX0 x0 b0 b1 b2 b3 b4 b5 b6 b7 b8 b9 b10 b11 bi12 bi13 bi14)]) (va_A [(oX7 x x0 x1 x2 x3 x4 x5), (oX0 x0 b0 b1 b2 b3 b4 b5 b6 b7 b8 b9 b10 b11 bi12 bi13 bi14)] sz)) 0 0 (va_A [(oX7 x x0 x1 x2 x3 x4 x5), (oX0 x0 b0 b1 b2 b3 b4 b5 b6 b7 b8 b9 b10 b11 bi12 bi13 bi14)] sz) := by
  refine k_ofW (Qc := cQi D (fun r u => r = bz (0 ≤ n ∧ n ≤ bi13 - 1) ∧ u = [(oX7 x x0 x1 x2 x3 x4 x5), (oX0 x0 b0 b1 b2 b3 b4 b5 b6 b7 b8 b9 b10 b11 bi12 bi13 bi14)])) (by decide) rfl (Nat.le_of_ble_eq_true rfl) ?_
  intro p e s m below meth c A ls hx hb hr hml hts hown hlk hnm hsz hE hP hD hS hA hl
  have hown : s.vm.findClass RX7 = some m.cls := hown
  have hiX7 : ∀ w ∈ u_ws RX7 TX7 6, w ∈ wtX7_isLoss := fun w h => List.mem_cons_of_mem _ (iuX7 w h)
  have hiX0 : ∀ w ∈ u_ws RX0 TX0 15, w ∈ wtX7_isLoss := fun w h => List.mem_cons_of_mem _ (iuX0 w h)
  have hl : lv_has ls 2 [(0, .ref x), (1, .int n)] := hl
  refine lv_iload_n hx hb dX7_isLoss_0 rfl (lv_at hl 1 rfl) ?_
  refine lv_iconst (v := 0) hx hb dX7_isLoss_1 (by decide) ?_
  refine lv_aload_n hx hb dX7_isLoss_2 rfl (lv_at hl 0 rfl) ?_
  refine va_get (D := D) (ci := 7) (v := .ref x0) (C := RX7) (T := TX7) (N := 6) hx hb hts hiX7 hown hE.1 hP 0 rfl rfl 0 (by decide) (hts _ (List.mem_cons_of_mem _ wd_19)) (fun _ h9 => h9) rfl dX7_isLoss_3 ?_
  refine va_get (D := D) (ci := 0) (v := .int bi13) (C := RX0) (T := TX0) (N := 15) hx hb hts hiX0 hown hE.1 hP 1 rfl rfl 13 (by decide) (hts _ (List.mem_cons_of_mem _ wd_244)) (fun _ h9 => h9) rfl dX7_isLoss_6 ?_
  refine lv_iconst (v := 1) hx hb dX7_isLoss_9 (by decide) ?_
  refine lv_isub hx hb dX7_isLoss_10 ?_
  refine k_iS (va_runS (As := [.int n, .int 0, .int (bi13 - 1)]) (rest := []) ⟨hx, hb, hml, hown, hts⟩ (m_X7_within l D cI cJ (s.heap).size n 0 (bi13 - 1)) (va_cwS 3 hts gX7_isLoss_X7_within rfl rfl rfl (by decide +kernel) ⟨Nat.le_of_ble_eq_true rfl, Nat.le_of_ble_eq_true rfl⟩) (k_pre hE hP hD [] (by decide +kernel) rfl) rfl rfl hl.1 rfl (lv_room (Nat.le_of_ble_eq_true rfl)) dX7_isLoss_11 ⟨Nat.le_of_ble_eq_true rfl, Nat.le_of_ble_eq_true rfl⟩) hP hD hS hA [] rfl (fun _ _ h9 => h9.2) (fun r1 H locs hw2 hP hD hS => ?_)
  obtain ⟨hw2, -⟩ := hw2
  refine k_zret (u := [(oX7 x x0 x1 x2 x3 x4 x5), (oX0 x0 b0 b1 b2 b3 b4 b5 b6 b7 b8 b9 b10 b11 bi12 bi13 bi14)]) hx hb hr (bz_01 hw2) hlk hP hD hS dX7_isLoss_14 ?_
  exact ⟨hw2, rfl⟩

