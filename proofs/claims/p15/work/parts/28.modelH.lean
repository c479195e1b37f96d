theorem lcv2 {d S : Nat} (hd : d < 2 ^ 31) (hS : S < 2 ^ 31) : Int32.toInt64 (nI d) ≤ lN S ↔ d ≤ S := by
  rw [nI_l hd]; exact lN_le hd hS
theorem nv0_up {f : Nat → Int32} {i : Nat} (hi : i < 8) (h : ∀ k, k < i → f k = 0) : ∀ k, k < i + 1 → upd f (Int32.toNatClampNeg (nI i)) 0 k = 0 := by
  intro k hk
  rw [nI_clamp (by omega)]
  by_cases e : k = i
  · subst e; rw [pk_us]
  · rw [pk_un e]; exact h k (by omega)
theorem dX8_shares_0 : decode cX8_shares 0 = .ok (.aload_n 0, 1) := by decide +kernel
theorem dX8_shares_1 : decode cX8_shares 1 = .ok (.invokevirtual 179, 3) := by decide +kernel
theorem dX8_shares_4 : decode cX8_shares 4 = .ok (.lstore_n 2, 1) := by decide +kernel
theorem dX8_shares_5 : decode cX8_shares 5 = .ok (.lload_n 2, 1) := by decide +kernel
theorem dX8_shares_6 : decode cX8_shares 6 = .ok (.iload_n 1, 1) := by decide +kernel
theorem dX8_shares_7 : decode cX8_shares 7 = .ok (.i2l, 1) := by decide +kernel
theorem dX8_shares_8 : decode cX8_shares 8 = .ok (.lcmp, 1) := by decide +kernel
theorem dX8_shares_9 : decode cX8_shares 9 = .ok (.ifCond .ge 8, 3) := by decide +kernel
theorem dX8_shares_12 : decode cX8_shares 12 = .ok (.lload_n 2, 1) := by decide +kernel
theorem dX8_shares_13 : decode cX8_shares 13 = .ok (.l2i, 1) := by decide +kernel
theorem dX8_shares_14 : decode cX8_shares 14 = .ok (.goto 4, 3) := by decide +kernel
theorem dX8_shares_17 : decode cX8_shares 17 = .ok (.iload_n 1, 1) := by decide +kernel
theorem dX8_shares_18 : decode cX8_shares 18 = .ok (.istore 4, 2) := by decide +kernel
theorem dX8_shares_20 : decode cX8_shares 20 = .ok (.iconst 0, 1) := by decide +kernel
theorem dX8_shares_21 : decode cX8_shares 21 = .ok (.istore 5, 2) := by decide +kernel
theorem dX8_shares_23 : decode cX8_shares 23 = .ok (.iload 5, 2) := by decide +kernel
theorem dX8_shares_25 : decode cX8_shares 25 = .ok (.bipush 8, 2) := by decide +kernel
theorem dX8_shares_27 : decode cX8_shares 27 = .ok (.if_icmp .ge 17, 3) := by decide +kernel
theorem dX8_shares_30 : decode cX8_shares 30 = .ok (.aload_n 0, 1) := by decide +kernel
theorem dX8_shares_31 : decode cX8_shares 31 = .ok (.getfield 91, 3) := by decide +kernel
theorem dX8_shares_34 : decode cX8_shares 34 = .ok (.iload 5, 2) := by decide +kernel
theorem dX8_shares_36 : decode cX8_shares 36 = .ok (.iconst 0, 1) := by decide +kernel
theorem dX8_shares_37 : decode cX8_shares 37 = .ok (.iastore, 1) := by decide +kernel
theorem dX8_shares_38 : decode cX8_shares 38 = .ok (.iinc 5 1, 3) := by decide +kernel
theorem dX8_shares_41 : decode cX8_shares 41 = .ok (.goto (-18), 3) := by decide +kernel
theorem dX8_shares_44 : decode cX8_shares 44 = .ok (.lload_n 2, 1) := by decide +kernel
theorem dX8_shares_45 : decode cX8_shares 45 = .ok (.lconst 0, 1) := by decide +kernel
theorem dX8_shares_46 : decode cX8_shares 46 = .ok (.lcmp, 1) := by decide +kernel
theorem dX8_shares_47 : decode cX8_shares 47 = .ok (.ifCond .le 20, 3) := by decide +kernel
theorem dX8_shares_50 : decode cX8_shares 50 = .ok (.aload_n 0, 1) := by decide +kernel
theorem dX8_shares_51 : decode cX8_shares 51 = .ok (.getfield 151, 3) := by decide +kernel
theorem dX8_shares_54 : decode cX8_shares 54 = .ok (.ifCond .ne 13, 3) := by decide +kernel
theorem dX8_shares_57 : decode cX8_shares 57 = .ok (.aload_n 0, 1) := by decide +kernel
theorem dX8_shares_58 : decode cX8_shares 58 = .ok (.iload 4, 2) := by decide +kernel
theorem dX8_shares_60 : decode cX8_shares 60 = .ok (.lload_n 2, 1) := by decide +kernel
theorem dX8_shares_61 : decode cX8_shares 61 = .ok (.invokevirtual 183, 3) := by decide +kernel
theorem dX8_shares_64 : decode cX8_shares 64 = .ok (.goto 15, 3) := by decide +kernel
theorem dX8_shares_67 : decode cX8_shares 67 = .ok (.lload_n 2, 1) := by decide +kernel
theorem dX8_shares_68 : decode cX8_shares 68 = .ok (.lconst 0, 1) := by decide +kernel
theorem dX8_shares_69 : decode cX8_shares 69 = .ok (.lcmp, 1) := by decide +kernel
theorem dX8_shares_70 : decode cX8_shares 70 = .ok (.ifCond .le 9, 3) := by decide +kernel
theorem dX8_shares_73 : decode cX8_shares 73 = .ok (.aload_n 0, 1) := by decide +kernel
theorem dX8_shares_74 : decode cX8_shares 74 = .ok (.iload 4, 2) := by decide +kernel
theorem dX8_shares_76 : decode cX8_shares 76 = .ok (.invokevirtual 187, 3) := by decide +kernel
theorem dX8_shares_79 : decode cX8_shares 79 = .ok (.iload 4, 2) := by decide +kernel
theorem dX8_shares_81 : decode cX8_shares 81 = .ok (.ireturn, 1) := by decide +kernel
theorem gX8_shares_X8_byCaps : GoodIn wtX8_shares (wsV RX8 183 RX8 yX8_byCaps wtX8_byCaps) := tb_good (tb_v0 wd_458 wd_459 wd_460 wd_5 wd_461)
theorem gX8_shares_X8_bySteps : GoodIn wtX8_shares (wsV RX8 187 RX8 yX8_bySteps wtX8_bySteps) := tb_good (tb_v0 wd_462 wd_463 wd_464 wd_5 wd_465)
theorem gX8_shares_X8_capSum : GoodIn wtX8_shares (wsV RX8 179 RX8 yX8_capSum wtX8_capSum) := tb_good (tb_v0 wd_454 wd_455 wd_456 wd_5 wd_457)
set_option maxHeartbeats 4000000 in
set_option maxRecDepth 100000 in
theorem m_X8_shares (l : Launch) (D : va_G) (cI cJ : ClassId) (sz : Nat) (g g2 g3 g4 g5 g6 g7 g8 g9 g10 g12 g13 g15 g16 g17 g19 g20 g21 g22 g23 g24 g25 g26 g27 g28 g33 g34 g35 g36 g37 g38 g39 g41 g42 g44 g45 mu0 mn ml mv : Nat) (gi0 gi14 gi18 gi29 gi30 gi32 gi40 gi43 : Int32) (G35 G36 : Nat → Int32) (G37 : Nat → Int64) (c0 : Nat → Nat) (hcv : nv G35 c0) (hcb : ∀ k, k < 8 → c0 k ≤ 1000000) (hmu : mu0 ≤ 100000000) : Met l yX8_shares wtX8_shares { frames := 4, cells := 0, slots := 0, locals := 94 } (cPc D cI cJ [.ref g, .int (nI mu0)] sz [(oX8 g gi0 (nI mn) g2 g3 g4 g5 g6 g7 g8 g9 g10 (nI ml) g12 g13 gi14 g15 g16 g17 gi18 g19 g20 g21 g22 g23 g24 g25 g26 g27 g28 gi29 gi30 (nI mv) gi32 g33 g34 g35 g36 g37 g38 g39 gi40 g41 g42 gi43 g44 g45), (aIc cI g35 8 G35), (aIc cI g36 8 G36), (aJc cJ g37 8 G37)]) (cQi D (fun r u => ∃ (G36p : Nat → Int32) (G37p : Nat → Int64), (∃ pt : Nat → Nat, nv G36p pt ∧ sm pt 8 = min (sm c0 8) mu0 ∧ ∀ k, k < 8 → pt k ≤ c0 k) ∧ r = (nI (min (sm c0 8) mu0)) ∧ u = [(oX8 g gi0 (nI mn) g2 g3 g4 g5 g6 g7 g8 g9 g10 (nI ml) g12 g13 gi14 g15 g16 g17 gi18 g19 g20 g21 g22 g23 g24 g25 g26 g27 g28 gi29 gi30 (nI mv) gi32 g33 g34 g35 g36 g37 g38 g39 gi40 g41 g42 gi43 g44 g45), (aIc cI g35 8 G35), (aIc cI g36 8 G36p), (aJc cJ g37 8 G37p)]) (va_A [(oX8 g gi0 (nI mn) g2 g3 g4 g5 g6 g7 g8 g9 g10 (nI ml) g12 g13 gi14 g15 g16 g17 gi18 g19 g20 g21 g22 g23 g24 g25 g26 g27 g28 gi29 gi30 (nI mv) gi32 g33 g34 g35 g36 g37 g38 g39 gi40 g41 g42 gi43 g44 g45), (aIc cI g35 8 G35), (aIc cI g36 8 G36), (aJc cJ g37 8 G37)] sz)) 0 0 (va_A [(oX8 g gi0 (nI mn) g2 g3 g4 g5 g6 g7 g8 g9 g10 (nI ml) g12 g13 gi14 g15 g16 g17 gi18 g19 g20 g21 g22 g23 g24 g25 g26 g27 g28 gi29 gi30 (nI mv) gi32 g33 g34 g35 g36 g37 g38 g39 gi40 g41 g42 gi43 g44 g45), (aIc cI g35 8 G35), (aIc cI g36 8 G36), (aJc cJ g37 8 G37)] sz) := by
  refine k_ofW (Qc := cQi D (fun r u => ∃ (G36p : Nat → Int32) (G37p : Nat → Int64), (∃ pt : Nat → Nat, nv G36p pt ∧ sm pt 8 = min (sm c0 8) mu0 ∧ ∀ k, k < 8 → pt k ≤ c0 k) ∧ r = (nI (min (sm c0 8) mu0)) ∧ u = [(oX8 g gi0 (nI mn) g2 g3 g4 g5 g6 g7 g8 g9 g10 (nI ml) g12 g13 gi14 g15 g16 g17 gi18 g19 g20 g21 g22 g23 g24 g25 g26 g27 g28 gi29 gi30 (nI mv) gi32 g33 g34 g35 g36 g37 g38 g39 gi40 g41 g42 gi43 g44 g45), (aIc cI g35 8 G35), (aIc cI g36 8 G36p), (aJc cJ g37 8 G37p)])) (by decide) rfl (Nat.le_of_ble_eq_true rfl) ?_
  intro p e s m below meth c A ls hx hb hr hml hts hown hlk hnm hsz hE hP hD hS hA hl
  have hown : s.vm.findClass RX8 = some m.cls := hown
  have hiX8 : ∀ w ∈ u_ws RX8 TX8 46, w ∈ wtX8_shares := fun w h => List.mem_cons_of_mem _ (iuX8 w h)
  have hl : lv_has ls 6 [(0, .ref g), (1, .int (nI mu0))] := hl
  refine lv_aload_n hx hb dX8_shares_0 rfl (lv_at hl 0 rfl) ?_
  refine k_lS (va_runV (As := []) (rest := []) ⟨hx, hb, hml, hown, hts⟩ (m_X8_capSum l D cI cJ (s.heap).size g g2 g3 g4 g5 g6 g7 g8 g9 g10 g12 g13 g15 g16 g17 g19 g20 g21 g22 g23 g24 g25 g26 g27 g28 g33 g34 g35 g36 g37 g38 g39 g41 g42 g44 g45 mn ml mv gi0 gi14 gi18 gi29 gi30 gi32 gi40 gi43 G35 c0 hcv hcb) (cwV 0 hts gX8_shares_X8_capSum rfl rfl rfl (by decide +kernel) ⟨Nat.le_of_ble_eq_true rfl, Nat.le_of_ble_eq_true rfl⟩) (k_preV hE hP hD [0, 1] (by decide +kernel) rfl 0 rfl rfl) rfl rfl hl.1 rfl (lv_room (Nat.le_of_ble_eq_true rfl)) dX8_shares_1 ⟨Nat.le_of_ble_eq_true rfl, Nat.le_of_ble_eq_true rfl⟩) hP hD hS hA [0, 1] rfl (fun _ _ ⟨_, h9⟩ => h9) (fun r1 H locs hw2 hP hD hS => ?_)
  obtain ⟨rfl, -⟩ := hw2
  refine lv_lstore_n (lv' := [(2, .long (lN (sm c0 8))), (0, .ref g), (1, .int (nI mu0))]) hx hb dX8_shares_4 rfl hl (by decide) rfl (fun ls hl => ?_)
  refine lv_lload_n hx hb dX8_shares_5 rfl (lv_at hl 0 rfl) ?_
  refine lv_iload_n hx hb dX8_shares_6 rfl (lv_at hl 2 rfl) ?_
  refine lv_i2l hx hb dX8_shares_7 rfl ?_
  refine k_lcmp_ge (tgt := 17) hx hb dX8_shares_8 dX8_shares_9 (by decide) (fun c3 => ?_) (fun c3 => ?_)
  · skip
    refine lv_iload_n hx hb dX8_shares_17 rfl (lv_at hl 2 rfl) ?_
    refine lv_istore (lv' := [(4, .int (nI mu0)), (2, .long (lN (sm c0 8))), (0, .ref g), (1, .int (nI mu0))]) hx hb dX8_shares_18 hl (by decide) rfl (fun ls hl => ?_)
    have hSb : sm c0 8 ≤ 8000000 := sm_bound (c := 1000000) hcb
    have hge : mu0 ≤ sm c0 8 := (lcv2 (by omega) (by omega)).mp c3
    have hdm : min (sm c0 8) mu0 = mu0 := Nat.min_eq_right hge
    refine lv_iconst (v := 0) hx hb dX8_shares_20 (by decide) ?_
    refine lv_istore (lv' := [(5, .int 0), (4, .int (nI mu0)), (2, .long (lN (sm c0 8))), (0, .ref g), (1, .int (nI mu0))]) hx hb dX8_shares_21 hl (by decide) rfl (fun ls hl => ?_)
    have J23 : ∀ (zz : Nat) (i23 : Nat) (a_g36_23 : Nat → Int32), (i23 ≤ 8) → (∀ k, k < i23 → a_g36_23 k = 0) → (8 - i23) < zz → ∀ (H : Heap) (locs : List Loc) (ls : Array Slot), va_P D vwCl [(oX8 g gi0 (nI mn) g2 g3 g4 g5 g6 g7 g8 g9 g10 (nI ml) g12 g13 gi14 g15 g16 g17 gi18 g19 g20 g21 g22 g23 g24 g25 g26 g27 g28 gi29 gi30 (nI mv) gi32 g33 g34 g35 g36 g37 g38 g39 gi40 g41 g42 gi43 g44 g45), (aIc cI g35 8 G35), (aIc cI g36 8 a_g36_23), (aJc cJ g37 8 G37)] H → va_D A [(oX8 g gi0 (nI mn) g2 g3 g4 g5 g6 g7 g8 g9 g10 (nI ml) g12 g13 gi14 g15 g16 g17 gi18 g19 g20 g21 g22 g23 g24 g25 g26 g27 g28 gi29 gi30 (nI mv) gi32 g33 g34 g35 g36 g37 g38 g39 gi40 g41 g42 gi43 g44 g45), (aIc cI g35 8 G35), (aIc cI g36 8 a_g36_23), (aJc cJ g37 8 G37)] → va_S A s.heap H locs → lv_has ls 6 [(5, .int (nI i23)), (4, .int (nI mu0)), (2, .long (lN (sm c0 8))), (0, .ref g), (1, .int (nI mu0))] → W p l e { frames := 4, cells := 0, slots := 0, locals := 94 } s m [.ref g, .int (nI mu0)].toArray below meth c H locs 0 0 (MQ below (cQi D (fun r u => ∃ (G36p : Nat → Int32) (G37p : Nat → Int64), (∃ pt : Nat → Nat, nv G36p pt ∧ sm pt 8 = min (sm c0 8) mu0 ∧ ∀ k, k < 8 → pt k ≤ c0 k) ∧ r = (nI (min (sm c0 8) mu0)) ∧ u = [(oX8 g gi0 (nI mn) g2 g3 g4 g5 g6 g7 g8 g9 g10 (nI ml) g12 g13 gi14 g15 g16 g17 gi18 g19 g20 g21 g22 g23 g24 g25 g26 g27 g28 gi29 gi30 (nI mv) gi32 g33 g34 g35 g36 g37 g38 g39 gi40 g41 g42 gi43 g44 g45), (aIc cI g35 8 G35), (aIc cI g36 8 G36p), (aJc cJ g37 8 G37p)]) A) [.ref g, .int (nI mu0)].toArray s 0 0 A) (F0 m 23 ls []) := by
      intro zz
      induction zz with
      | zero => intro i23 a_g36_23 _ _; exact fun h => absurd h (Nat.not_lt_zero _)
      | succ zz ih23 =>
        intro i23 a_g36_23 hc5_23 hz8_23 hmu23 H locs ls hP hD hS hl
        refine lv_iload hx hb dX8_shares_23 (lv_at hl 0 rfl) ?_
        refine lv_bipush (v := 8) hx hb dX8_shares_25 (by decide) ?_
        refine lv_icmp_ge (tgt := 44) hx hb dX8_shares_27 (by decide) (fun c4 => ?_) (fun c4 => ?_)
        · skip
          have nc4 : 8 ≤ i23 := (nI_leI (a := 8) (b := i23) (by omega) (by omega)).mp c4
          refine lv_lload_n hx hb dX8_shares_44 rfl (lv_at hl 2 rfl) ?_
          refine lv_lconst (v := 0) hx hb dX8_shares_45 (by decide) ?_
          refine k_lcmp_le (tgt := 67) hx hb dX8_shares_46 dX8_shares_47 (by decide) (fun c5 => ?_) (fun c5 => ?_)
          · skip
            have hs0 : sm c0 8 ≤ 0 := (lN_le (by omega) (by decide)).mp c5
            refine lv_lload_n hx hb dX8_shares_67 rfl (lv_at hl 2 rfl) ?_
            refine lv_lconst (v := 0) hx hb dX8_shares_68 (by decide) ?_
            refine k_lcmp_le (tgt := 79) hx hb dX8_shares_69 dX8_shares_70 (by decide) (fun c6 => ?_) (fun c6 => ?_)
            · skip
              have hs1 : sm c0 8 ≤ 0 := (lN_le (by omega) (by decide)).mp c6
              refine lv_iload hx hb dX8_shares_79 (lv_at hl 1 rfl) ?_
              refine k_iret (u := [(oX8 g gi0 (nI mn) g2 g3 g4 g5 g6 g7 g8 g9 g10 (nI ml) g12 g13 gi14 g15 g16 g17 gi18 g19 g20 g21 g22 g23 g24 g25 g26 g27 g28 gi29 gi30 (nI mv) gi32 g33 g34 g35 g36 g37 g38 g39 gi40 g41 g42 gi43 g44 g45), (aIc cI g35 8 G35), (aIc cI g36 8 a_g36_23), (aJc cJ g37 8 G37)]) hx hb hr hlk hP hD hS dX8_shares_81 ?_
              exact ⟨a_g36_23, G37, (by rw [hdm]; exact ⟨fun _ => 0, fun k hk => hz8_23 k (by omega), by rw [sm_zero]; omega, fun k _ => Nat.zero_le _⟩), (by rw [hdm]), rfl⟩
            · skip
              refine lv_aload_n hx hb dX8_shares_73 rfl (lv_at hl 3 rfl) ?_
              refine lv_iload hx hb dX8_shares_74 (lv_at hl 1 rfl) ?_
              refine k_v (va_runV (As := [.int (nI mu0)]) (rest := []) ⟨hx, hb, hml, hown, hts⟩ (m_X8_bySteps l D cI cJ H.size g g2 g3 g4 g5 g6 g7 g8 g9 g10 g12 g13 g15 g16 g17 g19 g20 g21 g22 g23 g24 g25 g26 g27 g28 g33 g34 g35 g36 g37 g38 g39 g41 g42 g44 g45 mu0 mn ml mv gi0 gi14 gi18 gi29 gi30 gi32 gi40 gi43 G35 a_g36_23 c0 hcv hcb (by omega) (by omega)) (cwV 1 hts gX8_shares_X8_bySteps rfl rfl rfl (by decide +kernel) ⟨Nat.le_of_ble_eq_true rfl, Nat.le_of_ble_eq_true rfl⟩) (k_preV hE hP hD [0, 1, 2] (by decide +kernel) rfl 0 rfl rfl) rfl rfl hl.1 rfl (lv_room (Nat.le_of_ble_eq_true rfl)) dX8_shares_76 ⟨Nat.le_of_ble_eq_true rfl, Nat.le_of_ble_eq_true rfl⟩) hP hD hS hA [0, 1, 2] [3] rfl (wr := [(aJc cJ g37 8 G37)]) rfl (by decide +kernel) (by decide +kernel) (fun u H locs hw7 hP hD hS => ?_)
              obtain ⟨z8, hz9, rfl⟩ := hw7
              refine k_re (w := [(aJc cJ g37 8 G37), (oX8 g gi0 (nI mn) g2 g3 g4 g5 g6 g7 g8 g9 g10 (nI ml) g12 g13 gi14 g15 g16 g17 gi18 g19 g20 g21 g22 g23 g24 g25 g26 g27 g28 gi29 gi30 (nI mv) gi32 g33 g34 g35 g36 g37 g38 g39 gi40 g41 g42 gi43 g44 g45), (aIc cI g35 8 G35), (aIc cI g36 8 z8)]) hP hD (fun hP hD => ?_)
              refine lv_iload hx hb dX8_shares_79 (lv_at hl 1 rfl) ?_
              refine k_iret (u := [(oX8 g gi0 (nI mn) g2 g3 g4 g5 g6 g7 g8 g9 g10 (nI ml) g12 g13 gi14 g15 g16 g17 gi18 g19 g20 g21 g22 g23 g24 g25 g26 g27 g28 gi29 gi30 (nI mv) gi32 g33 g34 g35 g36 g37 g38 g39 gi40 g41 g42 gi43 g44 g45), (aIc cI g35 8 G35), (aIc cI g36 8 z8), (aJc cJ g37 8 G37)]) hx hb hr hlk (k_sub hP [1, 2, 3, 0] rfl) (hD.sub [1, 2, 3, 0] (by decide +kernel) rfl) hS dX8_shares_81 ?_
              exact ⟨z8, G37, (by rw [hdm]; exact hz9), (by rw [hdm]), rfl⟩
          · skip
            have hs0 : ¬ sm c0 8 ≤ 0 := fun q => c5 ((lN_le (by omega) (by decide)).mpr q)
            refine lv_aload_n hx hb dX8_shares_50 rfl (lv_at hl 3 rfl) ?_
            refine va_get (D := D) (ci := 8) (v := .int gi14) (C := RX8) (T := TX8) (N := 46) hx hb hts hiX8 hown hE.1 hP 0 rfl rfl 14 (by decide) (hts _ (List.mem_cons_of_mem _ wd_269)) (fun _ h9 => h9) rfl dX8_shares_51 ?_
            refine lv_if_ne (tgt := 67) hx hb dX8_shares_54 (by decide) (fun c10 => ?_) (fun c10 => ?_)
            · skip
              have hs0 : ¬ sm c0 8 ≤ 0 := fun q => c5 ((lN_le (by omega) (by decide)).mpr q)
              refine lv_lload_n hx hb dX8_shares_67 rfl (lv_at hl 2 rfl) ?_
              refine lv_lconst (v := 0) hx hb dX8_shares_68 (by decide) ?_
              refine k_lcmp_le (tgt := 79) hx hb dX8_shares_69 dX8_shares_70 (by decide) (fun c11 => ?_) (fun c11 => ?_)
              · skip
                have hs1 : sm c0 8 ≤ 0 := (lN_le (by omega) (by decide)).mp c11
                refine lv_iload hx hb dX8_shares_79 (lv_at hl 1 rfl) ?_
                refine k_iret (u := [(oX8 g gi0 (nI mn) g2 g3 g4 g5 g6 g7 g8 g9 g10 (nI ml) g12 g13 gi14 g15 g16 g17 gi18 g19 g20 g21 g22 g23 g24 g25 g26 g27 g28 gi29 gi30 (nI mv) gi32 g33 g34 g35 g36 g37 g38 g39 gi40 g41 g42 gi43 g44 g45), (aIc cI g35 8 G35), (aIc cI g36 8 a_g36_23), (aJc cJ g37 8 G37)]) hx hb hr hlk hP hD hS dX8_shares_81 ?_
                exact ⟨a_g36_23, G37, (by rw [hdm]; exact ⟨fun _ => 0, fun k hk => hz8_23 k (by omega), by rw [sm_zero]; omega, fun k _ => Nat.zero_le _⟩), (by rw [hdm]), rfl⟩
              · skip
                refine lv_aload_n hx hb dX8_shares_73 rfl (lv_at hl 3 rfl) ?_
                refine lv_iload hx hb dX8_shares_74 (lv_at hl 1 rfl) ?_
                refine k_v (va_runV (As := [.int (nI mu0)]) (rest := []) ⟨hx, hb, hml, hown, hts⟩ (m_X8_bySteps l D cI cJ H.size g g2 g3 g4 g5 g6 g7 g8 g9 g10 g12 g13 g15 g16 g17 g19 g20 g21 g22 g23 g24 g25 g26 g27 g28 g33 g34 g35 g36 g37 g38 g39 g41 g42 g44 g45 mu0 mn ml mv gi0 gi14 gi18 gi29 gi30 gi32 gi40 gi43 G35 a_g36_23 c0 hcv hcb (by omega) (by omega)) (cwV 1 hts gX8_shares_X8_bySteps rfl rfl rfl (by decide +kernel) ⟨Nat.le_of_ble_eq_true rfl, Nat.le_of_ble_eq_true rfl⟩) (k_preV hE hP hD [0, 1, 2] (by decide +kernel) rfl 0 rfl rfl) rfl rfl hl.1 rfl (lv_room (Nat.le_of_ble_eq_true rfl)) dX8_shares_76 ⟨Nat.le_of_ble_eq_true rfl, Nat.le_of_ble_eq_true rfl⟩) hP hD hS hA [0, 1, 2] [3] rfl (wr := [(aJc cJ g37 8 G37)]) rfl (by decide +kernel) (by decide +kernel) (fun u H locs hw12 hP hD hS => ?_)
                obtain ⟨z13, hz14, rfl⟩ := hw12
                refine k_re (w := [(aJc cJ g37 8 G37), (oX8 g gi0 (nI mn) g2 g3 g4 g5 g6 g7 g8 g9 g10 (nI ml) g12 g13 gi14 g15 g16 g17 gi18 g19 g20 g21 g22 g23 g24 g25 g26 g27 g28 gi29 gi30 (nI mv) gi32 g33 g34 g35 g36 g37 g38 g39 gi40 g41 g42 gi43 g44 g45), (aIc cI g35 8 G35), (aIc cI g36 8 z13)]) hP hD (fun hP hD => ?_)
                refine lv_iload hx hb dX8_shares_79 (lv_at hl 1 rfl) ?_
                refine k_iret (u := [(oX8 g gi0 (nI mn) g2 g3 g4 g5 g6 g7 g8 g9 g10 (nI ml) g12 g13 gi14 g15 g16 g17 gi18 g19 g20 g21 g22 g23 g24 g25 g26 g27 g28 gi29 gi30 (nI mv) gi32 g33 g34 g35 g36 g37 g38 g39 gi40 g41 g42 gi43 g44 g45), (aIc cI g35 8 G35), (aIc cI g36 8 z13), (aJc cJ g37 8 G37)]) hx hb hr hlk (k_sub hP [1, 2, 3, 0] rfl) (hD.sub [1, 2, 3, 0] (by decide +kernel) rfl) hS dX8_shares_81 ?_
                exact ⟨z13, G37, (by rw [hdm]; exact hz14), (by rw [hdm]), rfl⟩
            · skip
              refine lv_aload_n hx hb dX8_shares_57 rfl (lv_at hl 3 rfl) ?_
              refine lv_iload hx hb dX8_shares_58 (lv_at hl 1 rfl) ?_
              refine lv_lload_n hx hb dX8_shares_60 rfl (lv_at hl 2 rfl) ?_
              refine k_v (va_runV (As := [.int (nI mu0), .long (lN (sm c0 8))]) (rest := []) ⟨hx, hb, hml, hown, hts⟩ (m_X8_byCaps l D cI cJ H.size g g2 g3 g4 g5 g6 g7 g8 g9 g10 g12 g13 g15 g16 g17 g19 g20 g21 g22 g23 g24 g25 g26 g27 g28 g33 g34 g35 g36 g37 g38 g39 g41 g42 g44 g45 mu0 mn ml mv gi0 gi14 gi18 gi29 gi30 gi32 gi40 gi43 G35 a_g36_23 G37 c0 hcv hcb (by omega) (by omega) (by omega) (by omega)) (cwV 2 hts gX8_shares_X8_byCaps rfl rfl rfl (by decide +kernel) ⟨Nat.le_of_ble_eq_true rfl, Nat.le_of_ble_eq_true rfl⟩) (k_preV hE hP hD [0, 1, 2, 3] (by decide +kernel) rfl 0 rfl rfl) rfl rfl hl.1 rfl (lv_room (Nat.le_of_ble_eq_true rfl)) dX8_shares_61 ⟨Nat.le_of_ble_eq_true rfl, Nat.le_of_ble_eq_true rfl⟩) hP hD hS hA [0, 1, 2, 3] [] rfl (wr := []) rfl (by decide +kernel) (by decide +kernel) (fun u H locs hw15 hP hD hS => ?_)
              obtain ⟨z16, z17, hz18, rfl⟩ := hw15
              refine k_re (w := [(oX8 g gi0 (nI mn) g2 g3 g4 g5 g6 g7 g8 g9 g10 (nI ml) g12 g13 gi14 g15 g16 g17 gi18 g19 g20 g21 g22 g23 g24 g25 g26 g27 g28 gi29 gi30 (nI mv) gi32 g33 g34 g35 g36 g37 g38 g39 gi40 g41 g42 gi43 g44 g45), (aIc cI g35 8 G35), (aIc cI g36 8 z16), (aJc cJ g37 8 z17)]) hP hD (fun hP hD => ?_)
              refine lv_goto (tgt := 79) hx hb dX8_shares_64 (by decide) ?_
              refine lv_iload hx hb dX8_shares_79 (lv_at hl 1 rfl) ?_
              refine k_iret (u := [(oX8 g gi0 (nI mn) g2 g3 g4 g5 g6 g7 g8 g9 g10 (nI ml) g12 g13 gi14 g15 g16 g17 gi18 g19 g20 g21 g22 g23 g24 g25 g26 g27 g28 gi29 gi30 (nI mv) gi32 g33 g34 g35 g36 g37 g38 g39 gi40 g41 g42 gi43 g44 g45), (aIc cI g35 8 G35), (aIc cI g36 8 z16), (aJc cJ g37 8 z17)]) hx hb hr hlk hP hD hS dX8_shares_81 ?_
              exact ⟨z16, z17, (by rw [hdm]; exact hz18), (by rw [hdm]), rfl⟩
        · skip
          have nc4 : ¬ 8 ≤ i23 := fun q9 => c4 ((nI_leI (a := 8) (b := i23) (by omega) (by omega)).mpr q9)
          refine lv_aload_n hx hb dX8_shares_30 rfl (lv_at hl 3 rfl) ?_
          refine va_get (D := D) (ci := 8) (v := .ref g36) (C := RX8) (T := TX8) (N := 46) hx hb hts hiX8 hown hE.1 hP 0 rfl rfl 36 (by decide) (hts _ (List.mem_cons_of_mem _ wd_143)) (fun _ h9 => h9) rfl dX8_shares_31 ?_
          refine lv_iload hx hb dX8_shares_34 (lv_at hl 0 rfl) ?_
          refine lv_iconst (v := 0) hx hb dX8_shares_36 (by decide) ?_
          refine va_iast hx hb hE.1 hP hD hS 2 0 rfl rfl (vp_in_nI (n := i23) (by omega) (by decide)) dX8_shares_37 (fun H locs hP hD hS => ?_)
          refine k_re (w := [(oX8 g gi0 (nI mn) g2 g3 g4 g5 g6 g7 g8 g9 g10 (nI ml) g12 g13 gi14 g15 g16 g17 gi18 g19 g20 g21 g22 g23 g24 g25 g26 g27 g28 gi29 gi30 (nI mv) gi32 g33 g34 g35 g36 g37 g38 g39 gi40 g41 g42 gi43 g44 g45), (aIc cI g35 8 G35), (aIc cI g36 8 (upd a_g36_23 (Int32.toNatClampNeg (nI i23)) 0)), (aJc cJ g37 8 G37)]) hP hD (fun hP hD => ?_)
          refine lv_iinc (v := (nI (i23 + 1))) (lv' := [(5, .int (nI (i23 + 1))), (4, .int (nI mu0)), (2, .long (lN (sm c0 8))), (0, .ref g), (1, .int (nI mu0))]) hx hb dX8_shares_38 hl (k := 0) rfl (nI_1 _) (by decide) rfl (fun ls hl => ?_)
          refine lv_goto (tgt := 23) hx hb dX8_shares_41 (by decide) ?_
          exact ih23 (i23 + 1) (upd a_g36_23 (Int32.toNatClampNeg (nI i23)) 0) (by omega) (nv0_up (by omega) hz8_23) (by omega) _ _ _ hP hD hS (lv_sub hl [0, 1, 2, 3, 4] rfl)
    exact J23 _ 0 G36 (by omega) (fun k hk => absurd hk (Nat.not_lt_zero k)) (Nat.lt_succ_self _) _ _ _ hP hD hS (lv_sub hl [0, 1, 2, 3, 4] rfl)
  · skip
    refine lv_lload_n hx hb dX8_shares_12 rfl (lv_at hl 0 rfl) ?_
    refine lv_l2i hx hb dX8_shares_13 rfl ?_
    refine lv_topi (fun v19 ev19 => ?_)
    obtain rfl : v19 = nI (sm c0 8) := by rw [ev19]; exact lN_i _
    refine lv_goto (tgt := 18) hx hb dX8_shares_14 (by decide) ?_
    refine lv_istore (lv' := [(4, .int (nI (sm c0 8))), (2, .long (lN (sm c0 8))), (0, .ref g), (1, .int (nI mu0))]) hx hb dX8_shares_18 hl (by decide) rfl (fun ls hl => ?_)
    have hSb : sm c0 8 ≤ 8000000 := sm_bound (c := 1000000) hcb
    have hge : ¬ mu0 ≤ sm c0 8 := fun q => c3 ((lcv2 (by omega) (by omega)).mpr q)
    have hdm : min (sm c0 8) mu0 = sm c0 8 := Nat.min_eq_left (by omega)
    refine lv_iconst (v := 0) hx hb dX8_shares_20 (by decide) ?_
    refine lv_istore (lv' := [(5, .int 0), (4, .int (nI (sm c0 8))), (2, .long (lN (sm c0 8))), (0, .ref g), (1, .int (nI mu0))]) hx hb dX8_shares_21 hl (by decide) rfl (fun ls hl => ?_)
    have J23 : ∀ (zz : Nat) (i23 : Nat) (a_g36_23 : Nat → Int32), (i23 ≤ 8) → (∀ k, k < i23 → a_g36_23 k = 0) → (8 - i23) < zz → ∀ (H : Heap) (locs : List Loc) (ls : Array Slot), va_P D vwCl [(oX8 g gi0 (nI mn) g2 g3 g4 g5 g6 g7 g8 g9 g10 (nI ml) g12 g13 gi14 g15 g16 g17 gi18 g19 g20 g21 g22 g23 g24 g25 g26 g27 g28 gi29 gi30 (nI mv) gi32 g33 g34 g35 g36 g37 g38 g39 gi40 g41 g42 gi43 g44 g45), (aIc cI g35 8 G35), (aIc cI g36 8 a_g36_23), (aJc cJ g37 8 G37)] H → va_D A [(oX8 g gi0 (nI mn) g2 g3 g4 g5 g6 g7 g8 g9 g10 (nI ml) g12 g13 gi14 g15 g16 g17 gi18 g19 g20 g21 g22 g23 g24 g25 g26 g27 g28 gi29 gi30 (nI mv) gi32 g33 g34 g35 g36 g37 g38 g39 gi40 g41 g42 gi43 g44 g45), (aIc cI g35 8 G35), (aIc cI g36 8 a_g36_23), (aJc cJ g37 8 G37)] → va_S A s.heap H locs → lv_has ls 6 [(5, .int (nI i23)), (4, .int (nI (sm c0 8))), (2, .long (lN (sm c0 8))), (0, .ref g), (1, .int (nI mu0))] → W p l e { frames := 4, cells := 0, slots := 0, locals := 94 } s m [.ref g, .int (nI mu0)].toArray below meth c H locs 0 0 (MQ below (cQi D (fun r u => ∃ (G36p : Nat → Int32) (G37p : Nat → Int64), (∃ pt : Nat → Nat, nv G36p pt ∧ sm pt 8 = min (sm c0 8) mu0 ∧ ∀ k, k < 8 → pt k ≤ c0 k) ∧ r = (nI (min (sm c0 8) mu0)) ∧ u = [(oX8 g gi0 (nI mn) g2 g3 g4 g5 g6 g7 g8 g9 g10 (nI ml) g12 g13 gi14 g15 g16 g17 gi18 g19 g20 g21 g22 g23 g24 g25 g26 g27 g28 gi29 gi30 (nI mv) gi32 g33 g34 g35 g36 g37 g38 g39 gi40 g41 g42 gi43 g44 g45), (aIc cI g35 8 G35), (aIc cI g36 8 G36p), (aJc cJ g37 8 G37p)]) A) [.ref g, .int (nI mu0)].toArray s 0 0 A) (F0 m 23 ls []) := by
      intro zz
      induction zz with
      | zero => intro i23 a_g36_23 _ _; exact fun h => absurd h (Nat.not_lt_zero _)
      | succ zz ih23 =>
        intro i23 a_g36_23 hc5_23 hz8_23 hmu23 H locs ls hP hD hS hl
        refine lv_iload hx hb dX8_shares_23 (lv_at hl 0 rfl) ?_
        refine lv_bipush (v := 8) hx hb dX8_shares_25 (by decide) ?_
        refine lv_icmp_ge (tgt := 44) hx hb dX8_shares_27 (by decide) (fun c20 => ?_) (fun c20 => ?_)
        · skip
          have nc20 : 8 ≤ i23 := (nI_leI (a := 8) (b := i23) (by omega) (by omega)).mp c20
          refine lv_lload_n hx hb dX8_shares_44 rfl (lv_at hl 2 rfl) ?_
          refine lv_lconst (v := 0) hx hb dX8_shares_45 (by decide) ?_
          refine k_lcmp_le (tgt := 67) hx hb dX8_shares_46 dX8_shares_47 (by decide) (fun c21 => ?_) (fun c21 => ?_)
          · skip
            have hs0 : sm c0 8 ≤ 0 := (lN_le (by omega) (by decide)).mp c21
            refine lv_lload_n hx hb dX8_shares_67 rfl (lv_at hl 2 rfl) ?_
            refine lv_lconst (v := 0) hx hb dX8_shares_68 (by decide) ?_
            refine k_lcmp_le (tgt := 79) hx hb dX8_shares_69 dX8_shares_70 (by decide) (fun c22 => ?_) (fun c22 => ?_)
            · skip
              have hs1 : sm c0 8 ≤ 0 := (lN_le (by omega) (by decide)).mp c22
              refine lv_iload hx hb dX8_shares_79 (lv_at hl 1 rfl) ?_
              refine k_iret (u := [(oX8 g gi0 (nI mn) g2 g3 g4 g5 g6 g7 g8 g9 g10 (nI ml) g12 g13 gi14 g15 g16 g17 gi18 g19 g20 g21 g22 g23 g24 g25 g26 g27 g28 gi29 gi30 (nI mv) gi32 g33 g34 g35 g36 g37 g38 g39 gi40 g41 g42 gi43 g44 g45), (aIc cI g35 8 G35), (aIc cI g36 8 a_g36_23), (aJc cJ g37 8 G37)]) hx hb hr hlk hP hD hS dX8_shares_81 ?_
              exact ⟨a_g36_23, G37, (by rw [hdm]; exact ⟨fun _ => 0, fun k hk => hz8_23 k (by omega), by rw [sm_zero]; omega, fun k _ => Nat.zero_le _⟩), (by rw [hdm]), rfl⟩
            · skip
              refine lv_aload_n hx hb dX8_shares_73 rfl (lv_at hl 3 rfl) ?_
              refine lv_iload hx hb dX8_shares_74 (lv_at hl 1 rfl) ?_
              refine k_v (va_runV (As := [.int (nI (sm c0 8))]) (rest := []) ⟨hx, hb, hml, hown, hts⟩ (m_X8_bySteps l D cI cJ H.size g g2 g3 g4 g5 g6 g7 g8 g9 g10 g12 g13 g15 g16 g17 g19 g20 g21 g22 g23 g24 g25 g26 g27 g28 g33 g34 g35 g36 g37 g38 g39 g41 g42 g44 g45 (sm c0 8) mn ml mv gi0 gi14 gi18 gi29 gi30 gi32 gi40 gi43 G35 a_g36_23 c0 hcv hcb (by omega) (by omega)) (cwV 1 hts gX8_shares_X8_bySteps rfl rfl rfl (by decide +kernel) ⟨Nat.le_of_ble_eq_true rfl, Nat.le_of_ble_eq_true rfl⟩) (k_preV hE hP hD [0, 1, 2] (by decide +kernel) rfl 0 rfl rfl) rfl rfl hl.1 rfl (lv_room (Nat.le_of_ble_eq_true rfl)) dX8_shares_76 ⟨Nat.le_of_ble_eq_true rfl, Nat.le_of_ble_eq_true rfl⟩) hP hD hS hA [0, 1, 2] [3] rfl (wr := [(aJc cJ g37 8 G37)]) rfl (by decide +kernel) (by decide +kernel) (fun u H locs hw23 hP hD hS => ?_)
              obtain ⟨z24, hz25, rfl⟩ := hw23
              refine k_re (w := [(aJc cJ g37 8 G37), (oX8 g gi0 (nI mn) g2 g3 g4 g5 g6 g7 g8 g9 g10 (nI ml) g12 g13 gi14 g15 g16 g17 gi18 g19 g20 g21 g22 g23 g24 g25 g26 g27 g28 gi29 gi30 (nI mv) gi32 g33 g34 g35 g36 g37 g38 g39 gi40 g41 g42 gi43 g44 g45), (aIc cI g35 8 G35), (aIc cI g36 8 z24)]) hP hD (fun hP hD => ?_)
              refine lv_iload hx hb dX8_shares_79 (lv_at hl 1 rfl) ?_
              refine k_iret (u := [(oX8 g gi0 (nI mn) g2 g3 g4 g5 g6 g7 g8 g9 g10 (nI ml) g12 g13 gi14 g15 g16 g17 gi18 g19 g20 g21 g22 g23 g24 g25 g26 g27 g28 gi29 gi30 (nI mv) gi32 g33 g34 g35 g36 g37 g38 g39 gi40 g41 g42 gi43 g44 g45), (aIc cI g35 8 G35), (aIc cI g36 8 z24), (aJc cJ g37 8 G37)]) hx hb hr hlk (k_sub hP [1, 2, 3, 0] rfl) (hD.sub [1, 2, 3, 0] (by decide +kernel) rfl) hS dX8_shares_81 ?_
              exact ⟨z24, G37, (by rw [hdm]; exact hz25), (by rw [hdm]), rfl⟩
          · skip
            have hs0 : ¬ sm c0 8 ≤ 0 := fun q => c21 ((lN_le (by omega) (by decide)).mpr q)
            refine lv_aload_n hx hb dX8_shares_50 rfl (lv_at hl 3 rfl) ?_
            refine va_get (D := D) (ci := 8) (v := .int gi14) (C := RX8) (T := TX8) (N := 46) hx hb hts hiX8 hown hE.1 hP 0 rfl rfl 14 (by decide) (hts _ (List.mem_cons_of_mem _ wd_269)) (fun _ h9 => h9) rfl dX8_shares_51 ?_
            refine lv_if_ne (tgt := 67) hx hb dX8_shares_54 (by decide) (fun c26 => ?_) (fun c26 => ?_)
            · skip
              have hs0 : ¬ sm c0 8 ≤ 0 := fun q => c21 ((lN_le (by omega) (by decide)).mpr q)
              refine lv_lload_n hx hb dX8_shares_67 rfl (lv_at hl 2 rfl) ?_
              refine lv_lconst (v := 0) hx hb dX8_shares_68 (by decide) ?_
              refine k_lcmp_le (tgt := 79) hx hb dX8_shares_69 dX8_shares_70 (by decide) (fun c27 => ?_) (fun c27 => ?_)
              · skip
                have hs1 : sm c0 8 ≤ 0 := (lN_le (by omega) (by decide)).mp c27
                refine lv_iload hx hb dX8_shares_79 (lv_at hl 1 rfl) ?_
                refine k_iret (u := [(oX8 g gi0 (nI mn) g2 g3 g4 g5 g6 g7 g8 g9 g10 (nI ml) g12 g13 gi14 g15 g16 g17 gi18 g19 g20 g21 g22 g23 g24 g25 g26 g27 g28 gi29 gi30 (nI mv) gi32 g33 g34 g35 g36 g37 g38 g39 gi40 g41 g42 gi43 g44 g45), (aIc cI g35 8 G35), (aIc cI g36 8 a_g36_23), (aJc cJ g37 8 G37)]) hx hb hr hlk hP hD hS dX8_shares_81 ?_
                exact ⟨a_g36_23, G37, (by rw [hdm]; exact ⟨fun _ => 0, fun k hk => hz8_23 k (by omega), by rw [sm_zero]; omega, fun k _ => Nat.zero_le _⟩), (by rw [hdm]), rfl⟩
              · skip
                refine lv_aload_n hx hb dX8_shares_73 rfl (lv_at hl 3 rfl) ?_
                refine lv_iload hx hb dX8_shares_74 (lv_at hl 1 rfl) ?_
                refine k_v (va_runV (As := [.int (nI (sm c0 8))]) (rest := []) ⟨hx, hb, hml, hown, hts⟩ (m_X8_bySteps l D cI cJ H.size g g2 g3 g4 g5 g6 g7 g8 g9 g10 g12 g13 g15 g16 g17 g19 g20 g21 g22 g23 g24 g25 g26 g27 g28 g33 g34 g35 g36 g37 g38 g39 g41 g42 g44 g45 (sm c0 8) mn ml mv gi0 gi14 gi18 gi29 gi30 gi32 gi40 gi43 G35 a_g36_23 c0 hcv hcb (by omega) (by omega)) (cwV 1 hts gX8_shares_X8_bySteps rfl rfl rfl (by decide +kernel) ⟨Nat.le_of_ble_eq_true rfl, Nat.le_of_ble_eq_true rfl⟩) (k_preV hE hP hD [0, 1, 2] (by decide +kernel) rfl 0 rfl rfl) rfl rfl hl.1 rfl (lv_room (Nat.le_of_ble_eq_true rfl)) dX8_shares_76 ⟨Nat.le_of_ble_eq_true rfl, Nat.le_of_ble_eq_true rfl⟩) hP hD hS hA [0, 1, 2] [3] rfl (wr := [(aJc cJ g37 8 G37)]) rfl (by decide +kernel) (by decide +kernel) (fun u H locs hw28 hP hD hS => ?_)
                obtain ⟨z29, hz30, rfl⟩ := hw28
                refine k_re (w := [(aJc cJ g37 8 G37), (oX8 g gi0 (nI mn) g2 g3 g4 g5 g6 g7 g8 g9 g10 (nI ml) g12 g13 gi14 g15 g16 g17 gi18 g19 g20 g21 g22 g23 g24 g25 g26 g27 g28 gi29 gi30 (nI mv) gi32 g33 g34 g35 g36 g37 g38 g39 gi40 g41 g42 gi43 g44 g45), (aIc cI g35 8 G35), (aIc cI g36 8 z29)]) hP hD (fun hP hD => ?_)
                refine lv_iload hx hb dX8_shares_79 (lv_at hl 1 rfl) ?_
                refine k_iret (u := [(oX8 g gi0 (nI mn) g2 g3 g4 g5 g6 g7 g8 g9 g10 (nI ml) g12 g13 gi14 g15 g16 g17 gi18 g19 g20 g21 g22 g23 g24 g25 g26 g27 g28 gi29 gi30 (nI mv) gi32 g33 g34 g35 g36 g37 g38 g39 gi40 g41 g42 gi43 g44 g45), (aIc cI g35 8 G35), (aIc cI g36 8 z29), (aJc cJ g37 8 G37)]) hx hb hr hlk (k_sub hP [1, 2, 3, 0] rfl) (hD.sub [1, 2, 3, 0] (by decide +kernel) rfl) hS dX8_shares_81 ?_
                exact ⟨z29, G37, (by rw [hdm]; exact hz30), (by rw [hdm]), rfl⟩
            · skip
              refine lv_aload_n hx hb dX8_shares_57 rfl (lv_at hl 3 rfl) ?_
              refine lv_iload hx hb dX8_shares_58 (lv_at hl 1 rfl) ?_
              refine lv_lload_n hx hb dX8_shares_60 rfl (lv_at hl 2 rfl) ?_
              refine k_v (va_runV (As := [.int (nI (sm c0 8)), .long (lN (sm c0 8))]) (rest := []) ⟨hx, hb, hml, hown, hts⟩ (m_X8_byCaps l D cI cJ H.size g g2 g3 g4 g5 g6 g7 g8 g9 g10 g12 g13 g15 g16 g17 g19 g20 g21 g22 g23 g24 g25 g26 g27 g28 g33 g34 g35 g36 g37 g38 g39 g41 g42 g44 g45 (sm c0 8) mn ml mv gi0 gi14 gi18 gi29 gi30 gi32 gi40 gi43 G35 a_g36_23 G37 c0 hcv hcb (by omega) (by omega) (by omega) (by omega)) (cwV 2 hts gX8_shares_X8_byCaps rfl rfl rfl (by decide +kernel) ⟨Nat.le_of_ble_eq_true rfl, Nat.le_of_ble_eq_true rfl⟩) (k_preV hE hP hD [0, 1, 2, 3] (by decide +kernel) rfl 0 rfl rfl) rfl rfl hl.1 rfl (lv_room (Nat.le_of_ble_eq_true rfl)) dX8_shares_61 ⟨Nat.le_of_ble_eq_true rfl, Nat.le_of_ble_eq_true rfl⟩) hP hD hS hA [0, 1, 2, 3] [] rfl (wr := []) rfl (by decide +kernel) (by decide +kernel) (fun u H locs hw31 hP hD hS => ?_)
              obtain ⟨z32, z33, hz34, rfl⟩ := hw31
              refine k_re (w := [(oX8 g gi0 (nI mn) g2 g3 g4 g5 g6 g7 g8 g9 g10 (nI ml) g12 g13 gi14 g15 g16 g17 gi18 g19 g20 g21 g22 g23 g24 g25 g26 g27 g28 gi29 gi30 (nI mv) gi32 g33 g34 g35 g36 g37 g38 g39 gi40 g41 g42 gi43 g44 g45), (aIc cI g35 8 G35), (aIc cI g36 8 z32), (aJc cJ g37 8 z33)]) hP hD (fun hP hD => ?_)
              refine lv_goto (tgt := 79) hx hb dX8_shares_64 (by decide) ?_
              refine lv_iload hx hb dX8_shares_79 (lv_at hl 1 rfl) ?_
              refine k_iret (u := [(oX8 g gi0 (nI mn) g2 g3 g4 g5 g6 g7 g8 g9 g10 (nI ml) g12 g13 gi14 g15 g16 g17 gi18 g19 g20 g21 g22 g23 g24 g25 g26 g27 g28 gi29 gi30 (nI mv) gi32 g33 g34 g35 g36 g37 g38 g39 gi40 g41 g42 gi43 g44 g45), (aIc cI g35 8 G35), (aIc cI g36 8 z32), (aJc cJ g37 8 z33)]) hx hb hr hlk hP hD hS dX8_shares_81 ?_
              exact ⟨z32, z33, (by rw [hdm]; exact hz34), (by rw [hdm]), rfl⟩
        · skip
          have nc20 : ¬ 8 ≤ i23 := fun q9 => c20 ((nI_leI (a := 8) (b := i23) (by omega) (by omega)).mpr q9)
          refine lv_aload_n hx hb dX8_shares_30 rfl (lv_at hl 3 rfl) ?_
          refine va_get (D := D) (ci := 8) (v := .ref g36) (C := RX8) (T := TX8) (N := 46) hx hb hts hiX8 hown hE.1 hP 0 rfl rfl 36 (by decide) (hts _ (List.mem_cons_of_mem _ wd_143)) (fun _ h9 => h9) rfl dX8_shares_31 ?_
          refine lv_iload hx hb dX8_shares_34 (lv_at hl 0 rfl) ?_
          refine lv_iconst (v := 0) hx hb dX8_shares_36 (by decide) ?_
          refine va_iast hx hb hE.1 hP hD hS 2 0 rfl rfl (vp_in_nI (n := i23) (by omega) (by decide)) dX8_shares_37 (fun H locs hP hD hS => ?_)
          refine k_re (w := [(oX8 g gi0 (nI mn) g2 g3 g4 g5 g6 g7 g8 g9 g10 (nI ml) g12 g13 gi14 g15 g16 g17 gi18 g19 g20 g21 g22 g23 g24 g25 g26 g27 g28 gi29 gi30 (nI mv) gi32 g33 g34 g35 g36 g37 g38 g39 gi40 g41 g42 gi43 g44 g45), (aIc cI g35 8 G35), (aIc cI g36 8 (upd a_g36_23 (Int32.toNatClampNeg (nI i23)) 0)), (aJc cJ g37 8 G37)]) hP hD (fun hP hD => ?_)
          refine lv_iinc (v := (nI (i23 + 1))) (lv' := [(5, .int (nI (i23 + 1))), (4, .int (nI (sm c0 8))), (2, .long (lN (sm c0 8))), (0, .ref g), (1, .int (nI mu0))]) hx hb dX8_shares_38 hl (k := 0) rfl (nI_1 _) (by decide) rfl (fun ls hl => ?_)
          refine lv_goto (tgt := 23) hx hb dX8_shares_41 (by decide) ?_
          exact ih23 (i23 + 1) (upd a_g36_23 (Int32.toNatClampNeg (nI i23)) 0) (by omega) (nv0_up (by omega) hz8_23) (by omega) _ _ _ hP hD hS (lv_sub hl [0, 1, 2, 3, 4] rfl)
    exact J23 _ 0 G36 (by omega) (fun k hk => absurd hk (Nat.not_lt_zero k)) (Nat.lt_succ_self _) _ _ _ hP hD hS (lv_sub hl [0, 1, 2, 3, 4] rfl)

