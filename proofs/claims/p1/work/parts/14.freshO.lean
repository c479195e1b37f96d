theorem dX8_allTotals_0 : decode cX8_allTotals 0 = .ok (.aload_n 0, 1) := by decide +kernel
theorem dX8_allTotals_1 : decode cX8_allTotals 1 = .ok (.aload_n 0, 1) := by decide +kernel
theorem dX8_allTotals_2 : decode cX8_allTotals 2 = .ok (.invokevirtual 220, 3) := by decide +kernel
theorem dX8_allTotals_5 : decode cX8_allTotals 5 = .ok (.putfield 201, 3) := by decide +kernel
theorem dX8_allTotals_8 : decode cX8_allTotals 8 = .ok (.iconst 0, 1) := by decide +kernel
theorem dX8_allTotals_9 : decode cX8_allTotals 9 = .ok (.istore_n 1, 1) := by decide +kernel
theorem dX8_allTotals_10 : decode cX8_allTotals 10 = .ok (.iconst 0, 1) := by decide +kernel
theorem dX8_allTotals_11 : decode cX8_allTotals 11 = .ok (.istore_n 2, 1) := by decide +kernel
theorem dX8_allTotals_12 : decode cX8_allTotals 12 = .ok (.iload_n 2, 1) := by decide +kernel
theorem dX8_allTotals_13 : decode cX8_allTotals 13 = .ok (.bipush 8, 2) := by decide +kernel
theorem dX8_allTotals_15 : decode cX8_allTotals 15 = .ok (.if_icmp .ge 16, 3) := by decide +kernel
theorem dX8_allTotals_18 : decode cX8_allTotals 18 = .ok (.aload_n 0, 1) := by decide +kernel
theorem dX8_allTotals_19 : decode cX8_allTotals 19 = .ok (.getfield 79, 3) := by decide +kernel
theorem dX8_allTotals_22 : decode cX8_allTotals 22 = .ok (.iload_n 2, 1) := by decide +kernel
theorem dX8_allTotals_23 : decode cX8_allTotals 23 = .ok (.iconst 0, 1) := by decide +kernel
theorem dX8_allTotals_24 : decode cX8_allTotals 24 = .ok (.iastore, 1) := by decide +kernel
theorem dX8_allTotals_25 : decode cX8_allTotals 25 = .ok (.iinc 2 1, 3) := by decide +kernel
theorem dX8_allTotals_28 : decode cX8_allTotals 28 = .ok (.goto (-16), 3) := by decide +kernel
theorem dX8_allTotals_31 : decode cX8_allTotals 31 = .ok (.iconst 0, 1) := by decide +kernel
theorem dX8_allTotals_32 : decode cX8_allTotals 32 = .ok (.istore_n 2, 1) := by decide +kernel
theorem dX8_allTotals_33 : decode cX8_allTotals 33 = .ok (.iload_n 2, 1) := by decide +kernel
theorem dX8_allTotals_34 : decode cX8_allTotals 34 = .ok (.aload_n 0, 1) := by decide +kernel
theorem dX8_allTotals_35 : decode cX8_allTotals 35 = .ok (.getfield 127, 3) := by decide +kernel
theorem dX8_allTotals_38 : decode cX8_allTotals 38 = .ok (.if_icmp .ge 21, 3) := by decide +kernel
theorem dX8_allTotals_59 : decode cX8_allTotals 59 = .ok (.iload_n 1, 1) := by decide +kernel
theorem dX8_allTotals_60 : decode cX8_allTotals 60 = .ok (.ireturn, 1) := by decide +kernel
set_option maxRecDepth 20000 in
theorem ggX8_allTotals_X8_all : GoodIn wsX8_allTotals wsX8_all := goodIn_r _ [9, 10, 94, 95, 96, 97, 98, 99, 100, 101, 102, 103, 104, 105, 106, 107, 108, 109, 110, 111, 112, 113, 114, 115, 116, 117, 118, 119, 120, 121, 122, 123, 124, 125, 126, 127, 128, 129, 130, 131, 132, 133, 134, 135, 136, 137, 138, 139] (by decide +kernel) (by decide +kernel)
set_option maxRecDepth 20000 in
theorem gX8_allTotals_X8_all : GoodIn wsX8_allTotals (wsV RX8 220 RX8 yX8_all wsX8_all) := goodIn_app (goodIn_of _ (by decide +kernel)) ggX8_allTotals_X8_all
set_option maxHeartbeats 4000000 in
set_option maxRecDepth 100000 in
theorem f_X8_allTotals (l : Launch) (D : va_G) (cI cJ : ClassId) (sz : Nat) (g g2 g3 g4 g5 g6 g7 g8 g9 g10 g12 g13 g15 g16 g17 g19 g20 g21 g22 g23 g24 g25 g26 g27 g28 g33 g34 g35 g36 g37 g38 g39 g41 g42 g44 g45 : Nat) : Met l yX8_allTotals wsX8_allTotals { frames := 1, cells := 0, slots := 0, locals := 20 } (cPc D cI cJ [.ref g] sz [(g, .inr (8, [.int 0, .int 0, .ref g2, .ref g3, .ref g4, .ref g5, .ref g6, .ref g7, .ref g8, .ref g9, .ref g10, .int 0, .ref g12, .ref g13, .int 0, .ref g15, .ref g16, .ref g17, .int 0, .ref g19, .ref g20, .ref g21, .ref g22, .ref g23, .ref g24, .ref g25, .ref g26, .ref g27, .ref g28, .int 0, .int 0, .int 0, .int 0, .ref g33, .ref g34, .ref g35, .ref g36, .ref g37, .ref g38, .ref g39, .int 0, .ref g41, .ref g42, .int 0, .ref g44, .ref g45])), (g28, .inl (cI, 8, .inl (fun _ => 0)))]) (cQi D (fun r u => r = 0 ∧ u = []) (va_A [(g, .inr (8, [.int 0, .int 0, .ref g2, .ref g3, .ref g4, .ref g5, .ref g6, .ref g7, .ref g8, .ref g9, .ref g10, .int 0, .ref g12, .ref g13, .int 0, .ref g15, .ref g16, .ref g17, .int 0, .ref g19, .ref g20, .ref g21, .ref g22, .ref g23, .ref g24, .ref g25, .ref g26, .ref g27, .ref g28, .int 0, .int 0, .int 0, .int 0, .ref g33, .ref g34, .ref g35, .ref g36, .ref g37, .ref g38, .ref g39, .int 0, .ref g41, .ref g42, .int 0, .ref g44, .ref g45])), (g28, .inl (cI, 8, .inl (fun _ => 0)))] sz)) 0 0 (va_A [(g, .inr (8, [.int 0, .int 0, .ref g2, .ref g3, .ref g4, .ref g5, .ref g6, .ref g7, .ref g8, .ref g9, .ref g10, .int 0, .ref g12, .ref g13, .int 0, .ref g15, .ref g16, .ref g17, .int 0, .ref g19, .ref g20, .ref g21, .ref g22, .ref g23, .ref g24, .ref g25, .ref g26, .ref g27, .ref g28, .int 0, .int 0, .int 0, .int 0, .ref g33, .ref g34, .ref g35, .ref g36, .ref g37, .ref g38, .ref g39, .int 0, .ref g41, .ref g42, .int 0, .ref g44, .ref g45])), (g28, .inl (cI, 8, .inl (fun _ => 0)))] sz) := by
  refine k_ofW (Qc := cQi D (fun r u => r = 0 ∧ u = [])) (by decide) rfl (Nat.le_of_ble_eq_true rfl) ?_
  intro p e s m below meth c A ls hx hb hr hml hts hown hlk hnm hsz hE hP hD hS hA hl
  have hown : s.vm.findClass RX8 = some m.cls := hown
  have hiX8 : ∀ w ∈ u_ws RX8 TX8 46, w ∈ wsX8_allTotals := fun w h => List.mem_cons_of_mem _ (List.mem_append_right _ h)
  have hl : lv_has ls 3 [(0, .ref g)] := hl
  refine lv_aload_n hx hb dX8_allTotals_0 rfl (lv_at hl 0 rfl) ?_
  refine lv_aload_n hx hb dX8_allTotals_1 rfl (lv_at hl 0 rfl) ?_
  refine k_i (va_runV (As := []) (rest := [.ref g]) ⟨hx, hb, hml, hown, hts⟩ (f_X8_all l D cI cJ (s.heap).size g g2 g3 g4 g5 g6 g7 g8 g9 g10 g12 g13 g15 g16 g17 g19 g20 g21 g22 g23 g24 g25 g26 g27 g28 g33 g34 g35 g36 g37 g38 g39 g41 g42 g44 g45) (cwV 0 hts gX8_allTotals_X8_all rfl rfl rfl (by decide +kernel) ⟨Nat.le_of_ble_eq_true rfl, Nat.le_of_ble_eq_true rfl⟩) (k_preV hE hP hD [0] (by decide) rfl 0 rfl rfl) rfl rfl hl.1 rfl (lv_room (Nat.le_of_ble_eq_true rfl)) dX8_allTotals_2 ⟨Nat.le_of_ble_eq_true rfl, Nat.le_of_ble_eq_true rfl⟩) hP hD hS hA [0] [1] rfl (wr := [(g28, .inl (cI, 8, .inl (fun _ => 0)))]) rfl (by decide) (by decide) (fun r1 u H locs hw2 hP hD hS => ?_)
  obtain ⟨rfl, rfl⟩ := hw2
  have hP : va_P D vwCl [(g28, .inl (cI, 8, .inl (fun _ => 0))), (g, .inr (8, [.int 0, .int 0, .ref g2, .ref g3, .ref g4, .ref g5, .ref g6, .ref g7, .ref g8, .ref g9, .ref g10, .int 0, .ref g12, .ref g13, .int 0, .ref g15, .ref g16, .ref g17, .int 0, .ref g19, .ref g20, .ref g21, .ref g22, .ref g23, .ref g24, .ref g25, .ref g26, .ref g27, .ref g28, .int 0, .int 0, .int 0, .int 0, .ref g33, .ref g34, .ref g35, .ref g36, .ref g37, .ref g38, .ref g39, .int 0, .ref g41, .ref g42, .int 0, .ref g44, .ref g45]))] H := hP
  have hD : va_D A [(g28, .inl (cI, 8, .inl (fun _ => 0))), (g, .inr (8, [.int 0, .int 0, .ref g2, .ref g3, .ref g4, .ref g5, .ref g6, .ref g7, .ref g8, .ref g9, .ref g10, .int 0, .ref g12, .ref g13, .int 0, .ref g15, .ref g16, .ref g17, .int 0, .ref g19, .ref g20, .ref g21, .ref g22, .ref g23, .ref g24, .ref g25, .ref g26, .ref g27, .ref g28, .int 0, .int 0, .int 0, .int 0, .ref g33, .ref g34, .ref g35, .ref g36, .ref g37, .ref g38, .ref g39, .int 0, .ref g41, .ref g42, .int 0, .ref g44, .ref g45]))] := hD
  refine va_put (D := D) (ci := 8) (v := .int 0) (ty := .int) (C := RX8) (T := TX8) (N := 46) hx hb hts hiX8 tyX8 tyX8_ok nmX8 hown hE.1 hP hD hS 1 rfl rfl 18 (by decide) (hts _ (List.mem_of_getElem? (i := 1) rfl)) (fun _ h9 => h9) rfl (by decide +kernel) rfl rfl (Nat.le_of_ble_eq_true rfl) dX8_allTotals_5 (fun H locs hP hD hS => ?_)
  have hP : va_P D vwCl [(g28, .inl (cI, 8, .inl (fun _ => 0))), (g, .inr (8, [.int 0, .int 0, .ref g2, .ref g3, .ref g4, .ref g5, .ref g6, .ref g7, .ref g8, .ref g9, .ref g10, .int 0, .ref g12, .ref g13, .int 0, .ref g15, .ref g16, .ref g17, .int 0, .ref g19, .ref g20, .ref g21, .ref g22, .ref g23, .ref g24, .ref g25, .ref g26, .ref g27, .ref g28, .int 0, .int 0, .int 0, .int 0, .ref g33, .ref g34, .ref g35, .ref g36, .ref g37, .ref g38, .ref g39, .int 0, .ref g41, .ref g42, .int 0, .ref g44, .ref g45]))] H := hP
  have hD : va_D A [(g28, .inl (cI, 8, .inl (fun _ => 0))), (g, .inr (8, [.int 0, .int 0, .ref g2, .ref g3, .ref g4, .ref g5, .ref g6, .ref g7, .ref g8, .ref g9, .ref g10, .int 0, .ref g12, .ref g13, .int 0, .ref g15, .ref g16, .ref g17, .int 0, .ref g19, .ref g20, .ref g21, .ref g22, .ref g23, .ref g24, .ref g25, .ref g26, .ref g27, .ref g28, .int 0, .int 0, .int 0, .int 0, .ref g33, .ref g34, .ref g35, .ref g36, .ref g37, .ref g38, .ref g39, .int 0, .ref g41, .ref g42, .int 0, .ref g44, .ref g45]))] := hD
  refine lv_iconst (v := 0) hx hb dX8_allTotals_8 (by decide) ?_
  refine lv_istore_n (lv' := [(1, .int 0), (0, .ref g)]) hx hb dX8_allTotals_9 rfl hl (by decide) rfl (fun ls hl => ?_)
  refine lv_iconst (v := 0) hx hb dX8_allTotals_10 (by decide) ?_
  refine lv_istore_n (lv' := [(2, .int 0), (1, .int 0), (0, .ref g)]) hx hb dX8_allTotals_11 rfl hl (by decide) rfl (fun ls hl => ?_)
  refine lv_iload_n hx hb dX8_allTotals_12 rfl (lv_at hl 0 rfl) ?_
  refine lv_bipush (v := 8) hx hb dX8_allTotals_13 (by decide) ?_
  refine lv_icmp_ge (tgt := 31) hx hb dX8_allTotals_15 (by decide) (fun c3 => absurd c3 (by decide)) (fun _ => ?_)
  refine lv_aload_n hx hb dX8_allTotals_18 rfl (lv_at hl 2 rfl) ?_
  refine va_get (D := D) (ci := 8) (v := .ref g28) (C := RX8) (T := TX8) (N := 46) hx hb hts hiX8 hown hE.1 hP 1 rfl rfl 28 (by decide) (hts _ (List.mem_of_getElem? (i := 2) rfl)) (fun _ h9 => h9) rfl dX8_allTotals_19 ?_
  refine lv_iload_n hx hb dX8_allTotals_22 rfl (lv_at hl 0 rfl) ?_
  refine lv_iconst (v := 0) hx hb dX8_allTotals_23 (by decide) ?_
  refine va_iast hx hb hE.1 hP hD hS 0 0 rfl rfl (by unfold vp_in; decide) dX8_allTotals_24 (fun H locs hP hD hS => ?_)
  have hP : va_P D vwCl [(g28, .inl (cI, 8, .inl (upd (fun _ => 0) (Int32.toNatClampNeg 0) 0))), (g, .inr (8, [.int 0, .int 0, .ref g2, .ref g3, .ref g4, .ref g5, .ref g6, .ref g7, .ref g8, .ref g9, .ref g10, .int 0, .ref g12, .ref g13, .int 0, .ref g15, .ref g16, .ref g17, .int 0, .ref g19, .ref g20, .ref g21, .ref g22, .ref g23, .ref g24, .ref g25, .ref g26, .ref g27, .ref g28, .int 0, .int 0, .int 0, .int 0, .ref g33, .ref g34, .ref g35, .ref g36, .ref g37, .ref g38, .ref g39, .int 0, .ref g41, .ref g42, .int 0, .ref g44, .ref g45]))] H := hP
  have hD : va_D A [(g28, .inl (cI, 8, .inl (upd (fun _ => 0) (Int32.toNatClampNeg 0) 0))), (g, .inr (8, [.int 0, .int 0, .ref g2, .ref g3, .ref g4, .ref g5, .ref g6, .ref g7, .ref g8, .ref g9, .ref g10, .int 0, .ref g12, .ref g13, .int 0, .ref g15, .ref g16, .ref g17, .int 0, .ref g19, .ref g20, .ref g21, .ref g22, .ref g23, .ref g24, .ref g25, .ref g26, .ref g27, .ref g28, .int 0, .int 0, .int 0, .int 0, .ref g33, .ref g34, .ref g35, .ref g36, .ref g37, .ref g38, .ref g39, .int 0, .ref g41, .ref g42, .int 0, .ref g44, .ref g45]))] := hD
  refine lv_iinc (v := 1) (lv' := [(2, .int 1), (1, .int 0), (0, .ref g)]) hx hb dX8_allTotals_25 hl (k := 0) rfl (by decide) (by decide) rfl (fun ls hl => ?_)
  refine lv_goto (tgt := 12) hx hb dX8_allTotals_28 (by decide) ?_
  refine lv_iload_n hx hb dX8_allTotals_12 rfl (lv_at hl 0 rfl) ?_
  refine lv_bipush (v := 8) hx hb dX8_allTotals_13 (by decide) ?_
  refine lv_icmp_ge (tgt := 31) hx hb dX8_allTotals_15 (by decide) (fun c4 => absurd c4 (by decide)) (fun _ => ?_)
  refine lv_aload_n hx hb dX8_allTotals_18 rfl (lv_at hl 2 rfl) ?_
  refine va_get (D := D) (ci := 8) (v := .ref g28) (C := RX8) (T := TX8) (N := 46) hx hb hts hiX8 hown hE.1 hP 1 rfl rfl 28 (by decide) (hts _ (List.mem_of_getElem? (i := 2) rfl)) (fun _ h9 => h9) rfl dX8_allTotals_19 ?_
  refine lv_iload_n hx hb dX8_allTotals_22 rfl (lv_at hl 0 rfl) ?_
  refine lv_iconst (v := 0) hx hb dX8_allTotals_23 (by decide) ?_
  refine va_iast hx hb hE.1 hP hD hS 0 0 rfl rfl (by unfold vp_in; decide) dX8_allTotals_24 (fun H locs hP hD hS => ?_)
  have hP : va_P D vwCl [(g28, .inl (cI, 8, .inl (upd (upd (fun _ => 0) (Int32.toNatClampNeg 0) 0) (Int32.toNatClampNeg 1) 0))), (g, .inr (8, [.int 0, .int 0, .ref g2, .ref g3, .ref g4, .ref g5, .ref g6, .ref g7, .ref g8, .ref g9, .ref g10, .int 0, .ref g12, .ref g13, .int 0, .ref g15, .ref g16, .ref g17, .int 0, .ref g19, .ref g20, .ref g21, .ref g22, .ref g23, .ref g24, .ref g25, .ref g26, .ref g27, .ref g28, .int 0, .int 0, .int 0, .int 0, .ref g33, .ref g34, .ref g35, .ref g36, .ref g37, .ref g38, .ref g39, .int 0, .ref g41, .ref g42, .int 0, .ref g44, .ref g45]))] H := hP
  have hD : va_D A [(g28, .inl (cI, 8, .inl (upd (upd (fun _ => 0) (Int32.toNatClampNeg 0) 0) (Int32.toNatClampNeg 1) 0))), (g, .inr (8, [.int 0, .int 0, .ref g2, .ref g3, .ref g4, .ref g5, .ref g6, .ref g7, .ref g8, .ref g9, .ref g10, .int 0, .ref g12, .ref g13, .int 0, .ref g15, .ref g16, .ref g17, .int 0, .ref g19, .ref g20, .ref g21, .ref g22, .ref g23, .ref g24, .ref g25, .ref g26, .ref g27, .ref g28, .int 0, .int 0, .int 0, .int 0, .ref g33, .ref g34, .ref g35, .ref g36, .ref g37, .ref g38, .ref g39, .int 0, .ref g41, .ref g42, .int 0, .ref g44, .ref g45]))] := hD
  refine lv_iinc (v := 2) (lv' := [(2, .int 2), (1, .int 0), (0, .ref g)]) hx hb dX8_allTotals_25 hl (k := 0) rfl (by decide) (by decide) rfl (fun ls hl => ?_)
  refine lv_goto (tgt := 12) hx hb dX8_allTotals_28 (by decide) ?_
  refine lv_iload_n hx hb dX8_allTotals_12 rfl (lv_at hl 0 rfl) ?_
  refine lv_bipush (v := 8) hx hb dX8_allTotals_13 (by decide) ?_
  refine lv_icmp_ge (tgt := 31) hx hb dX8_allTotals_15 (by decide) (fun c5 => absurd c5 (by decide)) (fun _ => ?_)
  refine lv_aload_n hx hb dX8_allTotals_18 rfl (lv_at hl 2 rfl) ?_
  refine va_get (D := D) (ci := 8) (v := .ref g28) (C := RX8) (T := TX8) (N := 46) hx hb hts hiX8 hown hE.1 hP 1 rfl rfl 28 (by decide) (hts _ (List.mem_of_getElem? (i := 2) rfl)) (fun _ h9 => h9) rfl dX8_allTotals_19 ?_
  refine lv_iload_n hx hb dX8_allTotals_22 rfl (lv_at hl 0 rfl) ?_
  refine lv_iconst (v := 0) hx hb dX8_allTotals_23 (by decide) ?_
  refine va_iast hx hb hE.1 hP hD hS 0 0 rfl rfl (by unfold vp_in; decide) dX8_allTotals_24 (fun H locs hP hD hS => ?_)
  have hP : va_P D vwCl [(g28, .inl (cI, 8, .inl (upd (upd (upd (fun _ => 0) (Int32.toNatClampNeg 0) 0) (Int32.toNatClampNeg 1) 0) (Int32.toNatClampNeg 2) 0))), (g, .inr (8, [.int 0, .int 0, .ref g2, .ref g3, .ref g4, .ref g5, .ref g6, .ref g7, .ref g8, .ref g9, .ref g10, .int 0, .ref g12, .ref g13, .int 0, .ref g15, .ref g16, .ref g17, .int 0, .ref g19, .ref g20, .ref g21, .ref g22, .ref g23, .ref g24, .ref g25, .ref g26, .ref g27, .ref g28, .int 0, .int 0, .int 0, .int 0, .ref g33, .ref g34, .ref g35, .ref g36, .ref g37, .ref g38, .ref g39, .int 0, .ref g41, .ref g42, .int 0, .ref g44, .ref g45]))] H := hP
  have hD : va_D A [(g28, .inl (cI, 8, .inl (upd (upd (upd (fun _ => 0) (Int32.toNatClampNeg 0) 0) (Int32.toNatClampNeg 1) 0) (Int32.toNatClampNeg 2) 0))), (g, .inr (8, [.int 0, .int 0, .ref g2, .ref g3, .ref g4, .ref g5, .ref g6, .ref g7, .ref g8, .ref g9, .ref g10, .int 0, .ref g12, .ref g13, .int 0, .ref g15, .ref g16, .ref g17, .int 0, .ref g19, .ref g20, .ref g21, .ref g22, .ref g23, .ref g24, .ref g25, .ref g26, .ref g27, .ref g28, .int 0, .int 0, .int 0, .int 0, .ref g33, .ref g34, .ref g35, .ref g36, .ref g37, .ref g38, .ref g39, .int 0, .ref g41, .ref g42, .int 0, .ref g44, .ref g45]))] := hD
  refine lv_iinc (v := 3) (lv' := [(2, .int 3), (1, .int 0), (0, .ref g)]) hx hb dX8_allTotals_25 hl (k := 0) rfl (by decide) (by decide) rfl (fun ls hl => ?_)
  refine lv_goto (tgt := 12) hx hb dX8_allTotals_28 (by decide) ?_
  refine lv_iload_n hx hb dX8_allTotals_12 rfl (lv_at hl 0 rfl) ?_
  refine lv_bipush (v := 8) hx hb dX8_allTotals_13 (by decide) ?_
  refine lv_icmp_ge (tgt := 31) hx hb dX8_allTotals_15 (by decide) (fun c6 => absurd c6 (by decide)) (fun _ => ?_)
  refine lv_aload_n hx hb dX8_allTotals_18 rfl (lv_at hl 2 rfl) ?_
  refine va_get (D := D) (ci := 8) (v := .ref g28) (C := RX8) (T := TX8) (N := 46) hx hb hts hiX8 hown hE.1 hP 1 rfl rfl 28 (by decide) (hts _ (List.mem_of_getElem? (i := 2) rfl)) (fun _ h9 => h9) rfl dX8_allTotals_19 ?_
  refine lv_iload_n hx hb dX8_allTotals_22 rfl (lv_at hl 0 rfl) ?_
  refine lv_iconst (v := 0) hx hb dX8_allTotals_23 (by decide) ?_
  refine va_iast hx hb hE.1 hP hD hS 0 0 rfl rfl (by unfold vp_in; decide) dX8_allTotals_24 (fun H locs hP hD hS => ?_)
  have hP : va_P D vwCl [(g28, .inl (cI, 8, .inl (upd (upd (upd (upd (fun _ => 0) (Int32.toNatClampNeg 0) 0) (Int32.toNatClampNeg 1) 0) (Int32.toNatClampNeg 2) 0) (Int32.toNatClampNeg 3) 0))), (g, .inr (8, [.int 0, .int 0, .ref g2, .ref g3, .ref g4, .ref g5, .ref g6, .ref g7, .ref g8, .ref g9, .ref g10, .int 0, .ref g12, .ref g13, .int 0, .ref g15, .ref g16, .ref g17, .int 0, .ref g19, .ref g20, .ref g21, .ref g22, .ref g23, .ref g24, .ref g25, .ref g26, .ref g27, .ref g28, .int 0, .int 0, .int 0, .int 0, .ref g33, .ref g34, .ref g35, .ref g36, .ref g37, .ref g38, .ref g39, .int 0, .ref g41, .ref g42, .int 0, .ref g44, .ref g45]))] H := hP
  have hD : va_D A [(g28, .inl (cI, 8, .inl (upd (upd (upd (upd (fun _ => 0) (Int32.toNatClampNeg 0) 0) (Int32.toNatClampNeg 1) 0) (Int32.toNatClampNeg 2) 0) (Int32.toNatClampNeg 3) 0))), (g, .inr (8, [.int 0, .int 0, .ref g2, .ref g3, .ref g4, .ref g5, .ref g6, .ref g7, .ref g8, .ref g9, .ref g10, .int 0, .ref g12, .ref g13, .int 0, .ref g15, .ref g16, .ref g17, .int 0, .ref g19, .ref g20, .ref g21, .ref g22, .ref g23, .ref g24, .ref g25, .ref g26, .ref g27, .ref g28, .int 0, .int 0, .int 0, .int 0, .ref g33, .ref g34, .ref g35, .ref g36, .ref g37, .ref g38, .ref g39, .int 0, .ref g41, .ref g42, .int 0, .ref g44, .ref g45]))] := hD
  refine lv_iinc (v := 4) (lv' := [(2, .int 4), (1, .int 0), (0, .ref g)]) hx hb dX8_allTotals_25 hl (k := 0) rfl (by decide) (by decide) rfl (fun ls hl => ?_)
  refine lv_goto (tgt := 12) hx hb dX8_allTotals_28 (by decide) ?_
  refine lv_iload_n hx hb dX8_allTotals_12 rfl (lv_at hl 0 rfl) ?_
  refine lv_bipush (v := 8) hx hb dX8_allTotals_13 (by decide) ?_
  refine lv_icmp_ge (tgt := 31) hx hb dX8_allTotals_15 (by decide) (fun c7 => absurd c7 (by decide)) (fun _ => ?_)
  refine lv_aload_n hx hb dX8_allTotals_18 rfl (lv_at hl 2 rfl) ?_
  refine va_get (D := D) (ci := 8) (v := .ref g28) (C := RX8) (T := TX8) (N := 46) hx hb hts hiX8 hown hE.1 hP 1 rfl rfl 28 (by decide) (hts _ (List.mem_of_getElem? (i := 2) rfl)) (fun _ h9 => h9) rfl dX8_allTotals_19 ?_
  refine lv_iload_n hx hb dX8_allTotals_22 rfl (lv_at hl 0 rfl) ?_
  refine lv_iconst (v := 0) hx hb dX8_allTotals_23 (by decide) ?_
  refine va_iast hx hb hE.1 hP hD hS 0 0 rfl rfl (by unfold vp_in; decide) dX8_allTotals_24 (fun H locs hP hD hS => ?_)
  have hP : va_P D vwCl [(g28, .inl (cI, 8, .inl (upd (upd (upd (upd (upd (fun _ => 0) (Int32.toNatClampNeg 0) 0) (Int32.toNatClampNeg 1) 0) (Int32.toNatClampNeg 2) 0) (Int32.toNatClampNeg 3) 0) (Int32.toNatClampNeg 4) 0))), (g, .inr (8, [.int 0, .int 0, .ref g2, .ref g3, .ref g4, .ref g5, .ref g6, .ref g7, .ref g8, .ref g9, .ref g10, .int 0, .ref g12, .ref g13, .int 0, .ref g15, .ref g16, .ref g17, .int 0, .ref g19, .ref g20, .ref g21, .ref g22, .ref g23, .ref g24, .ref g25, .ref g26, .ref g27, .ref g28, .int 0, .int 0, .int 0, .int 0, .ref g33, .ref g34, .ref g35, .ref g36, .ref g37, .ref g38, .ref g39, .int 0, .ref g41, .ref g42, .int 0, .ref g44, .ref g45]))] H := hP
  have hD : va_D A [(g28, .inl (cI, 8, .inl (upd (upd (upd (upd (upd (fun _ => 0) (Int32.toNatClampNeg 0) 0) (Int32.toNatClampNeg 1) 0) (Int32.toNatClampNeg 2) 0) (Int32.toNatClampNeg 3) 0) (Int32.toNatClampNeg 4) 0))), (g, .inr (8, [.int 0, .int 0, .ref g2, .ref g3, .ref g4, .ref g5, .ref g6, .ref g7, .ref g8, .ref g9, .ref g10, .int 0, .ref g12, .ref g13, .int 0, .ref g15, .ref g16, .ref g17, .int 0, .ref g19, .ref g20, .ref g21, .ref g22, .ref g23, .ref g24, .ref g25, .ref g26, .ref g27, .ref g28, .int 0, .int 0, .int 0, .int 0, .ref g33, .ref g34, .ref g35, .ref g36, .ref g37, .ref g38, .ref g39, .int 0, .ref g41, .ref g42, .int 0, .ref g44, .ref g45]))] := hD
  refine lv_iinc (v := 5) (lv' := [(2, .int 5), (1, .int 0), (0, .ref g)]) hx hb dX8_allTotals_25 hl (k := 0) rfl (by decide) (by decide) rfl (fun ls hl => ?_)
  refine lv_goto (tgt := 12) hx hb dX8_allTotals_28 (by decide) ?_
  refine lv_iload_n hx hb dX8_allTotals_12 rfl (lv_at hl 0 rfl) ?_
  refine lv_bipush (v := 8) hx hb dX8_allTotals_13 (by decide) ?_
  refine lv_icmp_ge (tgt := 31) hx hb dX8_allTotals_15 (by decide) (fun c8 => absurd c8 (by decide)) (fun _ => ?_)
  refine lv_aload_n hx hb dX8_allTotals_18 rfl (lv_at hl 2 rfl) ?_
  refine va_get (D := D) (ci := 8) (v := .ref g28) (C := RX8) (T := TX8) (N := 46) hx hb hts hiX8 hown hE.1 hP 1 rfl rfl 28 (by decide) (hts _ (List.mem_of_getElem? (i := 2) rfl)) (fun _ h9 => h9) rfl dX8_allTotals_19 ?_
  refine lv_iload_n hx hb dX8_allTotals_22 rfl (lv_at hl 0 rfl) ?_
  refine lv_iconst (v := 0) hx hb dX8_allTotals_23 (by decide) ?_
  refine va_iast hx hb hE.1 hP hD hS 0 0 rfl rfl (by unfold vp_in; decide) dX8_allTotals_24 (fun H locs hP hD hS => ?_)
  have hP : va_P D vwCl [(g28, .inl (cI, 8, .inl (upd (upd (upd (upd (upd (upd (fun _ => 0) (Int32.toNatClampNeg 0) 0) (Int32.toNatClampNeg 1) 0) (Int32.toNatClampNeg 2) 0) (Int32.toNatClampNeg 3) 0) (Int32.toNatClampNeg 4) 0) (Int32.toNatClampNeg 5) 0))), (g, .inr (8, [.int 0, .int 0, .ref g2, .ref g3, .ref g4, .ref g5, .ref g6, .ref g7, .ref g8, .ref g9, .ref g10, .int 0, .ref g12, .ref g13, .int 0, .ref g15, .ref g16, .ref g17, .int 0, .ref g19, .ref g20, .ref g21, .ref g22, .ref g23, .ref g24, .ref g25, .ref g26, .ref g27, .ref g28, .int 0, .int 0, .int 0, .int 0, .ref g33, .ref g34, .ref g35, .ref g36, .ref g37, .ref g38, .ref g39, .int 0, .ref g41, .ref g42, .int 0, .ref g44, .ref g45]))] H := hP
  have hD : va_D A [(g28, .inl (cI, 8, .inl (upd (upd (upd (upd (upd (upd (fun _ => 0) (Int32.toNatClampNeg 0) 0) (Int32.toNatClampNeg 1) 0) (Int32.toNatClampNeg 2) 0) (Int32.toNatClampNeg 3) 0) (Int32.toNatClampNeg 4) 0) (Int32.toNatClampNeg 5) 0))), (g, .inr (8, [.int 0, .int 0, .ref g2, .ref g3, .ref g4, .ref g5, .ref g6, .ref g7, .ref g8, .ref g9, .ref g10, .int 0, .ref g12, .ref g13, .int 0, .ref g15, .ref g16, .ref g17, .int 0, .ref g19, .ref g20, .ref g21, .ref g22, .ref g23, .ref g24, .ref g25, .ref g26, .ref g27, .ref g28, .int 0, .int 0, .int 0, .int 0, .ref g33, .ref g34, .ref g35, .ref g36, .ref g37, .ref g38, .ref g39, .int 0, .ref g41, .ref g42, .int 0, .ref g44, .ref g45]))] := hD
  refine lv_iinc (v := 6) (lv' := [(2, .int 6), (1, .int 0), (0, .ref g)]) hx hb dX8_allTotals_25 hl (k := 0) rfl (by decide) (by decide) rfl (fun ls hl => ?_)
  refine lv_goto (tgt := 12) hx hb dX8_allTotals_28 (by decide) ?_
  refine lv_iload_n hx hb dX8_allTotals_12 rfl (lv_at hl 0 rfl) ?_
  refine lv_bipush (v := 8) hx hb dX8_allTotals_13 (by decide) ?_
  refine lv_icmp_ge (tgt := 31) hx hb dX8_allTotals_15 (by decide) (fun c9 => absurd c9 (by decide)) (fun _ => ?_)
  refine lv_aload_n hx hb dX8_allTotals_18 rfl (lv_at hl 2 rfl) ?_
  refine va_get (D := D) (ci := 8) (v := .ref g28) (C := RX8) (T := TX8) (N := 46) hx hb hts hiX8 hown hE.1 hP 1 rfl rfl 28 (by decide) (hts _ (List.mem_of_getElem? (i := 2) rfl)) (fun _ h9 => h9) rfl dX8_allTotals_19 ?_
  refine lv_iload_n hx hb dX8_allTotals_22 rfl (lv_at hl 0 rfl) ?_
  refine lv_iconst (v := 0) hx hb dX8_allTotals_23 (by decide) ?_
  refine va_iast hx hb hE.1 hP hD hS 0 0 rfl rfl (by unfold vp_in; decide) dX8_allTotals_24 (fun H locs hP hD hS => ?_)
  have hP : va_P D vwCl [(g28, .inl (cI, 8, .inl (upd (upd (upd (upd (upd (upd (upd (fun _ => 0) (Int32.toNatClampNeg 0) 0) (Int32.toNatClampNeg 1) 0) (Int32.toNatClampNeg 2) 0) (Int32.toNatClampNeg 3) 0) (Int32.toNatClampNeg 4) 0) (Int32.toNatClampNeg 5) 0) (Int32.toNatClampNeg 6) 0))), (g, .inr (8, [.int 0, .int 0, .ref g2, .ref g3, .ref g4, .ref g5, .ref g6, .ref g7, .ref g8, .ref g9, .ref g10, .int 0, .ref g12, .ref g13, .int 0, .ref g15, .ref g16, .ref g17, .int 0, .ref g19, .ref g20, .ref g21, .ref g22, .ref g23, .ref g24, .ref g25, .ref g26, .ref g27, .ref g28, .int 0, .int 0, .int 0, .int 0, .ref g33, .ref g34, .ref g35, .ref g36, .ref g37, .ref g38, .ref g39, .int 0, .ref g41, .ref g42, .int 0, .ref g44, .ref g45]))] H := hP
  have hD : va_D A [(g28, .inl (cI, 8, .inl (upd (upd (upd (upd (upd (upd (upd (fun _ => 0) (Int32.toNatClampNeg 0) 0) (Int32.toNatClampNeg 1) 0) (Int32.toNatClampNeg 2) 0) (Int32.toNatClampNeg 3) 0) (Int32.toNatClampNeg 4) 0) (Int32.toNatClampNeg 5) 0) (Int32.toNatClampNeg 6) 0))), (g, .inr (8, [.int 0, .int 0, .ref g2, .ref g3, .ref g4, .ref g5, .ref g6, .ref g7, .ref g8, .ref g9, .ref g10, .int 0, .ref g12, .ref g13, .int 0, .ref g15, .ref g16, .ref g17, .int 0, .ref g19, .ref g20, .ref g21, .ref g22, .ref g23, .ref g24, .ref g25, .ref g26, .ref g27, .ref g28, .int 0, .int 0, .int 0, .int 0, .ref g33, .ref g34, .ref g35, .ref g36, .ref g37, .ref g38, .ref g39, .int 0, .ref g41, .ref g42, .int 0, .ref g44, .ref g45]))] := hD
  refine lv_iinc (v := 7) (lv' := [(2, .int 7), (1, .int 0), (0, .ref g)]) hx hb dX8_allTotals_25 hl (k := 0) rfl (by decide) (by decide) rfl (fun ls hl => ?_)
  refine lv_goto (tgt := 12) hx hb dX8_allTotals_28 (by decide) ?_
  refine lv_iload_n hx hb dX8_allTotals_12 rfl (lv_at hl 0 rfl) ?_
  refine lv_bipush (v := 8) hx hb dX8_allTotals_13 (by decide) ?_
  refine lv_icmp_ge (tgt := 31) hx hb dX8_allTotals_15 (by decide) (fun c10 => absurd c10 (by decide)) (fun _ => ?_)
  refine lv_aload_n hx hb dX8_allTotals_18 rfl (lv_at hl 2 rfl) ?_
  refine va_get (D := D) (ci := 8) (v := .ref g28) (C := RX8) (T := TX8) (N := 46) hx hb hts hiX8 hown hE.1 hP 1 rfl rfl 28 (by decide) (hts _ (List.mem_of_getElem? (i := 2) rfl)) (fun _ h9 => h9) rfl dX8_allTotals_19 ?_
  refine lv_iload_n hx hb dX8_allTotals_22 rfl (lv_at hl 0 rfl) ?_
  refine lv_iconst (v := 0) hx hb dX8_allTotals_23 (by decide) ?_
  refine va_iast hx hb hE.1 hP hD hS 0 0 rfl rfl (by unfold vp_in; decide) dX8_allTotals_24 (fun H locs hP hD hS => ?_)
  have hP : va_P D vwCl [(g28, .inl (cI, 8, .inl (upd (upd (upd (upd (upd (upd (upd (upd (fun _ => 0) (Int32.toNatClampNeg 0) 0) (Int32.toNatClampNeg 1) 0) (Int32.toNatClampNeg 2) 0) (Int32.toNatClampNeg 3) 0) (Int32.toNatClampNeg 4) 0) (Int32.toNatClampNeg 5) 0) (Int32.toNatClampNeg 6) 0) (Int32.toNatClampNeg 7) 0))), (g, .inr (8, [.int 0, .int 0, .ref g2, .ref g3, .ref g4, .ref g5, .ref g6, .ref g7, .ref g8, .ref g9, .ref g10, .int 0, .ref g12, .ref g13, .int 0, .ref g15, .ref g16, .ref g17, .int 0, .ref g19, .ref g20, .ref g21, .ref g22, .ref g23, .ref g24, .ref g25, .ref g26, .ref g27, .ref g28, .int 0, .int 0, .int 0, .int 0, .ref g33, .ref g34, .ref g35, .ref g36, .ref g37, .ref g38, .ref g39, .int 0, .ref g41, .ref g42, .int 0, .ref g44, .ref g45]))] H := hP
  have hD : va_D A [(g28, .inl (cI, 8, .inl (upd (upd (upd (upd (upd (upd (upd (upd (fun _ => 0) (Int32.toNatClampNeg 0) 0) (Int32.toNatClampNeg 1) 0) (Int32.toNatClampNeg 2) 0) (Int32.toNatClampNeg 3) 0) (Int32.toNatClampNeg 4) 0) (Int32.toNatClampNeg 5) 0) (Int32.toNatClampNeg 6) 0) (Int32.toNatClampNeg 7) 0))), (g, .inr (8, [.int 0, .int 0, .ref g2, .ref g3, .ref g4, .ref g5, .ref g6, .ref g7, .ref g8, .ref g9, .ref g10, .int 0, .ref g12, .ref g13, .int 0, .ref g15, .ref g16, .ref g17, .int 0, .ref g19, .ref g20, .ref g21, .ref g22, .ref g23, .ref g24, .ref g25, .ref g26, .ref g27, .ref g28, .int 0, .int 0, .int 0, .int 0, .ref g33, .ref g34, .ref g35, .ref g36, .ref g37, .ref g38, .ref g39, .int 0, .ref g41, .ref g42, .int 0, .ref g44, .ref g45]))] := hD
  refine lv_iinc (v := 8) (lv' := [(2, .int 8), (1, .int 0), (0, .ref g)]) hx hb dX8_allTotals_25 hl (k := 0) rfl (by decide) (by decide) rfl (fun ls hl => ?_)
  refine lv_goto (tgt := 12) hx hb dX8_allTotals_28 (by decide) ?_
  refine lv_iload_n hx hb dX8_allTotals_12 rfl (lv_at hl 0 rfl) ?_
  refine lv_bipush (v := 8) hx hb dX8_allTotals_13 (by decide) ?_
  refine lv_icmp_ge (tgt := 31) hx hb dX8_allTotals_15 (by decide) (fun _ => ?_) (fun c11 => absurd (by decide) c11)
  refine lv_iconst (v := 0) hx hb dX8_allTotals_31 (by decide) ?_
  refine lv_istore_n (lv' := [(2, .int 0), (1, .int 0), (0, .ref g)]) hx hb dX8_allTotals_32 rfl hl (by decide) rfl (fun ls hl => ?_)
  refine lv_iload_n hx hb dX8_allTotals_33 rfl (lv_at hl 0 rfl) ?_
  refine lv_aload_n hx hb dX8_allTotals_34 rfl (lv_at hl 2 rfl) ?_
  refine va_get (D := D) (ci := 8) (v := .int 0) (C := RX8) (T := TX8) (N := 46) hx hb hts hiX8 hown hE.1 hP 1 rfl rfl 11 (by decide) (hts _ (List.mem_of_getElem? (i := 3) rfl)) (fun _ h9 => h9) rfl dX8_allTotals_35 ?_
  refine lv_icmp_ge (tgt := 59) hx hb dX8_allTotals_38 (by decide) (fun _ => ?_) (fun c12 => absurd (by decide) c12)
  refine lv_iload_n hx hb dX8_allTotals_59 rfl (lv_at hl 1 rfl) ?_
  refine k_iret (u := []) hx hb hr hlk (k_sub hP [] rfl) (hD.sub [] (by decide) rfl) hS dX8_allTotals_60 ?_
  exact ⟨rfl, rfl⟩
theorem dX8_amounts_0 : decode cX8_amounts 0 = .ok (.iconst 0, 1) := by decide +kernel
theorem dX8_amounts_1 : decode cX8_amounts 1 = .ok (.istore_n 1, 1) := by decide +kernel
theorem dX8_amounts_2 : decode cX8_amounts 2 = .ok (.iconst 0, 1) := by decide +kernel
theorem dX8_amounts_3 : decode cX8_amounts 3 = .ok (.istore_n 2, 1) := by decide +kernel
theorem dX8_amounts_4 : decode cX8_amounts 4 = .ok (.iload_n 2, 1) := by decide +kernel
theorem dX8_amounts_5 : decode cX8_amounts 5 = .ok (.aload_n 0, 1) := by decide +kernel
theorem dX8_amounts_6 : decode cX8_amounts 6 = .ok (.getfield 127, 3) := by decide +kernel
theorem dX8_amounts_9 : decode cX8_amounts 9 = .ok (.if_icmp .ge 18, 3) := by decide +kernel
theorem dX8_amounts_27 : decode cX8_amounts 27 = .ok (.iload_n 1, 1) := by decide +kernel
theorem dX8_amounts_28 : decode cX8_amounts 28 = .ok (.ireturn, 1) := by decide +kernel
set_option maxHeartbeats 4000000 in
set_option maxRecDepth 100000 in
theorem f_X8_amounts (l : Launch) (D : va_G) (cI cJ : ClassId) (sz : Nat) (g g2 g3 g4 g5 g6 g7 g8 g9 g10 g12 g13 g15 g16 g17 g19 g20 g21 g22 g23 g24 g25 g26 g27 g28 g33 g34 g35 g36 g37 g38 g39 g41 g42 g44 g45 : Nat) : Met l yX8_amounts wsX8_amounts { frames := 0, cells := 0, slots := 0, locals := 0 } (cPc D cI cJ [.ref g] sz [(g, .inr (8, [.int 0, .int 0, .ref g2, .ref g3, .ref g4, .ref g5, .ref g6, .ref g7, .ref g8, .ref g9, .ref g10, .int 0, .ref g12, .ref g13, .int 0, .ref g15, .ref g16, .ref g17, .int 0, .ref g19, .ref g20, .ref g21, .ref g22, .ref g23, .ref g24, .ref g25, .ref g26, .ref g27, .ref g28, .int 0, .int 0, .int 0, .int 0, .ref g33, .ref g34, .ref g35, .ref g36, .ref g37, .ref g38, .ref g39, .int 0, .ref g41, .ref g42, .int 0, .ref g44, .ref g45]))]) (cQi D (fun r u => r = 0 ∧ u = []) (va_A [(g, .inr (8, [.int 0, .int 0, .ref g2, .ref g3, .ref g4, .ref g5, .ref g6, .ref g7, .ref g8, .ref g9, .ref g10, .int 0, .ref g12, .ref g13, .int 0, .ref g15, .ref g16, .ref g17, .int 0, .ref g19, .ref g20, .ref g21, .ref g22, .ref g23, .ref g24, .ref g25, .ref g26, .ref g27, .ref g28, .int 0, .int 0, .int 0, .int 0, .ref g33, .ref g34, .ref g35, .ref g36, .ref g37, .ref g38, .ref g39, .int 0, .ref g41, .ref g42, .int 0, .ref g44, .ref g45]))] sz)) 0 0 (va_A [(g, .inr (8, [.int 0, .int 0, .ref g2, .ref g3, .ref g4, .ref g5, .ref g6, .ref g7, .ref g8, .ref g9, .ref g10, .int 0, .ref g12, .ref g13, .int 0, .ref g15, .ref g16, .ref g17, .int 0, .ref g19, .ref g20, .ref g21, .ref g22, .ref g23, .ref g24, .ref g25, .ref g26, .ref g27, .ref g28, .int 0, .int 0, .int 0, .int 0, .ref g33, .ref g34, .ref g35, .ref g36, .ref g37, .ref g38, .ref g39, .int 0, .ref g41, .ref g42, .int 0, .ref g44, .ref g45]))] sz) := by
  refine k_ofW (Qc := cQi D (fun r u => r = 0 ∧ u = [])) (by decide) rfl (Nat.le_of_ble_eq_true rfl) ?_
  intro p e s m below meth c A ls hx hb hr hml hts hown hlk hnm hsz hE hP hD hS hA hl
  have hown : s.vm.findClass RX8 = some m.cls := hown
  have hiX8 : ∀ w ∈ u_ws RX8 TX8 46, w ∈ wsX8_amounts := fun w h => List.mem_cons_of_mem _ (List.mem_append_right _ h)
  have hl : lv_has ls 3 [(0, .ref g)] := hl
  refine lv_iconst (v := 0) hx hb dX8_amounts_0 (by decide) ?_
  refine lv_istore_n (lv' := [(1, .int 0), (0, .ref g)]) hx hb dX8_amounts_1 rfl hl (by decide) rfl (fun ls hl => ?_)
  refine lv_iconst (v := 0) hx hb dX8_amounts_2 (by decide) ?_
  refine lv_istore_n (lv' := [(2, .int 0), (1, .int 0), (0, .ref g)]) hx hb dX8_amounts_3 rfl hl (by decide) rfl (fun ls hl => ?_)
  refine lv_iload_n hx hb dX8_amounts_4 rfl (lv_at hl 0 rfl) ?_
  refine lv_aload_n hx hb dX8_amounts_5 rfl (lv_at hl 2 rfl) ?_
  refine va_get (D := D) (ci := 8) (v := .int 0) (C := RX8) (T := TX8) (N := 46) hx hb hts hiX8 hown hE.1 hP 0 rfl rfl 11 (by decide) (hts _ (List.mem_of_getElem? (i := 1) rfl)) (fun _ h9 => h9) rfl dX8_amounts_6 ?_
  refine lv_icmp_ge (tgt := 27) hx hb dX8_amounts_9 (by decide) (fun _ => ?_) (fun c1 => absurd (by decide) c1)
  refine lv_iload_n hx hb dX8_amounts_27 rfl (lv_at hl 1 rfl) ?_
  refine k_iret (u := []) hx hb hr hlk (k_sub hP [] rfl) (hD.sub [] (by decide) rfl) hS dX8_amounts_28 ?_
  exact ⟨rfl, rfl⟩
theorem dX8_settlesTo_0 : decode cX8_settlesTo 0 = .ok (.aload_n 0, 1) := by decide +kernel
theorem dX8_settlesTo_1 : decode cX8_settlesTo 1 = .ok (.iload_n 2, 1) := by decide +kernel
theorem dX8_settlesTo_2 : decode cX8_settlesTo 2 = .ok (.putfield 201, 3) := by decide +kernel
theorem dX8_settlesTo_5 : decode cX8_settlesTo 5 = .ok (.iconst 0, 1) := by decide +kernel
theorem dX8_settlesTo_6 : decode cX8_settlesTo 6 = .ok (.istore_n 3, 1) := by decide +kernel
theorem dX8_settlesTo_7 : decode cX8_settlesTo 7 = .ok (.iload_n 3, 1) := by decide +kernel
theorem dX8_settlesTo_8 : decode cX8_settlesTo 8 = .ok (.bipush 8, 2) := by decide +kernel
theorem dX8_settlesTo_10 : decode cX8_settlesTo 10 = .ok (.if_icmp .ge 16, 3) := by decide +kernel
theorem dX8_settlesTo_13 : decode cX8_settlesTo 13 = .ok (.aload_n 0, 1) := by decide +kernel
theorem dX8_settlesTo_14 : decode cX8_settlesTo 14 = .ok (.getfield 79, 3) := by decide +kernel
theorem dX8_settlesTo_17 : decode cX8_settlesTo 17 = .ok (.iload_n 3, 1) := by decide +kernel
theorem dX8_settlesTo_18 : decode cX8_settlesTo 18 = .ok (.iconst 0, 1) := by decide +kernel
theorem dX8_settlesTo_19 : decode cX8_settlesTo 19 = .ok (.iastore, 1) := by decide +kernel
theorem dX8_settlesTo_20 : decode cX8_settlesTo 20 = .ok (.iinc 3 1, 3) := by decide +kernel
theorem dX8_settlesTo_23 : decode cX8_settlesTo 23 = .ok (.goto (-16), 3) := by decide +kernel
theorem dX8_settlesTo_26 : decode cX8_settlesTo 26 = .ok (.iconst 0, 1) := by decide +kernel
theorem dX8_settlesTo_27 : decode cX8_settlesTo 27 = .ok (.istore_n 3, 1) := by decide +kernel
theorem dX8_settlesTo_28 : decode cX8_settlesTo 28 = .ok (.iload_n 3, 1) := by decide +kernel
theorem dX8_settlesTo_29 : decode cX8_settlesTo 29 = .ok (.iload_n 1, 1) := by decide +kernel
theorem dX8_settlesTo_30 : decode cX8_settlesTo 30 = .ok (.if_icmp .gt 14, 3) := by decide +kernel
theorem dX8_settlesTo_44 : decode cX8_settlesTo 44 = .ok (.return_, 1) := by decide +kernel
set_option maxHeartbeats 4000000 in
set_option maxRecDepth 100000 in
theorem f_X8_settlesTo (l : Launch) (D : va_G) (cI cJ : ClassId) (sz : Nat) (g g2 g3 g4 g5 g6 g7 g8 g9 g10 g12 g13 g15 g16 g17 g19 g20 g21 g22 g23 g24 g25 g26 g27 g28 g33 g34 g35 g36 g37 g38 g39 g41 g42 g44 g45 : Nat) : Met l yX8_settlesTo wsX8_settlesTo { frames := 0, cells := 0, slots := 0, locals := 0 } (cPc D cI cJ [.ref g, .int (-1), .int 0] sz [(g, .inr (8, [.int 0, .int 0, .ref g2, .ref g3, .ref g4, .ref g5, .ref g6, .ref g7, .ref g8, .ref g9, .ref g10, .int 0, .ref g12, .ref g13, .int 0, .ref g15, .ref g16, .ref g17, .int 0, .ref g19, .ref g20, .ref g21, .ref g22, .ref g23, .ref g24, .ref g25, .ref g26, .ref g27, .ref g28, .int 0, .int 0, .int 0, .int 0, .ref g33, .ref g34, .ref g35, .ref g36, .ref g37, .ref g38, .ref g39, .int 0, .ref g41, .ref g42, .int 0, .ref g44, .ref g45])), (g28, .inl (cI, 8, .inl (fun _ => 0)))]) (cQv D (fun u => u = [(g, .inr (8, [.int 0, .int 0, .ref g2, .ref g3, .ref g4, .ref g5, .ref g6, .ref g7, .ref g8, .ref g9, .ref g10, .int 0, .ref g12, .ref g13, .int 0, .ref g15, .ref g16, .ref g17, .int 0, .ref g19, .ref g20, .ref g21, .ref g22, .ref g23, .ref g24, .ref g25, .ref g26, .ref g27, .ref g28, .int 0, .int 0, .int 0, .int 0, .ref g33, .ref g34, .ref g35, .ref g36, .ref g37, .ref g38, .ref g39, .int 0, .ref g41, .ref g42, .int 0, .ref g44, .ref g45]))]) (va_A [(g, .inr (8, [.int 0, .int 0, .ref g2, .ref g3, .ref g4, .ref g5, .ref g6, .ref g7, .ref g8, .ref g9, .ref g10, .int 0, .ref g12, .ref g13, .int 0, .ref g15, .ref g16, .ref g17, .int 0, .ref g19, .ref g20, .ref g21, .ref g22, .ref g23, .ref g24, .ref g25, .ref g26, .ref g27, .ref g28, .int 0, .int 0, .int 0, .int 0, .ref g33, .ref g34, .ref g35, .ref g36, .ref g37, .ref g38, .ref g39, .int 0, .ref g41, .ref g42, .int 0, .ref g44, .ref g45])), (g28, .inl (cI, 8, .inl (fun _ => 0)))] sz)) 0 0 (va_A [(g, .inr (8, [.int 0, .int 0, .ref g2, .ref g3, .ref g4, .ref g5, .ref g6, .ref g7, .ref g8, .ref g9, .ref g10, .int 0, .ref g12, .ref g13, .int 0, .ref g15, .ref g16, .ref g17, .int 0, .ref g19, .ref g20, .ref g21, .ref g22, .ref g23, .ref g24, .ref g25, .ref g26, .ref g27, .ref g28, .int 0, .int 0, .int 0, .int 0, .ref g33, .ref g34, .ref g35, .ref g36, .ref g37, .ref g38, .ref g39, .int 0, .ref g41, .ref g42, .int 0, .ref g44, .ref g45])), (g28, .inl (cI, 8, .inl (fun _ => 0)))] sz) := by
  refine k_ofW (Qc := cQv D (fun u => u = [(g, .inr (8, [.int 0, .int 0, .ref g2, .ref g3, .ref g4, .ref g5, .ref g6, .ref g7, .ref g8, .ref g9, .ref g10, .int 0, .ref g12, .ref g13, .int 0, .ref g15, .ref g16, .ref g17, .int 0, .ref g19, .ref g20, .ref g21, .ref g22, .ref g23, .ref g24, .ref g25, .ref g26, .ref g27, .ref g28, .int 0, .int 0, .int 0, .int 0, .ref g33, .ref g34, .ref g35, .ref g36, .ref g37, .ref g38, .ref g39, .int 0, .ref g41, .ref g42, .int 0, .ref g44, .ref g45]))])) (by decide) rfl (Nat.le_of_ble_eq_true rfl) ?_
  intro p e s m below meth c A ls hx hb hr hml hts hown hlk hnm hsz hE hP hD hS hA hl
  have hown : s.vm.findClass RX8 = some m.cls := hown
  have hiX8 : ∀ w ∈ u_ws RX8 TX8 46, w ∈ wsX8_settlesTo := fun w h => List.mem_cons_of_mem _ (List.mem_append_right _ h)
  have hl : lv_has ls 4 [(0, .ref g), (1, .int (-1)), (2, .int 0)] := hl
  refine lv_aload_n hx hb dX8_settlesTo_0 rfl (lv_at hl 0 rfl) ?_
  refine lv_iload_n hx hb dX8_settlesTo_1 rfl (lv_at hl 2 rfl) ?_
  refine va_put (D := D) (ci := 8) (v := .int 0) (ty := .int) (C := RX8) (T := TX8) (N := 46) hx hb hts hiX8 tyX8 tyX8_ok nmX8 hown hE.1 hP hD hS 0 rfl rfl 18 (by decide) (hts _ (List.mem_of_getElem? (i := 1) rfl)) (fun _ h9 => h9) rfl (by decide +kernel) rfl rfl (Nat.le_of_ble_eq_true rfl) dX8_settlesTo_2 (fun H locs hP hD hS => ?_)
  have hP : va_P D vwCl [(g, .inr (8, [.int 0, .int 0, .ref g2, .ref g3, .ref g4, .ref g5, .ref g6, .ref g7, .ref g8, .ref g9, .ref g10, .int 0, .ref g12, .ref g13, .int 0, .ref g15, .ref g16, .ref g17, .int 0, .ref g19, .ref g20, .ref g21, .ref g22, .ref g23, .ref g24, .ref g25, .ref g26, .ref g27, .ref g28, .int 0, .int 0, .int 0, .int 0, .ref g33, .ref g34, .ref g35, .ref g36, .ref g37, .ref g38, .ref g39, .int 0, .ref g41, .ref g42, .int 0, .ref g44, .ref g45])), (g28, .inl (cI, 8, .inl (fun _ => 0)))] H := hP
  have hD : va_D A [(g, .inr (8, [.int 0, .int 0, .ref g2, .ref g3, .ref g4, .ref g5, .ref g6, .ref g7, .ref g8, .ref g9, .ref g10, .int 0, .ref g12, .ref g13, .int 0, .ref g15, .ref g16, .ref g17, .int 0, .ref g19, .ref g20, .ref g21, .ref g22, .ref g23, .ref g24, .ref g25, .ref g26, .ref g27, .ref g28, .int 0, .int 0, .int 0, .int 0, .ref g33, .ref g34, .ref g35, .ref g36, .ref g37, .ref g38, .ref g39, .int 0, .ref g41, .ref g42, .int 0, .ref g44, .ref g45])), (g28, .inl (cI, 8, .inl (fun _ => 0)))] := hD
  refine lv_iconst (v := 0) hx hb dX8_settlesTo_5 (by decide) ?_
  refine lv_istore_n (lv' := [(3, .int 0), (0, .ref g), (1, .int (-1)), (2, .int 0)]) hx hb dX8_settlesTo_6 rfl hl (by decide) rfl (fun ls hl => ?_)
  refine lv_iload_n hx hb dX8_settlesTo_7 rfl (lv_at hl 0 rfl) ?_
  refine lv_bipush (v := 8) hx hb dX8_settlesTo_8 (by decide) ?_
  refine lv_icmp_ge (tgt := 26) hx hb dX8_settlesTo_10 (by decide) (fun c1 => absurd c1 (by decide)) (fun _ => ?_)
  refine lv_aload_n hx hb dX8_settlesTo_13 rfl (lv_at hl 1 rfl) ?_
  refine va_get (D := D) (ci := 8) (v := .ref g28) (C := RX8) (T := TX8) (N := 46) hx hb hts hiX8 hown hE.1 hP 0 rfl rfl 28 (by decide) (hts _ (List.mem_of_getElem? (i := 2) rfl)) (fun _ h9 => h9) rfl dX8_settlesTo_14 ?_
  refine lv_iload_n hx hb dX8_settlesTo_17 rfl (lv_at hl 0 rfl) ?_
  refine lv_iconst (v := 0) hx hb dX8_settlesTo_18 (by decide) ?_
  refine va_iast hx hb hE.1 hP hD hS 1 0 rfl rfl (by unfold vp_in; decide) dX8_settlesTo_19 (fun H locs hP hD hS => ?_)
  have hP : va_P D vwCl [(g, .inr (8, [.int 0, .int 0, .ref g2, .ref g3, .ref g4, .ref g5, .ref g6, .ref g7, .ref g8, .ref g9, .ref g10, .int 0, .ref g12, .ref g13, .int 0, .ref g15, .ref g16, .ref g17, .int 0, .ref g19, .ref g20, .ref g21, .ref g22, .ref g23, .ref g24, .ref g25, .ref g26, .ref g27, .ref g28, .int 0, .int 0, .int 0, .int 0, .ref g33, .ref g34, .ref g35, .ref g36, .ref g37, .ref g38, .ref g39, .int 0, .ref g41, .ref g42, .int 0, .ref g44, .ref g45])), (g28, .inl (cI, 8, .inl (upd (fun _ => 0) (Int32.toNatClampNeg 0) 0)))] H := hP
  have hD : va_D A [(g, .inr (8, [.int 0, .int 0, .ref g2, .ref g3, .ref g4, .ref g5, .ref g6, .ref g7, .ref g8, .ref g9, .ref g10, .int 0, .ref g12, .ref g13, .int 0, .ref g15, .ref g16, .ref g17, .int 0, .ref g19, .ref g20, .ref g21, .ref g22, .ref g23, .ref g24, .ref g25, .ref g26, .ref g27, .ref g28, .int 0, .int 0, .int 0, .int 0, .ref g33, .ref g34, .ref g35, .ref g36, .ref g37, .ref g38, .ref g39, .int 0, .ref g41, .ref g42, .int 0, .ref g44, .ref g45])), (g28, .inl (cI, 8, .inl (upd (fun _ => 0) (Int32.toNatClampNeg 0) 0)))] := hD
  refine lv_iinc (v := 1) (lv' := [(3, .int 1), (0, .ref g), (1, .int (-1)), (2, .int 0)]) hx hb dX8_settlesTo_20 hl (k := 0) rfl (by decide) (by decide) rfl (fun ls hl => ?_)
  refine lv_goto (tgt := 7) hx hb dX8_settlesTo_23 (by decide) ?_
  refine lv_iload_n hx hb dX8_settlesTo_7 rfl (lv_at hl 0 rfl) ?_
  refine lv_bipush (v := 8) hx hb dX8_settlesTo_8 (by decide) ?_
  refine lv_icmp_ge (tgt := 26) hx hb dX8_settlesTo_10 (by decide) (fun c2 => absurd c2 (by decide)) (fun _ => ?_)
  refine lv_aload_n hx hb dX8_settlesTo_13 rfl (lv_at hl 1 rfl) ?_
  refine va_get (D := D) (ci := 8) (v := .ref g28) (C := RX8) (T := TX8) (N := 46) hx hb hts hiX8 hown hE.1 hP 0 rfl rfl 28 (by decide) (hts _ (List.mem_of_getElem? (i := 2) rfl)) (fun _ h9 => h9) rfl dX8_settlesTo_14 ?_
  refine lv_iload_n hx hb dX8_settlesTo_17 rfl (lv_at hl 0 rfl) ?_
  refine lv_iconst (v := 0) hx hb dX8_settlesTo_18 (by decide) ?_
  refine va_iast hx hb hE.1 hP hD hS 1 0 rfl rfl (by unfold vp_in; decide) dX8_settlesTo_19 (fun H locs hP hD hS => ?_)
  have hP : va_P D vwCl [(g, .inr (8, [.int 0, .int 0, .ref g2, .ref g3, .ref g4, .ref g5, .ref g6, .ref g7, .ref g8, .ref g9, .ref g10, .int 0, .ref g12, .ref g13, .int 0, .ref g15, .ref g16, .ref g17, .int 0, .ref g19, .ref g20, .ref g21, .ref g22, .ref g23, .ref g24, .ref g25, .ref g26, .ref g27, .ref g28, .int 0, .int 0, .int 0, .int 0, .ref g33, .ref g34, .ref g35, .ref g36, .ref g37, .ref g38, .ref g39, .int 0, .ref g41, .ref g42, .int 0, .ref g44, .ref g45])), (g28, .inl (cI, 8, .inl (upd (upd (fun _ => 0) (Int32.toNatClampNeg 0) 0) (Int32.toNatClampNeg 1) 0)))] H := hP
  have hD : va_D A [(g, .inr (8, [.int 0, .int 0, .ref g2, .ref g3, .ref g4, .ref g5, .ref g6, .ref g7, .ref g8, .ref g9, .ref g10, .int 0, .ref g12, .ref g13, .int 0, .ref g15, .ref g16, .ref g17, .int 0, .ref g19, .ref g20, .ref g21, .ref g22, .ref g23, .ref g24, .ref g25, .ref g26, .ref g27, .ref g28, .int 0, .int 0, .int 0, .int 0, .ref g33, .ref g34, .ref g35, .ref g36, .ref g37, .ref g38, .ref g39, .int 0, .ref g41, .ref g42, .int 0, .ref g44, .ref g45])), (g28, .inl (cI, 8, .inl (upd (upd (fun _ => 0) (Int32.toNatClampNeg 0) 0) (Int32.toNatClampNeg 1) 0)))] := hD
  refine lv_iinc (v := 2) (lv' := [(3, .int 2), (0, .ref g), (1, .int (-1)), (2, .int 0)]) hx hb dX8_settlesTo_20 hl (k := 0) rfl (by decide) (by decide) rfl (fun ls hl => ?_)
  refine lv_goto (tgt := 7) hx hb dX8_settlesTo_23 (by decide) ?_
  refine lv_iload_n hx hb dX8_settlesTo_7 rfl (lv_at hl 0 rfl) ?_
  refine lv_bipush (v := 8) hx hb dX8_settlesTo_8 (by decide) ?_
  refine lv_icmp_ge (tgt := 26) hx hb dX8_settlesTo_10 (by decide) (fun c3 => absurd c3 (by decide)) (fun _ => ?_)
  refine lv_aload_n hx hb dX8_settlesTo_13 rfl (lv_at hl 1 rfl) ?_
  refine va_get (D := D) (ci := 8) (v := .ref g28) (C := RX8) (T := TX8) (N := 46) hx hb hts hiX8 hown hE.1 hP 0 rfl rfl 28 (by decide) (hts _ (List.mem_of_getElem? (i := 2) rfl)) (fun _ h9 => h9) rfl dX8_settlesTo_14 ?_
  refine lv_iload_n hx hb dX8_settlesTo_17 rfl (lv_at hl 0 rfl) ?_
  refine lv_iconst (v := 0) hx hb dX8_settlesTo_18 (by decide) ?_
  refine va_iast hx hb hE.1 hP hD hS 1 0 rfl rfl (by unfold vp_in; decide) dX8_settlesTo_19 (fun H locs hP hD hS => ?_)
  have hP : va_P D vwCl [(g, .inr (8, [.int 0, .int 0, .ref g2, .ref g3, .ref g4, .ref g5, .ref g6, .ref g7, .ref g8, .ref g9, .ref g10, .int 0, .ref g12, .ref g13, .int 0, .ref g15, .ref g16, .ref g17, .int 0, .ref g19, .ref g20, .ref g21, .ref g22, .ref g23, .ref g24, .ref g25, .ref g26, .ref g27, .ref g28, .int 0, .int 0, .int 0, .int 0, .ref g33, .ref g34, .ref g35, .ref g36, .ref g37, .ref g38, .ref g39, .int 0, .ref g41, .ref g42, .int 0, .ref g44, .ref g45])), (g28, .inl (cI, 8, .inl (upd (upd (upd (fun _ => 0) (Int32.toNatClampNeg 0) 0) (Int32.toNatClampNeg 1) 0) (Int32.toNatClampNeg 2) 0)))] H := hP
  have hD : va_D A [(g, .inr (8, [.int 0, .int 0, .ref g2, .ref g3, .ref g4, .ref g5, .ref g6, .ref g7, .ref g8, .ref g9, .ref g10, .int 0, .ref g12, .ref g13, .int 0, .ref g15, .ref g16, .ref g17, .int 0, .ref g19, .ref g20, .ref g21, .ref g22, .ref g23, .ref g24, .ref g25, .ref g26, .ref g27, .ref g28, .int 0, .int 0, .int 0, .int 0, .ref g33, .ref g34, .ref g35, .ref g36, .ref g37, .ref g38, .ref g39, .int 0, .ref g41, .ref g42, .int 0, .ref g44, .ref g45])), (g28, .inl (cI, 8, .inl (upd (upd (upd (fun _ => 0) (Int32.toNatClampNeg 0) 0) (Int32.toNatClampNeg 1) 0) (Int32.toNatClampNeg 2) 0)))] := hD
  refine lv_iinc (v := 3) (lv' := [(3, .int 3), (0, .ref g), (1, .int (-1)), (2, .int 0)]) hx hb dX8_settlesTo_20 hl (k := 0) rfl (by decide) (by decide) rfl (fun ls hl => ?_)
  refine lv_goto (tgt := 7) hx hb dX8_settlesTo_23 (by decide) ?_
  refine lv_iload_n hx hb dX8_settlesTo_7 rfl (lv_at hl 0 rfl) ?_
  refine lv_bipush (v := 8) hx hb dX8_settlesTo_8 (by decide) ?_
  refine lv_icmp_ge (tgt := 26) hx hb dX8_settlesTo_10 (by decide) (fun c4 => absurd c4 (by decide)) (fun _ => ?_)
  refine lv_aload_n hx hb dX8_settlesTo_13 rfl (lv_at hl 1 rfl) ?_
  refine va_get (D := D) (ci := 8) (v := .ref g28) (C := RX8) (T := TX8) (N := 46) hx hb hts hiX8 hown hE.1 hP 0 rfl rfl 28 (by decide) (hts _ (List.mem_of_getElem? (i := 2) rfl)) (fun _ h9 => h9) rfl dX8_settlesTo_14 ?_
  refine lv_iload_n hx hb dX8_settlesTo_17 rfl (lv_at hl 0 rfl) ?_
  refine lv_iconst (v := 0) hx hb dX8_settlesTo_18 (by decide) ?_
  refine va_iast hx hb hE.1 hP hD hS 1 0 rfl rfl (by unfold vp_in; decide) dX8_settlesTo_19 (fun H locs hP hD hS => ?_)
  have hP : va_P D vwCl [(g, .inr (8, [.int 0, .int 0, .ref g2, .ref g3, .ref g4, .ref g5, .ref g6, .ref g7, .ref g8, .ref g9, .ref g10, .int 0, .ref g12, .ref g13, .int 0, .ref g15, .ref g16, .ref g17, .int 0, .ref g19, .ref g20, .ref g21, .ref g22, .ref g23, .ref g24, .ref g25, .ref g26, .ref g27, .ref g28, .int 0, .int 0, .int 0, .int 0, .ref g33, .ref g34, .ref g35, .ref g36, .ref g37, .ref g38, .ref g39, .int 0, .ref g41, .ref g42, .int 0, .ref g44, .ref g45])), (g28, .inl (cI, 8, .inl (upd (upd (upd (upd (fun _ => 0) (Int32.toNatClampNeg 0) 0) (Int32.toNatClampNeg 1) 0) (Int32.toNatClampNeg 2) 0) (Int32.toNatClampNeg 3) 0)))] H := hP
  have hD : va_D A [(g, .inr (8, [.int 0, .int 0, .ref g2, .ref g3, .ref g4, .ref g5, .ref g6, .ref g7, .ref g8, .ref g9, .ref g10, .int 0, .ref g12, .ref g13, .int 0, .ref g15, .ref g16, .ref g17, .int 0, .ref g19, .ref g20, .ref g21, .ref g22, .ref g23, .ref g24, .ref g25, .ref g26, .ref g27, .ref g28, .int 0, .int 0, .int 0, .int 0, .ref g33, .ref g34, .ref g35, .ref g36, .ref g37, .ref g38, .ref g39, .int 0, .ref g41, .ref g42, .int 0, .ref g44, .ref g45])), (g28, .inl (cI, 8, .inl (upd (upd (upd (upd (fun _ => 0) (Int32.toNatClampNeg 0) 0) (Int32.toNatClampNeg 1) 0) (Int32.toNatClampNeg 2) 0) (Int32.toNatClampNeg 3) 0)))] := hD
  refine lv_iinc (v := 4) (lv' := [(3, .int 4), (0, .ref g), (1, .int (-1)), (2, .int 0)]) hx hb dX8_settlesTo_20 hl (k := 0) rfl (by decide) (by decide) rfl (fun ls hl => ?_)
  refine lv_goto (tgt := 7) hx hb dX8_settlesTo_23 (by decide) ?_
  refine lv_iload_n hx hb dX8_settlesTo_7 rfl (lv_at hl 0 rfl) ?_
  refine lv_bipush (v := 8) hx hb dX8_settlesTo_8 (by decide) ?_
  refine lv_icmp_ge (tgt := 26) hx hb dX8_settlesTo_10 (by decide) (fun c5 => absurd c5 (by decide)) (fun _ => ?_)
  refine lv_aload_n hx hb dX8_settlesTo_13 rfl (lv_at hl 1 rfl) ?_
  refine va_get (D := D) (ci := 8) (v := .ref g28) (C := RX8) (T := TX8) (N := 46) hx hb hts hiX8 hown hE.1 hP 0 rfl rfl 28 (by decide) (hts _ (List.mem_of_getElem? (i := 2) rfl)) (fun _ h9 => h9) rfl dX8_settlesTo_14 ?_
  refine lv_iload_n hx hb dX8_settlesTo_17 rfl (lv_at hl 0 rfl) ?_
  refine lv_iconst (v := 0) hx hb dX8_settlesTo_18 (by decide) ?_
  refine va_iast hx hb hE.1 hP hD hS 1 0 rfl rfl (by unfold vp_in; decide) dX8_settlesTo_19 (fun H locs hP hD hS => ?_)
  have hP : va_P D vwCl [(g, .inr (8, [.int 0, .int 0, .ref g2, .ref g3, .ref g4, .ref g5, .ref g6, .ref g7, .ref g8, .ref g9, .ref g10, .int 0, .ref g12, .ref g13, .int 0, .ref g15, .ref g16, .ref g17, .int 0, .ref g19, .ref g20, .ref g21, .ref g22, .ref g23, .ref g24, .ref g25, .ref g26, .ref g27, .ref g28, .int 0, .int 0, .int 0, .int 0, .ref g33, .ref g34, .ref g35, .ref g36, .ref g37, .ref g38, .ref g39, .int 0, .ref g41, .ref g42, .int 0, .ref g44, .ref g45])), (g28, .inl (cI, 8, .inl (upd (upd (upd (upd (upd (fun _ => 0) (Int32.toNatClampNeg 0) 0) (Int32.toNatClampNeg 1) 0) (Int32.toNatClampNeg 2) 0) (Int32.toNatClampNeg 3) 0) (Int32.toNatClampNeg 4) 0)))] H := hP
  have hD : va_D A [(g, .inr (8, [.int 0, .int 0, .ref g2, .ref g3, .ref g4, .ref g5, .ref g6, .ref g7, .ref g8, .ref g9, .ref g10, .int 0, .ref g12, .ref g13, .int 0, .ref g15, .ref g16, .ref g17, .int 0, .ref g19, .ref g20, .ref g21, .ref g22, .ref g23, .ref g24, .ref g25, .ref g26, .ref g27, .ref g28, .int 0, .int 0, .int 0, .int 0, .ref g33, .ref g34, .ref g35, .ref g36, .ref g37, .ref g38, .ref g39, .int 0, .ref g41, .ref g42, .int 0, .ref g44, .ref g45])), (g28, .inl (cI, 8, .inl (upd (upd (upd (upd (upd (fun _ => 0) (Int32.toNatClampNeg 0) 0) (Int32.toNatClampNeg 1) 0) (Int32.toNatClampNeg 2) 0) (Int32.toNatClampNeg 3) 0) (Int32.toNatClampNeg 4) 0)))] := hD
  refine lv_iinc (v := 5) (lv' := [(3, .int 5), (0, .ref g), (1, .int (-1)), (2, .int 0)]) hx hb dX8_settlesTo_20 hl (k := 0) rfl (by decide) (by decide) rfl (fun ls hl => ?_)
  refine lv_goto (tgt := 7) hx hb dX8_settlesTo_23 (by decide) ?_
  refine lv_iload_n hx hb dX8_settlesTo_7 rfl (lv_at hl 0 rfl) ?_
  refine lv_bipush (v := 8) hx hb dX8_settlesTo_8 (by decide) ?_
  refine lv_icmp_ge (tgt := 26) hx hb dX8_settlesTo_10 (by decide) (fun c6 => absurd c6 (by decide)) (fun _ => ?_)
  refine lv_aload_n hx hb dX8_settlesTo_13 rfl (lv_at hl 1 rfl) ?_
  refine va_get (D := D) (ci := 8) (v := .ref g28) (C := RX8) (T := TX8) (N := 46) hx hb hts hiX8 hown hE.1 hP 0 rfl rfl 28 (by decide) (hts _ (List.mem_of_getElem? (i := 2) rfl)) (fun _ h9 => h9) rfl dX8_settlesTo_14 ?_
  refine lv_iload_n hx hb dX8_settlesTo_17 rfl (lv_at hl 0 rfl) ?_
  refine lv_iconst (v := 0) hx hb dX8_settlesTo_18 (by decide) ?_
  refine va_iast hx hb hE.1 hP hD hS 1 0 rfl rfl (by unfold vp_in; decide) dX8_settlesTo_19 (fun H locs hP hD hS => ?_)
  have hP : va_P D vwCl [(g, .inr (8, [.int 0, .int 0, .ref g2, .ref g3, .ref g4, .ref g5, .ref g6, .ref g7, .ref g8, .ref g9, .ref g10, .int 0, .ref g12, .ref g13, .int 0, .ref g15, .ref g16, .ref g17, .int 0, .ref g19, .ref g20, .ref g21, .ref g22, .ref g23, .ref g24, .ref g25, .ref g26, .ref g27, .ref g28, .int 0, .int 0, .int 0, .int 0, .ref g33, .ref g34, .ref g35, .ref g36, .ref g37, .ref g38, .ref g39, .int 0, .ref g41, .ref g42, .int 0, .ref g44, .ref g45])), (g28, .inl (cI, 8, .inl (upd (upd (upd (upd (upd (upd (fun _ => 0) (Int32.toNatClampNeg 0) 0) (Int32.toNatClampNeg 1) 0) (Int32.toNatClampNeg 2) 0) (Int32.toNatClampNeg 3) 0) (Int32.toNatClampNeg 4) 0) (Int32.toNatClampNeg 5) 0)))] H := hP
  have hD : va_D A [(g, .inr (8, [.int 0, .int 0, .ref g2, .ref g3, .ref g4, .ref g5, .ref g6, .ref g7, .ref g8, .ref g9, .ref g10, .int 0, .ref g12, .ref g13, .int 0, .ref g15, .ref g16, .ref g17, .int 0, .ref g19, .ref g20, .ref g21, .ref g22, .ref g23, .ref g24, .ref g25, .ref g26, .ref g27, .ref g28, .int 0, .int 0, .int 0, .int 0, .ref g33, .ref g34, .ref g35, .ref g36, .ref g37, .ref g38, .ref g39, .int 0, .ref g41, .ref g42, .int 0, .ref g44, .ref g45])), (g28, .inl (cI, 8, .inl (upd (upd (upd (upd (upd (upd (fun _ => 0) (Int32.toNatClampNeg 0) 0) (Int32.toNatClampNeg 1) 0) (Int32.toNatClampNeg 2) 0) (Int32.toNatClampNeg 3) 0) (Int32.toNatClampNeg 4) 0) (Int32.toNatClampNeg 5) 0)))] := hD
  refine lv_iinc (v := 6) (lv' := [(3, .int 6), (0, .ref g), (1, .int (-1)), (2, .int 0)]) hx hb dX8_settlesTo_20 hl (k := 0) rfl (by decide) (by decide) rfl (fun ls hl => ?_)
  refine lv_goto (tgt := 7) hx hb dX8_settlesTo_23 (by decide) ?_
  refine lv_iload_n hx hb dX8_settlesTo_7 rfl (lv_at hl 0 rfl) ?_
  refine lv_bipush (v := 8) hx hb dX8_settlesTo_8 (by decide) ?_
  refine lv_icmp_ge (tgt := 26) hx hb dX8_settlesTo_10 (by decide) (fun c7 => absurd c7 (by decide)) (fun _ => ?_)
  refine lv_aload_n hx hb dX8_settlesTo_13 rfl (lv_at hl 1 rfl) ?_
  refine va_get (D := D) (ci := 8) (v := .ref g28) (C := RX8) (T := TX8) (N := 46) hx hb hts hiX8 hown hE.1 hP 0 rfl rfl 28 (by decide) (hts _ (List.mem_of_getElem? (i := 2) rfl)) (fun _ h9 => h9) rfl dX8_settlesTo_14 ?_
  refine lv_iload_n hx hb dX8_settlesTo_17 rfl (lv_at hl 0 rfl) ?_
  refine lv_iconst (v := 0) hx hb dX8_settlesTo_18 (by decide) ?_
  refine va_iast hx hb hE.1 hP hD hS 1 0 rfl rfl (by unfold vp_in; decide) dX8_settlesTo_19 (fun H locs hP hD hS => ?_)
  have hP : va_P D vwCl [(g, .inr (8, [.int 0, .int 0, .ref g2, .ref g3, .ref g4, .ref g5, .ref g6, .ref g7, .ref g8, .ref g9, .ref g10, .int 0, .ref g12, .ref g13, .int 0, .ref g15, .ref g16, .ref g17, .int 0, .ref g19, .ref g20, .ref g21, .ref g22, .ref g23, .ref g24, .ref g25, .ref g26, .ref g27, .ref g28, .int 0, .int 0, .int 0, .int 0, .ref g33, .ref g34, .ref g35, .ref g36, .ref g37, .ref g38, .ref g39, .int 0, .ref g41, .ref g42, .int 0, .ref g44, .ref g45])), (g28, .inl (cI, 8, .inl (upd (upd (upd (upd (upd (upd (upd (fun _ => 0) (Int32.toNatClampNeg 0) 0) (Int32.toNatClampNeg 1) 0) (Int32.toNatClampNeg 2) 0) (Int32.toNatClampNeg 3) 0) (Int32.toNatClampNeg 4) 0) (Int32.toNatClampNeg 5) 0) (Int32.toNatClampNeg 6) 0)))] H := hP
  have hD : va_D A [(g, .inr (8, [.int 0, .int 0, .ref g2, .ref g3, .ref g4, .ref g5, .ref g6, .ref g7, .ref g8, .ref g9, .ref g10, .int 0, .ref g12, .ref g13, .int 0, .ref g15, .ref g16, .ref g17, .int 0, .ref g19, .ref g20, .ref g21, .ref g22, .ref g23, .ref g24, .ref g25, .ref g26, .ref g27, .ref g28, .int 0, .int 0, .int 0, .int 0, .ref g33, .ref g34, .ref g35, .ref g36, .ref g37, .ref g38, .ref g39, .int 0, .ref g41, .ref g42, .int 0, .ref g44, .ref g45])), (g28, .inl (cI, 8, .inl (upd (upd (upd (upd (upd (upd (upd (fun _ => 0) (Int32.toNatClampNeg 0) 0) (Int32.toNatClampNeg 1) 0) (Int32.toNatClampNeg 2) 0) (Int32.toNatClampNeg 3) 0) (Int32.toNatClampNeg 4) 0) (Int32.toNatClampNeg 5) 0) (Int32.toNatClampNeg 6) 0)))] := hD
  refine lv_iinc (v := 7) (lv' := [(3, .int 7), (0, .ref g), (1, .int (-1)), (2, .int 0)]) hx hb dX8_settlesTo_20 hl (k := 0) rfl (by decide) (by decide) rfl (fun ls hl => ?_)
  refine lv_goto (tgt := 7) hx hb dX8_settlesTo_23 (by decide) ?_
  refine lv_iload_n hx hb dX8_settlesTo_7 rfl (lv_at hl 0 rfl) ?_
  refine lv_bipush (v := 8) hx hb dX8_settlesTo_8 (by decide) ?_
  refine lv_icmp_ge (tgt := 26) hx hb dX8_settlesTo_10 (by decide) (fun c8 => absurd c8 (by decide)) (fun _ => ?_)
  refine lv_aload_n hx hb dX8_settlesTo_13 rfl (lv_at hl 1 rfl) ?_
  refine va_get (D := D) (ci := 8) (v := .ref g28) (C := RX8) (T := TX8) (N := 46) hx hb hts hiX8 hown hE.1 hP 0 rfl rfl 28 (by decide) (hts _ (List.mem_of_getElem? (i := 2) rfl)) (fun _ h9 => h9) rfl dX8_settlesTo_14 ?_
  refine lv_iload_n hx hb dX8_settlesTo_17 rfl (lv_at hl 0 rfl) ?_
  refine lv_iconst (v := 0) hx hb dX8_settlesTo_18 (by decide) ?_
  refine va_iast hx hb hE.1 hP hD hS 1 0 rfl rfl (by unfold vp_in; decide) dX8_settlesTo_19 (fun H locs hP hD hS => ?_)
  have hP : va_P D vwCl [(g, .inr (8, [.int 0, .int 0, .ref g2, .ref g3, .ref g4, .ref g5, .ref g6, .ref g7, .ref g8, .ref g9, .ref g10, .int 0, .ref g12, .ref g13, .int 0, .ref g15, .ref g16, .ref g17, .int 0, .ref g19, .ref g20, .ref g21, .ref g22, .ref g23, .ref g24, .ref g25, .ref g26, .ref g27, .ref g28, .int 0, .int 0, .int 0, .int 0, .ref g33, .ref g34, .ref g35, .ref g36, .ref g37, .ref g38, .ref g39, .int 0, .ref g41, .ref g42, .int 0, .ref g44, .ref g45])), (g28, .inl (cI, 8, .inl (upd (upd (upd (upd (upd (upd (upd (upd (fun _ => 0) (Int32.toNatClampNeg 0) 0) (Int32.toNatClampNeg 1) 0) (Int32.toNatClampNeg 2) 0) (Int32.toNatClampNeg 3) 0) (Int32.toNatClampNeg 4) 0) (Int32.toNatClampNeg 5) 0) (Int32.toNatClampNeg 6) 0) (Int32.toNatClampNeg 7) 0)))] H := hP
  have hD : va_D A [(g, .inr (8, [.int 0, .int 0, .ref g2, .ref g3, .ref g4, .ref g5, .ref g6, .ref g7, .ref g8, .ref g9, .ref g10, .int 0, .ref g12, .ref g13, .int 0, .ref g15, .ref g16, .ref g17, .int 0, .ref g19, .ref g20, .ref g21, .ref g22, .ref g23, .ref g24, .ref g25, .ref g26, .ref g27, .ref g28, .int 0, .int 0, .int 0, .int 0, .ref g33, .ref g34, .ref g35, .ref g36, .ref g37, .ref g38, .ref g39, .int 0, .ref g41, .ref g42, .int 0, .ref g44, .ref g45])), (g28, .inl (cI, 8, .inl (upd (upd (upd (upd (upd (upd (upd (upd (fun _ => 0) (Int32.toNatClampNeg 0) 0) (Int32.toNatClampNeg 1) 0) (Int32.toNatClampNeg 2) 0) (Int32.toNatClampNeg 3) 0) (Int32.toNatClampNeg 4) 0) (Int32.toNatClampNeg 5) 0) (Int32.toNatClampNeg 6) 0) (Int32.toNatClampNeg 7) 0)))] := hD
  refine lv_iinc (v := 8) (lv' := [(3, .int 8), (0, .ref g), (1, .int (-1)), (2, .int 0)]) hx hb dX8_settlesTo_20 hl (k := 0) rfl (by decide) (by decide) rfl (fun ls hl => ?_)
  refine lv_goto (tgt := 7) hx hb dX8_settlesTo_23 (by decide) ?_
  refine lv_iload_n hx hb dX8_settlesTo_7 rfl (lv_at hl 0 rfl) ?_
  refine lv_bipush (v := 8) hx hb dX8_settlesTo_8 (by decide) ?_
  refine lv_icmp_ge (tgt := 26) hx hb dX8_settlesTo_10 (by decide) (fun _ => ?_) (fun c9 => absurd (by decide) c9)
  refine lv_iconst (v := 0) hx hb dX8_settlesTo_26 (by decide) ?_
  refine lv_istore_n (lv' := [(3, .int 0), (0, .ref g), (1, .int (-1)), (2, .int 0)]) hx hb dX8_settlesTo_27 rfl hl (by decide) rfl (fun ls hl => ?_)
  refine lv_iload_n hx hb dX8_settlesTo_28 rfl (lv_at hl 0 rfl) ?_
  refine lv_iload_n hx hb dX8_settlesTo_29 rfl (lv_at hl 2 rfl) ?_
  refine lv_icmp_gt (tgt := 44) hx hb dX8_settlesTo_30 (by decide) (fun _ => ?_) (fun c10 => absurd (by decide) c10)
  refine k_vret (u := [(g, .inr (8, [.int 0, .int 0, .ref g2, .ref g3, .ref g4, .ref g5, .ref g6, .ref g7, .ref g8, .ref g9, .ref g10, .int 0, .ref g12, .ref g13, .int 0, .ref g15, .ref g16, .ref g17, .int 0, .ref g19, .ref g20, .ref g21, .ref g22, .ref g23, .ref g24, .ref g25, .ref g26, .ref g27, .ref g28, .int 0, .int 0, .int 0, .int 0, .ref g33, .ref g34, .ref g35, .ref g36, .ref g37, .ref g38, .ref g39, .int 0, .ref g41, .ref g42, .int 0, .ref g44, .ref g45]))]) hx hb hr hlk (k_sub hP [0] rfl) (hD.sub [0] (by decide) rfl) hS dX8_settlesTo_44 ?_
  exact rfl
theorem dX8_used_0 : decode cX8_used 0 = .ok (.aload_n 0, 1) := by decide +kernel
theorem dX8_used_1 : decode cX8_used 1 = .ok (.aload_n 0, 1) := by decide +kernel
theorem dX8_used_2 : decode cX8_used 2 = .ok (.getfield 127, 3) := by decide +kernel
theorem dX8_used_5 : decode cX8_used 5 = .ok (.iconst 1, 1) := by decide +kernel
theorem dX8_used_6 : decode cX8_used 6 = .ok (.isub, 1) := by decide +kernel
theorem dX8_used_7 : decode cX8_used 7 = .ok (.aload_n 0, 1) := by decide +kernel
theorem dX8_used_8 : decode cX8_used 8 = .ok (.invokevirtual 220, 3) := by decide +kernel
theorem dX8_used_11 : decode cX8_used 11 = .ok (.invokevirtual 224, 3) := by decide +kernel
theorem dX8_used_14 : decode cX8_used 14 = .ok (.iconst 0, 1) := by decide +kernel
theorem dX8_used_15 : decode cX8_used 15 = .ok (.istore_n 1, 1) := by decide +kernel
theorem dX8_used_16 : decode cX8_used 16 = .ok (.iconst 0, 1) := by decide +kernel
theorem dX8_used_17 : decode cX8_used 17 = .ok (.istore_n 2, 1) := by decide +kernel
theorem dX8_used_18 : decode cX8_used 18 = .ok (.iload_n 2, 1) := by decide +kernel
theorem dX8_used_19 : decode cX8_used 19 = .ok (.aload_n 0, 1) := by decide +kernel
theorem dX8_used_20 : decode cX8_used 20 = .ok (.getfield 120, 3) := by decide +kernel
theorem dX8_used_23 : decode cX8_used 23 = .ok (.if_icmp .ge 34, 3) := by decide +kernel
theorem dX8_used_57 : decode cX8_used 57 = .ok (.iload_n 1, 1) := by decide +kernel
theorem dX8_used_58 : decode cX8_used 58 = .ok (.ireturn, 1) := by decide +kernel
set_option maxRecDepth 20000 in
theorem ggX8_used_X8_all : GoodIn wsX8_used wsX8_all := goodIn_r _ [9, 2, 98, 99, 100, 101, 102, 103, 104, 105, 106, 107, 108, 109, 110, 111, 112, 113, 114, 115, 116, 117, 118, 119, 120, 121, 122, 123, 124, 125, 126, 127, 128, 129, 130, 131, 132, 133, 134, 135, 136, 137, 138, 139, 140, 141, 142, 143] (by decide +kernel) (by decide +kernel)
set_option maxRecDepth 20000 in
theorem gX8_used_X8_all : GoodIn wsX8_used (wsV RX8 220 RX8 yX8_all wsX8_all) := goodIn_app (goodIn_of _ (by decide +kernel)) ggX8_used_X8_all
set_option maxRecDepth 20000 in
theorem ggX8_used_X8_settlesTo : GoodIn wsX8_used wsX8_settlesTo := goodIn_r _ [13, 14, 3, 15, 16, 17, 8, 18, 19, 20, 21, 4, 22, 23, 24, 25, 26, 27, 28, 29, 30, 31, 32, 33, 34, 35, 36, 37, 38, 39, 40, 41, 42, 43, 44, 45, 46, 47, 48, 49, 50, 51, 52, 53, 54, 55, 56, 57, 58, 59, 60, 61, 62, 63, 64, 65, 66, 67, 68, 69, 70, 71, 72, 73, 74, 75, 76, 77, 78, 79, 80, 81, 82, 83, 84, 85, 86, 87, 88, 89, 90, 91, 92, 93, 94, 95, 96, 97, 98, 99, 100, 101, 102, 103, 104, 105, 106, 107, 108, 109, 110, 111, 112, 113, 114, 115, 116, 117, 118, 119, 120, 121, 122, 123, 124, 125, 126, 127, 128, 129, 130, 131, 132, 133, 134, 135, 136, 137, 138, 139, 140, 141, 142, 143] (by decide +kernel) (by decide +kernel)
set_option maxRecDepth 20000 in
theorem gX8_used_X8_settlesTo : GoodIn wsX8_used (wsV RX8 224 RX8 yX8_settlesTo wsX8_settlesTo) := goodIn_app (goodIn_of _ (by decide +kernel)) ggX8_used_X8_settlesTo
set_option maxHeartbeats 4000000 in
set_option maxRecDepth 100000 in
theorem f_X8_used (l : Launch) (D : va_G) (cI cJ : ClassId) (sz : Nat) (g g2 g3 g4 g5 g6 g7 g8 g9 g10 g12 g13 g15 g16 g17 g19 g20 g21 g22 g23 g24 g25 g26 g27 g28 g33 g34 g35 g36 g37 g38 g39 g41 g42 g44 g45 : Nat) : Met l yX8_used wsX8_used { frames := 1, cells := 0, slots := 0, locals := 23 } (cPc D cI cJ [.ref g] sz [(g, .inr (8, [.int 0, .int 0, .ref g2, .ref g3, .ref g4, .ref g5, .ref g6, .ref g7, .ref g8, .ref g9, .ref g10, .int 0, .ref g12, .ref g13, .int 0, .ref g15, .ref g16, .ref g17, .int 0, .ref g19, .ref g20, .ref g21, .ref g22, .ref g23, .ref g24, .ref g25, .ref g26, .ref g27, .ref g28, .int 0, .int 0, .int 0, .int 0, .ref g33, .ref g34, .ref g35, .ref g36, .ref g37, .ref g38, .ref g39, .int 0, .ref g41, .ref g42, .int 0, .ref g44, .ref g45])), (g28, .inl (cI, 8, .inl (fun _ => 0)))]) (cQi D (fun r u => r = 0 ∧ u = []) (va_A [(g, .inr (8, [.int 0, .int 0, .ref g2, .ref g3, .ref g4, .ref g5, .ref g6, .ref g7, .ref g8, .ref g9, .ref g10, .int 0, .ref g12, .ref g13, .int 0, .ref g15, .ref g16, .ref g17, .int 0, .ref g19, .ref g20, .ref g21, .ref g22, .ref g23, .ref g24, .ref g25, .ref g26, .ref g27, .ref g28, .int 0, .int 0, .int 0, .int 0, .ref g33, .ref g34, .ref g35, .ref g36, .ref g37, .ref g38, .ref g39, .int 0, .ref g41, .ref g42, .int 0, .ref g44, .ref g45])), (g28, .inl (cI, 8, .inl (fun _ => 0)))] sz)) 0 0 (va_A [(g, .inr (8, [.int 0, .int 0, .ref g2, .ref g3, .ref g4, .ref g5, .ref g6, .ref g7, .ref g8, .ref g9, .ref g10, .int 0, .ref g12, .ref g13, .int 0, .ref g15, .ref g16, .ref g17, .int 0, .ref g19, .ref g20, .ref g21, .ref g22, .ref g23, .ref g24, .ref g25, .ref g26, .ref g27, .ref g28, .int 0, .int 0, .int 0, .int 0, .ref g33, .ref g34, .ref g35, .ref g36, .ref g37, .ref g38, .ref g39, .int 0, .ref g41, .ref g42, .int 0, .ref g44, .ref g45])), (g28, .inl (cI, 8, .inl (fun _ => 0)))] sz) := by
  refine k_ofW (Qc := cQi D (fun r u => r = 0 ∧ u = [])) (by decide) rfl (Nat.le_of_ble_eq_true rfl) ?_
  intro p e s m below meth c A ls hx hb hr hml hts hown hlk hnm hsz hE hP hD hS hA hl
  have hown : s.vm.findClass RX8 = some m.cls := hown
  have hiX8 : ∀ w ∈ u_ws RX8 TX8 46, w ∈ wsX8_used := fun w h => List.mem_cons_of_mem _ (List.mem_append_right _ h)
  have hl : lv_has ls 3 [(0, .ref g)] := hl
  refine lv_aload_n hx hb dX8_used_0 rfl (lv_at hl 0 rfl) ?_
  refine lv_aload_n hx hb dX8_used_1 rfl (lv_at hl 0 rfl) ?_
  refine va_get (D := D) (ci := 8) (v := .int 0) (C := RX8) (T := TX8) (N := 46) hx hb hts hiX8 hown hE.1 hP 0 rfl rfl 11 (by decide) (hts _ (List.mem_of_getElem? (i := 1) rfl)) (fun _ h9 => h9) rfl dX8_used_2 ?_
  refine lv_iconst (v := 1) hx hb dX8_used_5 (by decide) ?_
  refine lv_isub hx hb dX8_used_6 ?_
  refine lv_topi (fun v1 ev1 => ?_)
  obtain rfl : v1 = (-1) := by rw [ev1]; decide
  refine lv_aload_n hx hb dX8_used_7 rfl (lv_at hl 0 rfl) ?_
  refine k_i (va_runV (As := []) (rest := [.int (-1), .ref g]) ⟨hx, hb, hml, hown, hts⟩ (f_X8_all l D cI cJ (s.heap).size g g2 g3 g4 g5 g6 g7 g8 g9 g10 g12 g13 g15 g16 g17 g19 g20 g21 g22 g23 g24 g25 g26 g27 g28 g33 g34 g35 g36 g37 g38 g39 g41 g42 g44 g45) (cwV 0 hts gX8_used_X8_all rfl rfl rfl (by decide +kernel) ⟨Nat.le_of_ble_eq_true rfl, Nat.le_of_ble_eq_true rfl⟩) (k_preV hE hP hD [0] (by decide) rfl 0 rfl rfl) rfl rfl hl.1 rfl (lv_room (Nat.le_of_ble_eq_true rfl)) dX8_used_8 ⟨Nat.le_of_ble_eq_true rfl, Nat.le_of_ble_eq_true rfl⟩) hP hD hS hA [0] [1] rfl (wr := [(g28, .inl (cI, 8, .inl (fun _ => 0)))]) rfl (by decide) (by decide) (fun r2 u H locs hw3 hP hD hS => ?_)
  obtain ⟨rfl, rfl⟩ := hw3
  have hP : va_P D vwCl [(g28, .inl (cI, 8, .inl (fun _ => 0))), (g, .inr (8, [.int 0, .int 0, .ref g2, .ref g3, .ref g4, .ref g5, .ref g6, .ref g7, .ref g8, .ref g9, .ref g10, .int 0, .ref g12, .ref g13, .int 0, .ref g15, .ref g16, .ref g17, .int 0, .ref g19, .ref g20, .ref g21, .ref g22, .ref g23, .ref g24, .ref g25, .ref g26, .ref g27, .ref g28, .int 0, .int 0, .int 0, .int 0, .ref g33, .ref g34, .ref g35, .ref g36, .ref g37, .ref g38, .ref g39, .int 0, .ref g41, .ref g42, .int 0, .ref g44, .ref g45]))] H := hP
  have hD : va_D A [(g28, .inl (cI, 8, .inl (fun _ => 0))), (g, .inr (8, [.int 0, .int 0, .ref g2, .ref g3, .ref g4, .ref g5, .ref g6, .ref g7, .ref g8, .ref g9, .ref g10, .int 0, .ref g12, .ref g13, .int 0, .ref g15, .ref g16, .ref g17, .int 0, .ref g19, .ref g20, .ref g21, .ref g22, .ref g23, .ref g24, .ref g25, .ref g26, .ref g27, .ref g28, .int 0, .int 0, .int 0, .int 0, .ref g33, .ref g34, .ref g35, .ref g36, .ref g37, .ref g38, .ref g39, .int 0, .ref g41, .ref g42, .int 0, .ref g44, .ref g45]))] := hD
  refine k_v (va_runV (As := [.int (-1), .int 0]) (rest := []) ⟨hx, hb, hml, hown, hts⟩ (f_X8_settlesTo l D cI cJ H.size g g2 g3 g4 g5 g6 g7 g8 g9 g10 g12 g13 g15 g16 g17 g19 g20 g21 g22 g23 g24 g25 g26 g27 g28 g33 g34 g35 g36 g37 g38 g39 g41 g42 g44 g45) (cwV 2 hts gX8_used_X8_settlesTo rfl rfl rfl (by decide +kernel) ⟨Nat.le_of_ble_eq_true rfl, Nat.le_of_ble_eq_true rfl⟩) (k_preV hE hP hD [1, 0] (by decide) rfl 1 rfl rfl) rfl rfl hl.1 rfl (lv_room (Nat.le_of_ble_eq_true rfl)) dX8_used_11 ⟨Nat.le_of_ble_eq_true rfl, Nat.le_of_ble_eq_true rfl⟩) hP hD hS hA [1, 0] [] rfl (wr := []) rfl (by decide) (by decide) (fun u H locs hw4 hP hD hS => ?_)
  subst hw4
  have hP : va_P D vwCl [(g, .inr (8, [.int 0, .int 0, .ref g2, .ref g3, .ref g4, .ref g5, .ref g6, .ref g7, .ref g8, .ref g9, .ref g10, .int 0, .ref g12, .ref g13, .int 0, .ref g15, .ref g16, .ref g17, .int 0, .ref g19, .ref g20, .ref g21, .ref g22, .ref g23, .ref g24, .ref g25, .ref g26, .ref g27, .ref g28, .int 0, .int 0, .int 0, .int 0, .ref g33, .ref g34, .ref g35, .ref g36, .ref g37, .ref g38, .ref g39, .int 0, .ref g41, .ref g42, .int 0, .ref g44, .ref g45]))] H := hP
  have hD : va_D A [(g, .inr (8, [.int 0, .int 0, .ref g2, .ref g3, .ref g4, .ref g5, .ref g6, .ref g7, .ref g8, .ref g9, .ref g10, .int 0, .ref g12, .ref g13, .int 0, .ref g15, .ref g16, .ref g17, .int 0, .ref g19, .ref g20, .ref g21, .ref g22, .ref g23, .ref g24, .ref g25, .ref g26, .ref g27, .ref g28, .int 0, .int 0, .int 0, .int 0, .ref g33, .ref g34, .ref g35, .ref g36, .ref g37, .ref g38, .ref g39, .int 0, .ref g41, .ref g42, .int 0, .ref g44, .ref g45]))] := hD
  refine lv_iconst (v := 0) hx hb dX8_used_14 (by decide) ?_
  refine lv_istore_n (lv' := [(1, .int 0), (0, .ref g)]) hx hb dX8_used_15 rfl hl (by decide) rfl (fun ls hl => ?_)
  refine lv_iconst (v := 0) hx hb dX8_used_16 (by decide) ?_
  refine lv_istore_n (lv' := [(2, .int 0), (1, .int 0), (0, .ref g)]) hx hb dX8_used_17 rfl hl (by decide) rfl (fun ls hl => ?_)
  refine lv_iload_n hx hb dX8_used_18 rfl (lv_at hl 0 rfl) ?_
  refine lv_aload_n hx hb dX8_used_19 rfl (lv_at hl 2 rfl) ?_
  refine va_get (D := D) (ci := 8) (v := .int 0) (C := RX8) (T := TX8) (N := 46) hx hb hts hiX8 hown hE.1 hP 0 rfl rfl 1 (by decide) (hts _ (List.mem_of_getElem? (i := 2) rfl)) (fun _ h9 => h9) rfl dX8_used_20 ?_
  refine lv_icmp_ge (tgt := 57) hx hb dX8_used_23 (by decide) (fun _ => ?_) (fun c5 => absurd (by decide) c5)
  refine lv_iload_n hx hb dX8_used_57 rfl (lv_at hl 1 rfl) ?_
  refine k_iret (u := []) hx hb hr hlk (k_sub hP [] rfl) (hD.sub [] (by decide) rfl) hS dX8_used_58 ?_
  exact ⟨rfl, rfl⟩
theorem dX8_count_0 : decode cX8_count 0 = .ok (.aload_n 0, 1) := by decide +kernel
theorem dX8_count_1 : decode cX8_count 1 = .ok (.iconst 0, 1) := by decide +kernel
theorem dX8_count_2 : decode cX8_count 2 = .ok (.putfield 116, 3) := by decide +kernel
theorem dX8_count_5 : decode cX8_count 5 = .ok (.iload_n 1, 1) := by decide +kernel
theorem dX8_count_6 : decode cX8_count 6 = .ok (.tableswitch 68 0 5 #[38, 43, 48, 53, 58, 63], 38) := by decide +kernel
theorem dX8_count_44 : decode cX8_count 44 = .ok (.aload_n 0, 1) := by decide +kernel
theorem dX8_count_45 : decode cX8_count 45 = .ok (.getfield 120, 3) := by decide +kernel
theorem dX8_count_48 : decode cX8_count 48 = .ok (.ireturn, 1) := by decide +kernel
theorem dX8_count_49 : decode cX8_count 49 = .ok (.aload_n 0, 1) := by decide +kernel
theorem dX8_count_50 : decode cX8_count 50 = .ok (.getfield 127, 3) := by decide +kernel
theorem dX8_count_53 : decode cX8_count 53 = .ok (.ireturn, 1) := by decide +kernel
theorem dX8_count_54 : decode cX8_count 54 = .ok (.aload_n 0, 1) := by decide +kernel
theorem dX8_count_55 : decode cX8_count 55 = .ok (.getfield 151, 3) := by decide +kernel
theorem dX8_count_58 : decode cX8_count 58 = .ok (.ireturn, 1) := by decide +kernel
theorem dX8_count_59 : decode cX8_count 59 = .ok (.aload_n 0, 1) := by decide +kernel
theorem dX8_count_60 : decode cX8_count 60 = .ok (.invokevirtual 228, 3) := by decide +kernel
theorem dX8_count_63 : decode cX8_count 63 = .ok (.ireturn, 1) := by decide +kernel
theorem dX8_count_64 : decode cX8_count 64 = .ok (.aload_n 0, 1) := by decide +kernel
theorem dX8_count_65 : decode cX8_count 65 = .ok (.invokevirtual 231, 3) := by decide +kernel
theorem dX8_count_68 : decode cX8_count 68 = .ok (.ireturn, 1) := by decide +kernel
theorem dX8_count_69 : decode cX8_count 69 = .ok (.aload_n 0, 1) := by decide +kernel
theorem dX8_count_70 : decode cX8_count 70 = .ok (.invokevirtual 234, 3) := by decide +kernel
theorem dX8_count_73 : decode cX8_count 73 = .ok (.ireturn, 1) := by decide +kernel
theorem dX8_count_74 : decode cX8_count 74 = .ok (.iconst (-1), 1) := by decide +kernel
theorem dX8_count_75 : decode cX8_count 75 = .ok (.ireturn, 1) := by decide +kernel
set_option maxRecDepth 20000 in
theorem ggX8_count_X8_allTotals : GoodIn wsX8_count wsX8_allTotals := goodIn_r _ [9, 10, 11, 3, 12, 13, 14, 15, 8, 16, 2, 17, 18, 19, 20, 21, 22, 23, 24, 25, 26, 27, 28, 29, 30, 31, 32, 33, 34, 35, 36, 37, 38, 39, 40, 41, 42, 43, 44, 45, 46, 47, 48, 49, 50, 51, 52, 53, 54, 55, 56, 57, 58, 59, 60, 61, 62, 63, 64, 65, 66, 67, 68, 69, 70, 71, 72, 73, 74, 75, 76, 4, 77, 78, 79, 80, 81, 82, 83, 84, 85, 86, 87, 88, 89, 90, 91, 92, 93, 94, 95, 96, 97, 98, 111, 112, 113, 114, 115, 116, 117, 118, 119, 120, 121, 122, 123, 124, 125, 126, 127, 128, 129, 130, 131, 132, 133, 134, 135, 136, 137, 138, 139, 140, 141, 142, 143, 144, 145, 146, 147, 148, 149, 150, 151, 152, 153, 154, 155, 156] (by decide +kernel) (by decide +kernel)
set_option maxRecDepth 20000 in
theorem gX8_count_X8_allTotals : GoodIn wsX8_count (wsV RX8 228 RX8 yX8_allTotals wsX8_allTotals) := goodIn_app (goodIn_of _ (by decide +kernel)) ggX8_count_X8_allTotals
set_option maxRecDepth 20000 in
theorem ggX8_count_X8_amounts : GoodIn wsX8_count wsX8_amounts := goodIn_r _ [102, 3, 25, 111, 112, 113, 114, 115, 116, 117, 118, 119, 120, 121, 122, 123, 124, 125, 126, 127, 128, 129, 130, 131, 132, 133, 134, 135, 136, 137, 138, 139, 140, 141, 142, 143, 144, 145, 146, 147, 148, 149, 150, 151, 152, 153, 154, 155, 156] (by decide +kernel) (by decide +kernel)
set_option maxRecDepth 20000 in
theorem gX8_count_X8_amounts : GoodIn wsX8_count (wsV RX8 231 RX8 yX8_amounts wsX8_amounts) := goodIn_app (goodIn_of _ (by decide +kernel)) ggX8_count_X8_amounts
set_option maxRecDepth 20000 in
theorem ggX8_count_X8_used : GoodIn wsX8_count wsX8_used := goodIn_r _ [106, 3, 2, 11, 23, 13, 14, 15, 8, 16, 107, 108, 109, 110, 10, 17, 18, 19, 20, 21, 12, 22, 24, 25, 26, 27, 28, 29, 30, 31, 32, 33, 34, 35, 36, 37, 38, 39, 40, 41, 42, 43, 44, 45, 46, 47, 48, 49, 50, 51, 52, 53, 54, 55, 56, 57, 58, 59, 60, 61, 62, 63, 64, 65, 66, 67, 68, 69, 70, 71, 72, 73, 74, 75, 76, 4, 77, 78, 79, 80, 81, 82, 83, 84, 85, 86, 87, 88, 89, 90, 91, 92, 93, 94, 95, 96, 97, 98, 111, 112, 113, 114, 115, 116, 117, 118, 119, 120, 121, 122, 123, 124, 125, 126, 127, 128, 129, 130, 131, 132, 133, 134, 135, 136, 137, 138, 139, 140, 141, 142, 143, 144, 145, 146, 147, 148, 149, 150, 151, 152, 153, 154, 155, 156] (by decide +kernel) (by decide +kernel)
set_option maxRecDepth 20000 in
theorem gX8_count_X8_used : GoodIn wsX8_count (wsV RX8 234 RX8 yX8_used wsX8_used) := goodIn_app (goodIn_of _ (by decide +kernel)) ggX8_count_X8_used
set_option maxHeartbeats 4000000 in
set_option maxRecDepth 100000 in
theorem f_X8_count (l : Launch) (D : va_G) (cI cJ : ClassId) (sz : Nat) (g g2 g3 g4 g5 g6 g7 g8 g9 g10 g12 g13 g15 g16 g17 g19 g20 g21 g22 g23 g24 g25 g26 g27 g28 g33 g34 g35 g36 g37 g38 g39 g41 g42 g44 g45 : Nat) (p0 : Int32) : Met l yX8_count wsX8_count { frames := 2, cells := 0, slots := 0, locals := 45 } (cPc D cI cJ [.ref g, .int p0] sz [(g, .inr (8, [.int 0, .int 0, .ref g2, .ref g3, .ref g4, .ref g5, .ref g6, .ref g7, .ref g8, .ref g9, .ref g10, .int 0, .ref g12, .ref g13, .int 0, .ref g15, .ref g16, .ref g17, .int 0, .ref g19, .ref g20, .ref g21, .ref g22, .ref g23, .ref g24, .ref g25, .ref g26, .ref g27, .ref g28, .int 0, .int 0, .int 0, .int 0, .ref g33, .ref g34, .ref g35, .ref g36, .ref g37, .ref g38, .ref g39, .int 0, .ref g41, .ref g42, .int 0, .ref g44, .ref g45])), (g28, .inl (cI, 8, .inl (fun _ => 0)))]) (cQi D (fun r u => r = pz (0 ≤ p0 ∧ p0 ≤ 5) ∧ u = []) (va_A [(g, .inr (8, [.int 0, .int 0, .ref g2, .ref g3, .ref g4, .ref g5, .ref g6, .ref g7, .ref g8, .ref g9, .ref g10, .int 0, .ref g12, .ref g13, .int 0, .ref g15, .ref g16, .ref g17, .int 0, .ref g19, .ref g20, .ref g21, .ref g22, .ref g23, .ref g24, .ref g25, .ref g26, .ref g27, .ref g28, .int 0, .int 0, .int 0, .int 0, .ref g33, .ref g34, .ref g35, .ref g36, .ref g37, .ref g38, .ref g39, .int 0, .ref g41, .ref g42, .int 0, .ref g44, .ref g45])), (g28, .inl (cI, 8, .inl (fun _ => 0)))] sz)) 0 0 (va_A [(g, .inr (8, [.int 0, .int 0, .ref g2, .ref g3, .ref g4, .ref g5, .ref g6, .ref g7, .ref g8, .ref g9, .ref g10, .int 0, .ref g12, .ref g13, .int 0, .ref g15, .ref g16, .ref g17, .int 0, .ref g19, .ref g20, .ref g21, .ref g22, .ref g23, .ref g24, .ref g25, .ref g26, .ref g27, .ref g28, .int 0, .int 0, .int 0, .int 0, .ref g33, .ref g34, .ref g35, .ref g36, .ref g37, .ref g38, .ref g39, .int 0, .ref g41, .ref g42, .int 0, .ref g44, .ref g45])), (g28, .inl (cI, 8, .inl (fun _ => 0)))] sz) := by
  refine k_ofW (Qc := cQi D (fun r u => r = pz (0 ≤ p0 ∧ p0 ≤ 5) ∧ u = [])) (by decide) rfl (Nat.le_of_ble_eq_true rfl) ?_
  intro p e s m below meth c A ls hx hb hr hml hts hown hlk hnm hsz hE hP hD hS hA hl
  have hown : s.vm.findClass RX8 = some m.cls := hown
  have hiX8 : ∀ w ∈ u_ws RX8 TX8 46, w ∈ wsX8_count := fun w h => List.mem_cons_of_mem _ (List.mem_append_right _ h)
  have hl : lv_has ls 2 [(0, .ref g), (1, .int p0)] := hl
  refine lv_aload_n hx hb dX8_count_0 rfl (lv_at hl 0 rfl) ?_
  refine lv_iconst (v := 0) hx hb dX8_count_1 (by decide) ?_
  refine va_put (D := D) (ci := 8) (v := .int 0) (ty := .int) (C := RX8) (T := TX8) (N := 46) hx hb hts hiX8 tyX8 tyX8_ok nmX8 hown hE.1 hP hD hS 0 rfl rfl 0 (by decide) (hts _ (List.mem_of_getElem? (i := 1) rfl)) (fun _ h9 => h9) rfl (by decide +kernel) rfl rfl (Nat.le_of_ble_eq_true rfl) dX8_count_2 (fun H locs hP hD hS => ?_)
  have hP : va_P D vwCl [(g, .inr (8, [.int 0, .int 0, .ref g2, .ref g3, .ref g4, .ref g5, .ref g6, .ref g7, .ref g8, .ref g9, .ref g10, .int 0, .ref g12, .ref g13, .int 0, .ref g15, .ref g16, .ref g17, .int 0, .ref g19, .ref g20, .ref g21, .ref g22, .ref g23, .ref g24, .ref g25, .ref g26, .ref g27, .ref g28, .int 0, .int 0, .int 0, .int 0, .ref g33, .ref g34, .ref g35, .ref g36, .ref g37, .ref g38, .ref g39, .int 0, .ref g41, .ref g42, .int 0, .ref g44, .ref g45])), (g28, .inl (cI, 8, .inl (fun _ => 0)))] H := hP
  have hD : va_D A [(g, .inr (8, [.int 0, .int 0, .ref g2, .ref g3, .ref g4, .ref g5, .ref g6, .ref g7, .ref g8, .ref g9, .ref g10, .int 0, .ref g12, .ref g13, .int 0, .ref g15, .ref g16, .ref g17, .int 0, .ref g19, .ref g20, .ref g21, .ref g22, .ref g23, .ref g24, .ref g25, .ref g26, .ref g27, .ref g28, .int 0, .int 0, .int 0, .int 0, .ref g33, .ref g34, .ref g35, .ref g36, .ref g37, .ref g38, .ref g39, .int 0, .ref g41, .ref g42, .int 0, .ref g44, .ref g45])), (g28, .inl (cI, 8, .inl (fun _ => 0)))] := hD
  refine lv_iload_n hx hb dX8_count_5 rfl (lv_at hl 1 rfl) ?_
  by_cases c1 : p0 = 0
  · skip
    refine lv_tableIn (tgt := 44) hx hb dX8_count_6 (by rw [c1]; decide) (by rw [c1]; decide) (off := 38) (by rw [c1]; rfl) (by decide) ?_
    refine lv_aload_n hx hb dX8_count_44 rfl (lv_at hl 0 rfl) ?_
    refine va_get (D := D) (ci := 8) (v := .int 0) (C := RX8) (T := TX8) (N := 46) hx hb hts hiX8 hown hE.1 hP 0 rfl rfl 1 (by decide) (hts _ (List.mem_of_getElem? (i := 2) rfl)) (fun _ h9 => h9) rfl dX8_count_45 ?_
    refine k_iret (u := []) hx hb hr hlk (k_sub hP [] rfl) (hD.sub [] (by decide) rfl) hS dX8_count_48 ?_
    exact ⟨pz_t (by rw [c1]; decide), rfl⟩
  by_cases c2 : p0 = 1
  · skip
    refine lv_tableIn (tgt := 49) hx hb dX8_count_6 (by rw [c2]; decide) (by rw [c2]; decide) (off := 43) (by rw [c2]; rfl) (by decide) ?_
    refine lv_aload_n hx hb dX8_count_49 rfl (lv_at hl 0 rfl) ?_
    refine va_get (D := D) (ci := 8) (v := .int 0) (C := RX8) (T := TX8) (N := 46) hx hb hts hiX8 hown hE.1 hP 0 rfl rfl 11 (by decide) (hts _ (List.mem_of_getElem? (i := 3) rfl)) (fun _ h9 => h9) rfl dX8_count_50 ?_
    refine k_iret (u := []) hx hb hr hlk (k_sub hP [] rfl) (hD.sub [] (by decide) rfl) hS dX8_count_53 ?_
    exact ⟨pz_t (by rw [c2]; decide), rfl⟩
  by_cases c3 : p0 = 2
  · skip
    refine lv_tableIn (tgt := 54) hx hb dX8_count_6 (by rw [c3]; decide) (by rw [c3]; decide) (off := 48) (by rw [c3]; rfl) (by decide) ?_
    refine lv_aload_n hx hb dX8_count_54 rfl (lv_at hl 0 rfl) ?_
    refine va_get (D := D) (ci := 8) (v := .int 0) (C := RX8) (T := TX8) (N := 46) hx hb hts hiX8 hown hE.1 hP 0 rfl rfl 14 (by decide) (hts _ (List.mem_of_getElem? (i := 4) rfl)) (fun _ h9 => h9) rfl dX8_count_55 ?_
    refine k_iret (u := []) hx hb hr hlk (k_sub hP [] rfl) (hD.sub [] (by decide) rfl) hS dX8_count_58 ?_
    exact ⟨pz_t (by rw [c3]; decide), rfl⟩
  by_cases c4 : p0 = 3
  · skip
    refine lv_tableIn (tgt := 59) hx hb dX8_count_6 (by rw [c4]; decide) (by rw [c4]; decide) (off := 53) (by rw [c4]; rfl) (by decide) ?_
    refine lv_aload_n hx hb dX8_count_59 rfl (lv_at hl 0 rfl) ?_
    refine k_i (va_runV (As := []) (rest := []) ⟨hx, hb, hml, hown, hts⟩ (f_X8_allTotals l D cI cJ H.size g g2 g3 g4 g5 g6 g7 g8 g9 g10 g12 g13 g15 g16 g17 g19 g20 g21 g22 g23 g24 g25 g26 g27 g28 g33 g34 g35 g36 g37 g38 g39 g41 g42 g44 g45) (cwV 0 hts gX8_count_X8_allTotals rfl rfl rfl (by decide +kernel) ⟨Nat.le_of_ble_eq_true rfl, Nat.le_of_ble_eq_true rfl⟩) (k_preV hE hP hD [0, 1] (by decide) rfl 0 rfl rfl) rfl rfl hl.1 rfl (lv_room (Nat.le_of_ble_eq_true rfl)) dX8_count_60 ⟨Nat.le_of_ble_eq_true rfl, Nat.le_of_ble_eq_true rfl⟩) hP hD hS hA [0, 1] [] rfl (wr := []) rfl (by decide) (by decide) (fun r5 u H locs hw6 hP hD hS => ?_)
    obtain ⟨rfl, rfl⟩ := hw6
    have hP : va_P D vwCl [] H := hP
    have hD : va_D A [] := hD
    refine k_iret (u := []) hx hb hr hlk hP hD hS dX8_count_63 ?_
    exact ⟨pz_t (by rw [c4]; decide), rfl⟩
  by_cases c7 : p0 = 4
  · skip
    refine lv_tableIn (tgt := 64) hx hb dX8_count_6 (by rw [c7]; decide) (by rw [c7]; decide) (off := 58) (by rw [c7]; rfl) (by decide) ?_
    refine lv_aload_n hx hb dX8_count_64 rfl (lv_at hl 0 rfl) ?_
    refine k_i (va_runV (As := []) (rest := []) ⟨hx, hb, hml, hown, hts⟩ (f_X8_amounts l D cI cJ H.size g g2 g3 g4 g5 g6 g7 g8 g9 g10 g12 g13 g15 g16 g17 g19 g20 g21 g22 g23 g24 g25 g26 g27 g28 g33 g34 g35 g36 g37 g38 g39 g41 g42 g44 g45) (cwV 0 hts gX8_count_X8_amounts rfl rfl rfl (by decide +kernel) ⟨Nat.le_of_ble_eq_true rfl, Nat.le_of_ble_eq_true rfl⟩) (k_preV hE hP hD [0] (by decide) rfl 0 rfl rfl) rfl rfl hl.1 rfl (lv_room (Nat.le_of_ble_eq_true rfl)) dX8_count_65 ⟨Nat.le_of_ble_eq_true rfl, Nat.le_of_ble_eq_true rfl⟩) hP hD hS hA [0] [1] rfl (wr := [(g28, .inl (cI, 8, .inl (fun _ => 0)))]) rfl (by decide) (by decide) (fun r8 u H locs hw9 hP hD hS => ?_)
    obtain ⟨rfl, rfl⟩ := hw9
    have hP : va_P D vwCl [(g28, .inl (cI, 8, .inl (fun _ => 0)))] H := hP
    have hD : va_D A [(g28, .inl (cI, 8, .inl (fun _ => 0)))] := hD
    refine k_iret (u := []) hx hb hr hlk (k_sub hP [] rfl) (hD.sub [] (by decide) rfl) hS dX8_count_68 ?_
    exact ⟨pz_t (by rw [c7]; decide), rfl⟩
  by_cases c10 : p0 = 5
  · skip
    refine lv_tableIn (tgt := 69) hx hb dX8_count_6 (by rw [c10]; decide) (by rw [c10]; decide) (off := 63) (by rw [c10]; rfl) (by decide) ?_
    refine lv_aload_n hx hb dX8_count_69 rfl (lv_at hl 0 rfl) ?_
    refine k_i (va_runV (As := []) (rest := []) ⟨hx, hb, hml, hown, hts⟩ (f_X8_used l D cI cJ H.size g g2 g3 g4 g5 g6 g7 g8 g9 g10 g12 g13 g15 g16 g17 g19 g20 g21 g22 g23 g24 g25 g26 g27 g28 g33 g34 g35 g36 g37 g38 g39 g41 g42 g44 g45) (cwV 0 hts gX8_count_X8_used rfl rfl rfl (by decide +kernel) ⟨Nat.le_of_ble_eq_true rfl, Nat.le_of_ble_eq_true rfl⟩) (k_preV hE hP hD [0, 1] (by decide) rfl 0 rfl rfl) rfl rfl hl.1 rfl (lv_room (Nat.le_of_ble_eq_true rfl)) dX8_count_70 ⟨Nat.le_of_ble_eq_true rfl, Nat.le_of_ble_eq_true rfl⟩) hP hD hS hA [0, 1] [] rfl (wr := []) rfl (by decide) (by decide) (fun r11 u H locs hw12 hP hD hS => ?_)
    obtain ⟨rfl, rfl⟩ := hw12
    have hP : va_P D vwCl [] H := hP
    have hD : va_D A [] := hD
    refine k_iret (u := []) hx hb hr hlk hP hD hS dX8_count_73 ?_
    exact ⟨pz_t (by rw [c10]; decide), rfl⟩
  refine lv_tableOut (tgt := 74) hx hb dX8_count_6 (sw_out6 c1 c2 c3 c4 c7 c10) (by decide) ?_
  refine lv_iconst (v := (-1)) hx hb dX8_count_74 (by decide) ?_
  refine k_iret (u := []) hx hb hr hlk (k_sub hP [] rfl) (hD.sub [] (by decide) rfl) hS dX8_count_75 ?_
  exact ⟨pz_f (no6 c1 c2 c3 c4 c7 c10), rfl⟩
theorem dX8_of_0 : decode cX8_of 0 = .ok (.aload_n 0, 1) := by decide +kernel
theorem dX8_of_1 : decode cX8_of 1 = .ok (.aload_n 0, 1) := by decide +kernel
theorem dX8_of_2 : decode cX8_of 2 = .ok (.iload_n 1, 1) := by decide +kernel
theorem dX8_of_3 : decode cX8_of 3 = .ok (.invokevirtual 140, 3) := by decide +kernel
theorem dX8_of_6 : decode cX8_of 6 = .ok (.ifCond .eq 33, 3) := by decide +kernel
theorem dX8_of_39 : decode cX8_of 39 = .ok (.iconst 1, 1) := by decide +kernel
theorem dX8_of_40 : decode cX8_of 40 = .ok (.putfield 116, 3) := by decide +kernel
theorem dX8_of_43 : decode cX8_of 43 = .ok (.aload_n 0, 1) := by decide +kernel
theorem dX8_of_44 : decode cX8_of 44 = .ok (.getfield 116, 3) := by decide +kernel
theorem dX8_of_47 : decode cX8_of 47 = .ok (.ifCond .le 5, 3) := by decide +kernel
theorem dX8_of_50 : decode cX8_of 50 = .ok (.iconst 0, 1) := by decide +kernel
theorem dX8_of_51 : decode cX8_of 51 = .ok (.ireturn, 1) := by decide +kernel
set_option maxRecDepth 20000 in
theorem ggX8_of_X8_isPolicy : GoodIn wsX8_of wsX8_isPolicy := goodIn_r _ [20, 21, 22, 23, 19, 24, 114, 115, 116, 117, 118, 119, 120, 121, 122, 123, 124, 125, 126, 127, 128, 129, 130, 131, 132, 133, 134, 135, 136, 137, 138, 139, 140, 141, 142, 143, 144, 145, 146, 147, 148, 149, 150, 151, 152, 153, 154, 155, 156, 157, 158, 159] (by decide +kernel) (by decide +kernel)
set_option maxRecDepth 20000 in
theorem gX8_of_X8_isPolicy : GoodIn wsX8_of (wsV RX8 140 RX8 yX8_isPolicy wsX8_isPolicy) := goodIn_app (goodIn_of _ (by decide +kernel)) ggX8_of_X8_isPolicy
set_option maxHeartbeats 4000000 in
set_option maxRecDepth 100000 in
theorem f_X8_of (l : Launch) (D : va_G) (cI cJ : ClassId) (sz : Nat) (g g2 g3 g4 g5 g6 g7 g8 g9 g10 g12 g13 g15 g16 g17 g19 g20 g21 g22 g23 g24 g25 g26 g27 g28 g33 g34 g35 g36 g37 g38 g39 g41 g42 g44 g45 : Nat) (p0 p1 : Int32) : Met l yX8_of wsX8_of { frames := 2, cells := 0, slots := 0, locals := 46 } (cPc D cI cJ [.ref g, .int p0, .int p1] sz [(g, .inr (8, [.int 0, .int 0, .ref g2, .ref g3, .ref g4, .ref g5, .ref g6, .ref g7, .ref g8, .ref g9, .ref g10, .int 0, .ref g12, .ref g13, .int 0, .ref g15, .ref g16, .ref g17, .int 0, .ref g19, .ref g20, .ref g21, .ref g22, .ref g23, .ref g24, .ref g25, .ref g26, .ref g27, .ref g28, .int 0, .int 0, .int 0, .int 0, .ref g33, .ref g34, .ref g35, .ref g36, .ref g37, .ref g38, .ref g39, .int 0, .ref g41, .ref g42, .int 0, .ref g44, .ref g45]))]) (cQi D (fun r u => r = 0 ∧ u = [(g, .inr (8, [.int 1, .int 0, .ref g2, .ref g3, .ref g4, .ref g5, .ref g6, .ref g7, .ref g8, .ref g9, .ref g10, .int 0, .ref g12, .ref g13, .int 0, .ref g15, .ref g16, .ref g17, .int 0, .ref g19, .ref g20, .ref g21, .ref g22, .ref g23, .ref g24, .ref g25, .ref g26, .ref g27, .ref g28, .int 0, .int 0, .int 0, .int 0, .ref g33, .ref g34, .ref g35, .ref g36, .ref g37, .ref g38, .ref g39, .int 0, .ref g41, .ref g42, .int 0, .ref g44, .ref g45]))]) (va_A [(g, .inr (8, [.int 0, .int 0, .ref g2, .ref g3, .ref g4, .ref g5, .ref g6, .ref g7, .ref g8, .ref g9, .ref g10, .int 0, .ref g12, .ref g13, .int 0, .ref g15, .ref g16, .ref g17, .int 0, .ref g19, .ref g20, .ref g21, .ref g22, .ref g23, .ref g24, .ref g25, .ref g26, .ref g27, .ref g28, .int 0, .int 0, .int 0, .int 0, .ref g33, .ref g34, .ref g35, .ref g36, .ref g37, .ref g38, .ref g39, .int 0, .ref g41, .ref g42, .int 0, .ref g44, .ref g45]))] sz)) 0 0 (va_A [(g, .inr (8, [.int 0, .int 0, .ref g2, .ref g3, .ref g4, .ref g5, .ref g6, .ref g7, .ref g8, .ref g9, .ref g10, .int 0, .ref g12, .ref g13, .int 0, .ref g15, .ref g16, .ref g17, .int 0, .ref g19, .ref g20, .ref g21, .ref g22, .ref g23, .ref g24, .ref g25, .ref g26, .ref g27, .ref g28, .int 0, .int 0, .int 0, .int 0, .ref g33, .ref g34, .ref g35, .ref g36, .ref g37, .ref g38, .ref g39, .int 0, .ref g41, .ref g42, .int 0, .ref g44, .ref g45]))] sz) := by
  refine k_ofW (Qc := cQi D (fun r u => r = 0 ∧ u = [(g, .inr (8, [.int 1, .int 0, .ref g2, .ref g3, .ref g4, .ref g5, .ref g6, .ref g7, .ref g8, .ref g9, .ref g10, .int 0, .ref g12, .ref g13, .int 0, .ref g15, .ref g16, .ref g17, .int 0, .ref g19, .ref g20, .ref g21, .ref g22, .ref g23, .ref g24, .ref g25, .ref g26, .ref g27, .ref g28, .int 0, .int 0, .int 0, .int 0, .ref g33, .ref g34, .ref g35, .ref g36, .ref g37, .ref g38, .ref g39, .int 0, .ref g41, .ref g42, .int 0, .ref g44, .ref g45]))])) (by decide) rfl (Nat.le_of_ble_eq_true rfl) ?_
  intro p e s m below meth c A ls hx hb hr hml hts hown hlk hnm hsz hE hP hD hS hA hl
  have hown : s.vm.findClass RX8 = some m.cls := hown
  have hiX8 : ∀ w ∈ u_ws RX8 TX8 46, w ∈ wsX8_of := fun w h => List.mem_cons_of_mem _ (List.mem_append_right _ h)
  have hl : lv_has ls 3 [(0, .ref g), (1, .int p0), (2, .int p1)] := hl
  refine lv_aload_n hx hb dX8_of_0 rfl (lv_at hl 0 rfl) ?_
  refine lv_aload_n hx hb dX8_of_1 rfl (lv_at hl 0 rfl) ?_
  refine lv_iload_n hx hb dX8_of_2 rfl (lv_at hl 1 rfl) ?_
  refine k_i (va_runV (As := [.int p0]) (rest := [.ref g]) ⟨hx, hb, hml, hown, hts⟩ (f_X8_isPolicy l D cI cJ (s.heap).size g g2 g3 g4 g5 g6 g7 g8 g9 g10 g12 g13 g15 g16 g17 g19 g20 g21 g22 g23 g24 g25 g26 g27 g28 g33 g34 g35 g36 g37 g38 g39 g41 g42 g44 g45 p0) (cwV 1 hts gX8_of_X8_isPolicy rfl rfl rfl (by decide +kernel) ⟨Nat.le_of_ble_eq_true rfl, Nat.le_of_ble_eq_true rfl⟩) (k_preV hE hP hD [0] (by decide) rfl 0 rfl rfl) rfl rfl hl.1 rfl (lv_room (Nat.le_of_ble_eq_true rfl)) dX8_of_3 ⟨Nat.le_of_ble_eq_true rfl, Nat.le_of_ble_eq_true rfl⟩) hP hD hS hA [0] [] rfl (wr := []) rfl (by decide) (by decide) (fun r1 u H locs hw2 hP hD hS => ?_)
  obtain ⟨rfl, rfl⟩ := hw2
  have hP : va_P D vwCl [(g, .inr (8, [.int 0, .int 0, .ref g2, .ref g3, .ref g4, .ref g5, .ref g6, .ref g7, .ref g8, .ref g9, .ref g10, .int 0, .ref g12, .ref g13, .int 0, .ref g15, .ref g16, .ref g17, .int 0, .ref g19, .ref g20, .ref g21, .ref g22, .ref g23, .ref g24, .ref g25, .ref g26, .ref g27, .ref g28, .int 0, .int 0, .int 0, .int 0, .ref g33, .ref g34, .ref g35, .ref g36, .ref g37, .ref g38, .ref g39, .int 0, .ref g41, .ref g42, .int 0, .ref g44, .ref g45]))] H := hP
  have hD : va_D A [(g, .inr (8, [.int 0, .int 0, .ref g2, .ref g3, .ref g4, .ref g5, .ref g6, .ref g7, .ref g8, .ref g9, .ref g10, .int 0, .ref g12, .ref g13, .int 0, .ref g15, .ref g16, .ref g17, .int 0, .ref g19, .ref g20, .ref g21, .ref g22, .ref g23, .ref g24, .ref g25, .ref g26, .ref g27, .ref g28, .int 0, .int 0, .int 0, .int 0, .ref g33, .ref g34, .ref g35, .ref g36, .ref g37, .ref g38, .ref g39, .int 0, .ref g41, .ref g42, .int 0, .ref g44, .ref g45]))] := hD
  refine lv_if_eq (tgt := 39) hx hb dX8_of_6 (by decide) (fun _ => ?_) (fun c3 => absurd (by decide) c3)
  refine lv_iconst (v := 1) hx hb dX8_of_39 (by decide) ?_
  refine va_put (D := D) (ci := 8) (v := .int 1) (ty := .int) (C := RX8) (T := TX8) (N := 46) hx hb hts hiX8 tyX8 tyX8_ok nmX8 hown hE.1 hP hD hS 0 rfl rfl 0 (by decide) (hts _ (List.mem_of_getElem? (i := 4) rfl)) (fun _ h9 => h9) rfl (by decide +kernel) rfl rfl (Nat.le_of_ble_eq_true rfl) dX8_of_40 (fun H locs hP hD hS => ?_)
  have hP : va_P D vwCl [(g, .inr (8, [.int 1, .int 0, .ref g2, .ref g3, .ref g4, .ref g5, .ref g6, .ref g7, .ref g8, .ref g9, .ref g10, .int 0, .ref g12, .ref g13, .int 0, .ref g15, .ref g16, .ref g17, .int 0, .ref g19, .ref g20, .ref g21, .ref g22, .ref g23, .ref g24, .ref g25, .ref g26, .ref g27, .ref g28, .int 0, .int 0, .int 0, .int 0, .ref g33, .ref g34, .ref g35, .ref g36, .ref g37, .ref g38, .ref g39, .int 0, .ref g41, .ref g42, .int 0, .ref g44, .ref g45]))] H := hP
  have hD : va_D A [(g, .inr (8, [.int 1, .int 0, .ref g2, .ref g3, .ref g4, .ref g5, .ref g6, .ref g7, .ref g8, .ref g9, .ref g10, .int 0, .ref g12, .ref g13, .int 0, .ref g15, .ref g16, .ref g17, .int 0, .ref g19, .ref g20, .ref g21, .ref g22, .ref g23, .ref g24, .ref g25, .ref g26, .ref g27, .ref g28, .int 0, .int 0, .int 0, .int 0, .ref g33, .ref g34, .ref g35, .ref g36, .ref g37, .ref g38, .ref g39, .int 0, .ref g41, .ref g42, .int 0, .ref g44, .ref g45]))] := hD
  refine lv_aload_n hx hb dX8_of_43 rfl (lv_at hl 0 rfl) ?_
  refine va_get (D := D) (ci := 8) (v := .int 1) (C := RX8) (T := TX8) (N := 46) hx hb hts hiX8 hown hE.1 hP 0 rfl rfl 0 (by decide) (hts _ (List.mem_of_getElem? (i := 4) rfl)) (fun _ h9 => h9) rfl dX8_of_44 ?_
  refine lv_if_le (tgt := 52) hx hb dX8_of_47 (by decide) (fun c4 => absurd c4 (by decide)) (fun _ => ?_)
  refine lv_iconst (v := 0) hx hb dX8_of_50 (by decide) ?_
  refine k_iret (u := [(g, .inr (8, [.int 1, .int 0, .ref g2, .ref g3, .ref g4, .ref g5, .ref g6, .ref g7, .ref g8, .ref g9, .ref g10, .int 0, .ref g12, .ref g13, .int 0, .ref g15, .ref g16, .ref g17, .int 0, .ref g19, .ref g20, .ref g21, .ref g22, .ref g23, .ref g24, .ref g25, .ref g26, .ref g27, .ref g28, .int 0, .int 0, .int 0, .int 0, .ref g33, .ref g34, .ref g35, .ref g36, .ref g37, .ref g38, .ref g39, .int 0, .ref g41, .ref g42, .int 0, .ref g44, .ref g45]))]) hx hb hr hlk hP hD hS dX8_of_51 ?_
  exact ⟨rfl, rfl⟩
theorem dX8_share_0 : decode cX8_share 0 = .ok (.aload_n 0, 1) := by decide +kernel
theorem dX8_share_1 : decode cX8_share 1 = .ok (.aload_n 0, 1) := by decide +kernel
theorem dX8_share_2 : decode cX8_share 2 = .ok (.iload_n 1, 1) := by decide +kernel
theorem dX8_share_3 : decode cX8_share 3 = .ok (.invokevirtual 252, 3) := by decide +kernel
theorem dX8_share_6 : decode cX8_share 6 = .ok (.ifCond .eq 27, 3) := by decide +kernel
theorem dX8_share_33 : decode cX8_share 33 = .ok (.iconst 1, 1) := by decide +kernel
theorem dX8_share_34 : decode cX8_share 34 = .ok (.putfield 116, 3) := by decide +kernel
theorem dX8_share_37 : decode cX8_share 37 = .ok (.aload_n 0, 1) := by decide +kernel
theorem dX8_share_38 : decode cX8_share 38 = .ok (.getfield 116, 3) := by decide +kernel
theorem dX8_share_41 : decode cX8_share 41 = .ok (.ifCond .le 5, 3) := by decide +kernel
theorem dX8_share_44 : decode cX8_share 44 = .ok (.iconst 0, 1) := by decide +kernel
theorem dX8_share_45 : decode cX8_share 45 = .ok (.ireturn, 1) := by decide +kernel
set_option maxRecDepth 20000 in
theorem ggX8_share_X8_isLoss : GoodIn wsX8_share wsX8_isLoss := goodIn_r _ [16, 17, 18, 19, 15, 20, 111, 112, 113, 114, 115, 116, 117, 118, 119, 120, 121, 122, 123, 124, 125, 126, 127, 128, 129, 130, 131, 132, 133, 134, 135, 136, 137, 138, 139, 140, 141, 142, 143, 144, 145, 146, 147, 148, 149, 150, 151, 152, 153, 154, 155, 156] (by decide +kernel) (by decide +kernel)
set_option maxRecDepth 20000 in
theorem gX8_share_X8_isLoss : GoodIn wsX8_share (wsV RX8 252 RX8 yX8_isLoss wsX8_isLoss) := goodIn_app (goodIn_of _ (by decide +kernel)) ggX8_share_X8_isLoss
set_option maxHeartbeats 4000000 in
set_option maxRecDepth 100000 in
theorem f_X8_share (l : Launch) (D : va_G) (cI cJ : ClassId) (sz : Nat) (g g2 g3 g4 g5 g6 g7 g8 g9 g10 g12 g13 g15 g16 g17 g19 g20 g21 g22 g23 g24 g25 g26 g27 g28 g33 g34 g35 g36 g37 g38 g39 g41 g42 g44 g45 : Nat) (p0 p1 p2 : Int32) : Met l yX8_share wsX8_share { frames := 2, cells := 0, slots := 0, locals := 46 } (cPc D cI cJ [.ref g, .int p0, .int p1, .int p2] sz [(g, .inr (8, [.int 0, .int 0, .ref g2, .ref g3, .ref g4, .ref g5, .ref g6, .ref g7, .ref g8, .ref g9, .ref g10, .int 0, .ref g12, .ref g13, .int 0, .ref g15, .ref g16, .ref g17, .int 0, .ref g19, .ref g20, .ref g21, .ref g22, .ref g23, .ref g24, .ref g25, .ref g26, .ref g27, .ref g28, .int 0, .int 0, .int 0, .int 0, .ref g33, .ref g34, .ref g35, .ref g36, .ref g37, .ref g38, .ref g39, .int 0, .ref g41, .ref g42, .int 0, .ref g44, .ref g45]))]) (cQi D (fun r u => r = 0 ∧ u = [(g, .inr (8, [.int 1, .int 0, .ref g2, .ref g3, .ref g4, .ref g5, .ref g6, .ref g7, .ref g8, .ref g9, .ref g10, .int 0, .ref g12, .ref g13, .int 0, .ref g15, .ref g16, .ref g17, .int 0, .ref g19, .ref g20, .ref g21, .ref g22, .ref g23, .ref g24, .ref g25, .ref g26, .ref g27, .ref g28, .int 0, .int 0, .int 0, .int 0, .ref g33, .ref g34, .ref g35, .ref g36, .ref g37, .ref g38, .ref g39, .int 0, .ref g41, .ref g42, .int 0, .ref g44, .ref g45]))]) (va_A [(g, .inr (8, [.int 0, .int 0, .ref g2, .ref g3, .ref g4, .ref g5, .ref g6, .ref g7, .ref g8, .ref g9, .ref g10, .int 0, .ref g12, .ref g13, .int 0, .ref g15, .ref g16, .ref g17, .int 0, .ref g19, .ref g20, .ref g21, .ref g22, .ref g23, .ref g24, .ref g25, .ref g26, .ref g27, .ref g28, .int 0, .int 0, .int 0, .int 0, .ref g33, .ref g34, .ref g35, .ref g36, .ref g37, .ref g38, .ref g39, .int 0, .ref g41, .ref g42, .int 0, .ref g44, .ref g45]))] sz)) 0 0 (va_A [(g, .inr (8, [.int 0, .int 0, .ref g2, .ref g3, .ref g4, .ref g5, .ref g6, .ref g7, .ref g8, .ref g9, .ref g10, .int 0, .ref g12, .ref g13, .int 0, .ref g15, .ref g16, .ref g17, .int 0, .ref g19, .ref g20, .ref g21, .ref g22, .ref g23, .ref g24, .ref g25, .ref g26, .ref g27, .ref g28, .int 0, .int 0, .int 0, .int 0, .ref g33, .ref g34, .ref g35, .ref g36, .ref g37, .ref g38, .ref g39, .int 0, .ref g41, .ref g42, .int 0, .ref g44, .ref g45]))] sz) := by
  refine k_ofW (Qc := cQi D (fun r u => r = 0 ∧ u = [(g, .inr (8, [.int 1, .int 0, .ref g2, .ref g3, .ref g4, .ref g5, .ref g6, .ref g7, .ref g8, .ref g9, .ref g10, .int 0, .ref g12, .ref g13, .int 0, .ref g15, .ref g16, .ref g17, .int 0, .ref g19, .ref g20, .ref g21, .ref g22, .ref g23, .ref g24, .ref g25, .ref g26, .ref g27, .ref g28, .int 0, .int 0, .int 0, .int 0, .ref g33, .ref g34, .ref g35, .ref g36, .ref g37, .ref g38, .ref g39, .int 0, .ref g41, .ref g42, .int 0, .ref g44, .ref g45]))])) (by decide) rfl (Nat.le_of_ble_eq_true rfl) ?_
  intro p e s m below meth c A ls hx hb hr hml hts hown hlk hnm hsz hE hP hD hS hA hl
  have hown : s.vm.findClass RX8 = some m.cls := hown
  have hiX8 : ∀ w ∈ u_ws RX8 TX8 46, w ∈ wsX8_share := fun w h => List.mem_cons_of_mem _ (List.mem_append_right _ h)
  have hl : lv_has ls 4 [(0, .ref g), (1, .int p0), (2, .int p1), (3, .int p2)] := hl
  refine lv_aload_n hx hb dX8_share_0 rfl (lv_at hl 0 rfl) ?_
  refine lv_aload_n hx hb dX8_share_1 rfl (lv_at hl 0 rfl) ?_
  refine lv_iload_n hx hb dX8_share_2 rfl (lv_at hl 1 rfl) ?_
  refine k_i (va_runV (As := [.int p0]) (rest := [.ref g]) ⟨hx, hb, hml, hown, hts⟩ (f_X8_isLoss l D cI cJ (s.heap).size g g2 g3 g4 g5 g6 g7 g8 g9 g10 g12 g13 g15 g16 g17 g19 g20 g21 g22 g23 g24 g25 g26 g27 g28 g33 g34 g35 g36 g37 g38 g39 g41 g42 g44 g45 p0) (cwV 1 hts gX8_share_X8_isLoss rfl rfl rfl (by decide +kernel) ⟨Nat.le_of_ble_eq_true rfl, Nat.le_of_ble_eq_true rfl⟩) (k_preV hE hP hD [0] (by decide) rfl 0 rfl rfl) rfl rfl hl.1 rfl (lv_room (Nat.le_of_ble_eq_true rfl)) dX8_share_3 ⟨Nat.le_of_ble_eq_true rfl, Nat.le_of_ble_eq_true rfl⟩) hP hD hS hA [0] [] rfl (wr := []) rfl (by decide) (by decide) (fun r1 u H locs hw2 hP hD hS => ?_)
  obtain ⟨rfl, rfl⟩ := hw2
  have hP : va_P D vwCl [(g, .inr (8, [.int 0, .int 0, .ref g2, .ref g3, .ref g4, .ref g5, .ref g6, .ref g7, .ref g8, .ref g9, .ref g10, .int 0, .ref g12, .ref g13, .int 0, .ref g15, .ref g16, .ref g17, .int 0, .ref g19, .ref g20, .ref g21, .ref g22, .ref g23, .ref g24, .ref g25, .ref g26, .ref g27, .ref g28, .int 0, .int 0, .int 0, .int 0, .ref g33, .ref g34, .ref g35, .ref g36, .ref g37, .ref g38, .ref g39, .int 0, .ref g41, .ref g42, .int 0, .ref g44, .ref g45]))] H := hP
  have hD : va_D A [(g, .inr (8, [.int 0, .int 0, .ref g2, .ref g3, .ref g4, .ref g5, .ref g6, .ref g7, .ref g8, .ref g9, .ref g10, .int 0, .ref g12, .ref g13, .int 0, .ref g15, .ref g16, .ref g17, .int 0, .ref g19, .ref g20, .ref g21, .ref g22, .ref g23, .ref g24, .ref g25, .ref g26, .ref g27, .ref g28, .int 0, .int 0, .int 0, .int 0, .ref g33, .ref g34, .ref g35, .ref g36, .ref g37, .ref g38, .ref g39, .int 0, .ref g41, .ref g42, .int 0, .ref g44, .ref g45]))] := hD
  refine lv_if_eq (tgt := 33) hx hb dX8_share_6 (by decide) (fun _ => ?_) (fun c3 => absurd (by decide) c3)
  refine lv_iconst (v := 1) hx hb dX8_share_33 (by decide) ?_
  refine va_put (D := D) (ci := 8) (v := .int 1) (ty := .int) (C := RX8) (T := TX8) (N := 46) hx hb hts hiX8 tyX8 tyX8_ok nmX8 hown hE.1 hP hD hS 0 rfl rfl 0 (by decide) (hts _ (List.mem_of_getElem? (i := 2) rfl)) (fun _ h9 => h9) rfl (by decide +kernel) rfl rfl (Nat.le_of_ble_eq_true rfl) dX8_share_34 (fun H locs hP hD hS => ?_)
  have hP : va_P D vwCl [(g, .inr (8, [.int 1, .int 0, .ref g2, .ref g3, .ref g4, .ref g5, .ref g6, .ref g7, .ref g8, .ref g9, .ref g10, .int 0, .ref g12, .ref g13, .int 0, .ref g15, .ref g16, .ref g17, .int 0, .ref g19, .ref g20, .ref g21, .ref g22, .ref g23, .ref g24, .ref g25, .ref g26, .ref g27, .ref g28, .int 0, .int 0, .int 0, .int 0, .ref g33, .ref g34, .ref g35, .ref g36, .ref g37, .ref g38, .ref g39, .int 0, .ref g41, .ref g42, .int 0, .ref g44, .ref g45]))] H := hP
  have hD : va_D A [(g, .inr (8, [.int 1, .int 0, .ref g2, .ref g3, .ref g4, .ref g5, .ref g6, .ref g7, .ref g8, .ref g9, .ref g10, .int 0, .ref g12, .ref g13, .int 0, .ref g15, .ref g16, .ref g17, .int 0, .ref g19, .ref g20, .ref g21, .ref g22, .ref g23, .ref g24, .ref g25, .ref g26, .ref g27, .ref g28, .int 0, .int 0, .int 0, .int 0, .ref g33, .ref g34, .ref g35, .ref g36, .ref g37, .ref g38, .ref g39, .int 0, .ref g41, .ref g42, .int 0, .ref g44, .ref g45]))] := hD
  refine lv_aload_n hx hb dX8_share_37 rfl (lv_at hl 0 rfl) ?_
  refine va_get (D := D) (ci := 8) (v := .int 1) (C := RX8) (T := TX8) (N := 46) hx hb hts hiX8 hown hE.1 hP 0 rfl rfl 0 (by decide) (hts _ (List.mem_of_getElem? (i := 2) rfl)) (fun _ h9 => h9) rfl dX8_share_38 ?_
  refine lv_if_le (tgt := 46) hx hb dX8_share_41 (by decide) (fun c4 => absurd c4 (by decide)) (fun _ => ?_)
  refine lv_iconst (v := 0) hx hb dX8_share_44 (by decide) ?_
  refine k_iret (u := [(g, .inr (8, [.int 1, .int 0, .ref g2, .ref g3, .ref g4, .ref g5, .ref g6, .ref g7, .ref g8, .ref g9, .ref g10, .int 0, .ref g12, .ref g13, .int 0, .ref g15, .ref g16, .ref g17, .int 0, .ref g19, .ref g20, .ref g21, .ref g22, .ref g23, .ref g24, .ref g25, .ref g26, .ref g27, .ref g28, .int 0, .int 0, .int 0, .int 0, .ref g33, .ref g34, .ref g35, .ref g36, .ref g37, .ref g38, .ref g39, .int 0, .ref g41, .ref g42, .int 0, .ref g44, .ref g45]))]) hx hb hr hlk hP hD hS dX8_share_45 ?_
  exact ⟨rfl, rfl⟩
theorem dX8_thrown_0 : decode cX8_thrown 0 = .ok (.aload_n 0, 1) := by decide +kernel
theorem dX8_thrown_1 : decode cX8_thrown 1 = .ok (.getfield 116, 3) := by decide +kernel
theorem dX8_thrown_4 : decode cX8_thrown 4 = .ok (.ireturn, 1) := by decide +kernel
set_option maxHeartbeats 4000000 in
set_option maxRecDepth 100000 in
theorem m_X8_thrown (l : Launch) (D : va_G) (cI cJ : ClassId) (sz : Nat) (g g2 g3 g4 g5 g6 g7 g8 g9 g10 g12 g13 g15 g16 g17 g19 g20 g21 g22 g23 g24 g25 g26 g27 g28 g33 g34 g35 g36 g37 g38 g39 g41 g42 g44 g45 : Nat) (gi0 gi1 gi11 gi14 gi18 gi29 gi30 gi31 gi32 gi40 gi43 : Int32) : Met l yX8_thrown wsX8_thrown { frames := 0, cells := 0, slots := 0, locals := 0 } (cPc D cI cJ [.ref g] sz [(g, .inr (8, [.int gi0, .int gi1, .ref g2, .ref g3, .ref g4, .ref g5, .ref g6, .ref g7, .ref g8, .ref g9, .ref g10, .int gi11, .ref g12, .ref g13, .int gi14, .ref g15, .ref g16, .ref g17, .int gi18, .ref g19, .ref g20, .ref g21, .ref g22, .ref g23, .ref g24, .ref g25, .ref g26, .ref g27, .ref g28, .int gi29, .int gi30, .int gi31, .int gi32, .ref g33, .ref g34, .ref g35, .ref g36, .ref g37, .ref g38, .ref g39, .int gi40, .ref g41, .ref g42, .int gi43, .ref g44, .ref g45]))]) (cQi D (fun r u => r = gi0 ∧ u = [(g, .inr (8, [.int gi0, .int gi1, .ref g2, .ref g3, .ref g4, .ref g5, .ref g6, .ref g7, .ref g8, .ref g9, .ref g10, .int gi11, .ref g12, .ref g13, .int gi14, .ref g15, .ref g16, .ref g17, .int gi18, .ref g19, .ref g20, .ref g21, .ref g22, .ref g23, .ref g24, .ref g25, .ref g26, .ref g27, .ref g28, .int gi29, .int gi30, .int gi31, .int gi32, .ref g33, .ref g34, .ref g35, .ref g36, .ref g37, .ref g38, .ref g39, .int gi40, .ref g41, .ref g42, .int gi43, .ref g44, .ref g45]))]) (va_A [(g, .inr (8, [.int gi0, .int gi1, .ref g2, .ref g3, .ref g4, .ref g5, .ref g6, .ref g7, .ref g8, .ref g9, .ref g10, .int gi11, .ref g12, .ref g13, .int gi14, .ref g15, .ref g16, .ref g17, .int gi18, .ref g19, .ref g20, .ref g21, .ref g22, .ref g23, .ref g24, .ref g25, .ref g26, .ref g27, .ref g28, .int gi29, .int gi30, .int gi31, .int gi32, .ref g33, .ref g34, .ref g35, .ref g36, .ref g37, .ref g38, .ref g39, .int gi40, .ref g41, .ref g42, .int gi43, .ref g44, .ref g45]))] sz)) 0 0 (va_A [(g, .inr (8, [.int gi0, .int gi1, .ref g2, .ref g3, .ref g4, .ref g5, .ref g6, .ref g7, .ref g8, .ref g9, .ref g10, .int gi11, .ref g12, .ref g13, .int gi14, .ref g15, .ref g16, .ref g17, .int gi18, .ref g19, .ref g20, .ref g21, .ref g22, .ref g23, .ref g24, .ref g25, .ref g26, .ref g27, .ref g28, .int gi29, .int gi30, .int gi31, .int gi32, .ref g33, .ref g34, .ref g35, .ref g36, .ref g37, .ref g38, .ref g39, .int gi40, .ref g41, .ref g42, .int gi43, .ref g44, .ref g45]))] sz) := by
  refine k_ofW (Qc := cQi D (fun r u => r = gi0 ∧ u = [(g, .inr (8, [.int gi0, .int gi1, .ref g2, .ref g3, .ref g4, .ref g5, .ref g6, .ref g7, .ref g8, .ref g9, .ref g10, .int gi11, .ref g12, .ref g13, .int gi14, .ref g15, .ref g16, .ref g17, .int gi18, .ref g19, .ref g20, .ref g21, .ref g22, .ref g23, .ref g24, .ref g25, .ref g26, .ref g27, .ref g28, .int gi29, .int gi30, .int gi31, .int gi32, .ref g33, .ref g34, .ref g35, .ref g36, .ref g37, .ref g38, .ref g39, .int gi40, .ref g41, .ref g42, .int gi43, .ref g44, .ref g45]))])) (by decide) rfl (Nat.le_of_ble_eq_true rfl) ?_
  intro p e s m below meth c A ls hx hb hr hml hts hown hlk hnm hsz hE hP hD hS hA hl
  have hown : s.vm.findClass RX8 = some m.cls := hown
  have hiX8 : ∀ w ∈ u_ws RX8 TX8 46, w ∈ wsX8_thrown := fun w h => List.mem_cons_of_mem _ (List.mem_append_right _ h)
  have hl : lv_has ls 1 [(0, .ref g)] := hl
  refine lv_aload_n hx hb dX8_thrown_0 rfl (lv_at hl 0 rfl) ?_
  refine va_get (D := D) (ci := 8) (v := .int gi0) (C := RX8) (T := TX8) (N := 46) hx hb hts hiX8 hown hE.1 hP 0 rfl rfl 0 (by decide) (hts _ (List.mem_of_getElem? (i := 1) rfl)) (fun _ h9 => h9) rfl dX8_thrown_1 ?_
  refine k_iret (u := [(g, .inr (8, [.int gi0, .int gi1, .ref g2, .ref g3, .ref g4, .ref g5, .ref g6, .ref g7, .ref g8, .ref g9, .ref g10, .int gi11, .ref g12, .ref g13, .int gi14, .ref g15, .ref g16, .ref g17, .int gi18, .ref g19, .ref g20, .ref g21, .ref g22, .ref g23, .ref g24, .ref g25, .ref g26, .ref g27, .ref g28, .int gi29, .int gi30, .int gi31, .int gi32, .ref g33, .ref g34, .ref g35, .ref g36, .ref g37, .ref g38, .ref g39, .int gi40, .ref g41, .ref g42, .int gi43, .ref g44, .ref g45]))]) hx hb hr hlk hP hD hS dX8_thrown_4 ?_
  exact ⟨rfl, rfl⟩
