theorem dX8_thrown_0 : decode cX8_thrown 0 = .ok (.aload_n 0, 1) := by decide +kernel
theorem dX8_thrown_1 : decode cX8_thrown 1 = .ok (.getfield 116, 3) := by decide +kernel
theorem dX8_thrown_4 : decode cX8_thrown 4 = .ok (.ireturn, 1) := by decide +kernel
set_option maxHeartbeats 4000000 in
set_option maxRecDepth 100000 in
theorem e_X8_thrown (l : Launch) (D : va_G) (cI cJ : ClassId) (sz : Nat) (g g2 g3 g4 g5 g6 g7 g8 g9 g10 g12 g13 g15 g16 g17 g19 g20 g21 g22 g23 g24 g25 g26 g27 g28 g33 g34 g35 g36 g37 g38 g39 g41 g42 g44 g45 mn ml mv tt : Nat) (gi0 gi14 gi18 gi29 gi30 gi40 gi43 : Int32) : Met l yX8_thrown wtX8_thrown { frames := 0, cells := 0, slots := 0, locals := 0 } (cPc D cI cJ [.ref g] sz [(oX8 g gi0 (nI mn) g2 g3 g4 g5 g6 g7 g8 g9 g10 (nI ml) g12 g13 gi14 g15 g16 g17 gi18 g19 g20 g21 g22 g23 g24 g25 g26 g27 g28 gi29 gi30 (nI mv) (nI tt) g33 g34 g35 g36 g37 g38 g39 gi40 g41 g42 gi43 g44 g45)]) (cQi D (fun r u => r = gi0 ∧ u = [(oX8 g gi0 (nI mn) g2 g3 g4 g5 g6 g7 g8 g9 g10 (nI ml) g12 g13 gi14 g15 g16 g17 gi18 g19 g20 g21 g22 g23 g24 g25 g26 g27 g28 gi29 gi30 (nI mv) (nI tt) g33 g34 g35 g36 g37 g38 g39 gi40 g41 g42 gi43 g44 g45)]) (va_A [(oX8 g gi0 (nI mn) g2 g3 g4 g5 g6 g7 g8 g9 g10 (nI ml) g12 g13 gi14 g15 g16 g17 gi18 g19 g20 g21 g22 g23 g24 g25 g26 g27 g28 gi29 gi30 (nI mv) (nI tt) g33 g34 g35 g36 g37 g38 g39 gi40 g41 g42 gi43 g44 g45)] sz)) 0 0 (va_A [(oX8 g gi0 (nI mn) g2 g3 g4 g5 g6 g7 g8 g9 g10 (nI ml) g12 g13 gi14 g15 g16 g17 gi18 g19 g20 g21 g22 g23 g24 g25 g26 g27 g28 gi29 gi30 (nI mv) (nI tt) g33 g34 g35 g36 g37 g38 g39 gi40 g41 g42 gi43 g44 g45)] sz) := by
  refine k_ofW (Qc := cQi D (fun r u => r = gi0 ∧ u = [(oX8 g gi0 (nI mn) g2 g3 g4 g5 g6 g7 g8 g9 g10 (nI ml) g12 g13 gi14 g15 g16 g17 gi18 g19 g20 g21 g22 g23 g24 g25 g26 g27 g28 gi29 gi30 (nI mv) (nI tt) g33 g34 g35 g36 g37 g38 g39 gi40 g41 g42 gi43 g44 g45)])) (by decide) rfl (Nat.le_of_ble_eq_true rfl) ?_
  intro p e s m below meth c A ls hx hb hr hml hts hown hlk hnm hsz hE hP hD hS hA hl
  have hown : s.vm.findClass RX8 = some m.cls := hown
  have hiX8 : ∀ w ∈ u_ws RX8 TX8 46, w ∈ wtX8_thrown := fun w h => List.mem_cons_of_mem _ (iuX8 w h)
  have hl : lv_has ls 1 [(0, .ref g)] := hl
  refine lv_aload_n hx hb dX8_thrown_0 rfl (lv_at hl 0 rfl) ?_
  refine va_get (D := D) (ci := 8) (v := .int gi0) (C := RX8) (T := TX8) (N := 46) hx hb hts hiX8 hown hE.1 hP 0 rfl rfl 0 (by decide) (hts _ (List.mem_cons_of_mem _ wd_171)) (fun _ h9 => h9) rfl dX8_thrown_1 ?_
  refine k_iret (u := [(oX8 g gi0 (nI mn) g2 g3 g4 g5 g6 g7 g8 g9 g10 (nI ml) g12 g13 gi14 g15 g16 g17 gi18 g19 g20 g21 g22 g23 g24 g25 g26 g27 g28 gi29 gi30 (nI mv) (nI tt) g33 g34 g35 g36 g37 g38 g39 gi40 g41 g42 gi43 g44 g45)]) hx hb hr hlk hP hD hS dX8_thrown_4 ?_
  exact ⟨rfl, rfl⟩

