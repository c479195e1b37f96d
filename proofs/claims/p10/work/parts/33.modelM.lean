theorem st_tab : ∀ k : Fin 11, nI k.val - 1 < nI k.val := by decide
theorem st_lt {lx : Int32} {ln k : Nat} (e : lx = nI ln - 1) (hl : ln ≤ 10) (hk : k ≤ ln) (h : ¬ lx < nI k) : k < ln := by
  rcases Nat.lt_or_ge k ln with q | q
  · exact q
  · obtain rfl : k = ln := (by omega)
    exact absurd (by rw [e]; exact st_tab ⟨k, by omega⟩) h
theorem sp_0 {f : Nat → Int32} {ag : Nat → Nat} (h : ∀ k, k < 8 → f k = 0) : SP f ag := ⟨fun _ => 0, h, fun _ _ => Nat.zero_le _⟩
theorem lw_at {f : Nat → Int32} {p : Nat} {v : Int32} (h : LW f) (hp : p < 8) (e : v = f (Int32.toNatClampNeg (nI p))) (hv : ¬ v = -1) : ∃ j : Nat, j < 8 ∧ f (Int32.toNatClampNeg (nI p)) = nI j := by
  rw [nI_clamp (by omega)] at e ⊢
  rw [e] at hv
  exact (h p hp).resolve_left hv
theorem sw_out8 {x : Int32} (c0 : ¬ x = 0) (c1 : ¬ x = 1) (c2 : ¬ x = 2) (c3 : ¬ x = 3) (c4 : ¬ x = 4) (c5 : ¬ x = 5) (c6 : ¬ x = 6) (c7 : ¬ x = 7) : x.toInt < 0 ∨ 7 < x.toInt := by
  rcases pk_ix x (n := 8) (by decide) with h | h | ⟨j, hj, rfl⟩
  · exact Or.inl (Int32.lt_iff_toInt_lt.mp h)
  · have := Int32.le_iff_toInt_le.mp h
    rw [nI_toInt (by decide)] at this
    exact Or.inr (by omega)
  · match j, hj with
    | 0, _ => exact absurd rfl c0
    | 1, _ => exact absurd rfl c1
    | 2, _ => exact absurd rfl c2
    | 3, _ => exact absurd rfl c3
    | 4, _ => exact absurd rfl c4
    | 5, _ => exact absurd rfl c5
    | 6, _ => exact absurd rfl c6
    | 7, _ => exact absurd rfl c7
theorem sw_no {x : Int32} {n : Int} (h : 0 ≤ x ∧ x ≤ 10) (hn : n = 10) (h2 : x.toInt < 0 ∨ n < x.toInt) : False := by
  have h3 := Int32.le_iff_toInt_le.mp h.1
  have h4 := Int32.le_iff_toInt_le.mp h.2
  rw [show Int32.toInt 0 = 0 from rfl] at h3
  rw [show Int32.toInt 10 = 10 from rfl] at h4
  omega
theorem dX8_settlesTo_0 : decode cX8_settlesTo 0 = .ok (.aload_n 0, 1) := by decide +kernel
theorem dX8_settlesTo_1 : decode cX8_settlesTo 1 = .ok (.iload_n 2, 1) := by decide +kernel
theorem dX8_settlesTo_2 : decode cX8_settlesTo 2 = .ok (.putfield 201, 3) := by decide +kernel
theorem dX8_settlesTo_5 : decode cX8_settlesTo 5 = .ok (.iconst 0, 1) := by decide +kernel
theorem dX8_settlesTo_6 : decode cX8_settlesTo 6 = .ok (.istore_n 3, 1) := by decide +kernel
theorem dX8_settlesTo_7 : decode cX8_settlesTo 7 = .ok (.iload_n 3, 1) := by decide +kernel
theorem dX8_settlesTo_8 : decode cX8_settlesTo 8 = .ok (.bipush 8, 2) := by decide +kernel
theorem dX8_settlesTo_10 : decode cX8_settlesTo 10 = .ok (.if_icmp .ge 16, 3) := by decide +kernel
theorem dX8_settlesTo_13 : decode cX8_settlesTo 13 = .ok (.aload_n 0, 1) := by decide +kernel
theorem dX8_settlesTo_14 : decode cX8_settlesTo 14 = .ok (.getfield 79, 3) := by decide +kernel
theorem dX8_settlesTo_17 : decode cX8_settlesTo 17 = .ok (.iload_n 3, 1) := by decide +kernel
theorem dX8_settlesTo_18 : decode cX8_settlesTo 18 = .ok (.iconst 0, 1) := by decide +kernel
theorem dX8_settlesTo_19 : decode cX8_settlesTo 19 = .ok (.iastore, 1) := by decide +kernel
theorem dX8_settlesTo_20 : decode cX8_settlesTo 20 = .ok (.iinc 3 1, 3) := by decide +kernel
theorem dX8_settlesTo_23 : decode cX8_settlesTo 23 = .ok (.goto (-16), 3) := by decide +kernel
theorem dX8_settlesTo_26 : decode cX8_settlesTo 26 = .ok (.iconst 0, 1) := by decide +kernel
theorem dX8_settlesTo_27 : decode cX8_settlesTo 27 = .ok (.istore_n 3, 1) := by decide +kernel
theorem dX8_settlesTo_28 : decode cX8_settlesTo 28 = .ok (.iload_n 3, 1) := by decide +kernel
theorem dX8_settlesTo_29 : decode cX8_settlesTo 29 = .ok (.iload_n 1, 1) := by decide +kernel
theorem dX8_settlesTo_30 : decode cX8_settlesTo 30 = .ok (.if_icmp .gt 14, 3) := by decide +kernel
theorem dX8_settlesTo_33 : decode cX8_settlesTo 33 = .ok (.aload_n 0, 1) := by decide +kernel
theorem dX8_settlesTo_34 : decode cX8_settlesTo 34 = .ok (.iload_n 3, 1) := by decide +kernel
theorem dX8_settlesTo_35 : decode cX8_settlesTo 35 = .ok (.invokevirtual 217, 3) := by decide +kernel
theorem dX8_settlesTo_38 : decode cX8_settlesTo 38 = .ok (.iinc 3 1, 3) := by decide +kernel
theorem dX8_settlesTo_41 : decode cX8_settlesTo 41 = .ok (.goto (-13), 3) := by decide +kernel
theorem dX8_settlesTo_44 : decode cX8_settlesTo 44 = .ok (.return_, 1) := by decide +kernel
theorem gX8_settlesTo_X8_settles : GoodIn wtX8_settlesTo (wsV RX8 217 RX8 yX8_settles wtX8_settles) := tb_good (tb_v0 wd_417 wd_418 wd_419 wd_5 wd_420)
set_option maxHeartbeats 4000000 in
set_option maxRecDepth 100000 in
theorem m_X8_settlesTo (l : Launch) (D : va_G) (cI cJ : ClassId) (sz : Nat) (g g2 g3 g4 g5 g6 g7 g8 g9 g10 g12 g13 g15 g16 g17 g19 g20 g21 g22 g23 g24 g25 g26 g27 g28 g33 g34 g35 g36 g37 g38 g39 g41 g42 g44 g45 mn ml mv tt ln : Nat) (gi0 gi14 gi18 gi29 gi30 gi40 gi43 lx se : Int32) (G2 G3 G4 G5 G6 G7 G8 G10 G12 G13 G19 G20 G21 G22 G23 G24 G25 G26 G27 G28 G33 G34 G35 G36 : Nat → Int32) (G37 : Nat → Int64) (li0 wo0 de0 ag0 : Nat → Nat) (helx : lx = nI ln - 1) (hln : ln ≤ 10) (hit : ∀ k, k < 10 → ∃ j : Nat, j < 8 ∧ G12 k = nI j) (hsu : ∀ k, k < 64 → ∃ j : Nat, j ≤ 1000001 ∧ G10 k = nI j) (hliv : nv G2 li0) (hlib : ∀ k, k < 8 → li0 k ≤ 1000000) (hwov : nv G5 wo0) (hwob : ∀ k, k < 8 → wo0 k ≤ 9000000) (hdev : nv G4 de0) (hdeb : ∀ k, k < 8 → de0 k ≤ 99999) (hagv : nv G3 ag0) (hagb : ∀ k, k < 8 → ag0 k ≤ 9000000) (hamt : ∀ k, k < 10 → ∃ j : Nat, j < 1000001 ∧ G13 k = nI j) (hLE : LE G19) (hLO : LO G20) (hLW : LW G25) (hSH : SH G27 tt) (htt : tt ≤ 1000000) (hmv : mv ≤ 8) : Met l yX8_settlesTo wtX8_settlesTo { frames := 7, cells := 0, slots := 0, locals := 166 } (cPc D cI cJ [.ref g, .int lx, .int se] sz [(oX8 g gi0 (nI mn) g2 g3 g4 g5 g6 g7 g8 g9 g10 (nI ml) g12 g13 gi14 g15 g16 g17 gi18 g19 g20 g21 g22 g23 g24 g25 g26 g27 g28 gi29 gi30 (nI mv) (nI tt) g33 g34 g35 g36 g37 g38 g39 gi40 g41 g42 gi43 g44 g45), (aIc cI g2 8 G2), (aIc cI g3 8 G3), (aIc cI g4 8 G4), (aIc cI g5 8 G5), (aIc cI g6 8 G6), (aIc cI g7 8 G7), (aIc cI g8 8 G8), (aIc cI g10 64 G10), (aIc cI g12 10 G12), (aIc cI g13 10 G13), (aIc cI g19 8 G19), (aIc cI g20 8 G20), (aIc cI g21 8 G21), (aIc cI g22 8 G22), (aIc cI g23 8 G23), (aIc cI g24 8 G24), (aIc cI g25 8 G25), (aIc cI g26 8 G26), (aIc cI g27 8 G27), (aIc cI g28 8 G28), (aIc cI g33 8 G33), (aIc cI g34 8 G34), (aIc cI g35 8 G35), (aIc cI g36 8 G36), (aJc cJ g37 8 G37)]) (cQv D (fun u => ∃ (G19p G20p G21p G22p G23p G24p G25p G26p G27p G28p G33p G34p G35p G36p : Nat → Int32) (G37p : Nat → Int64) (gi29p gi30p gi18p : Int32) (mvp ttp : Nat), (LE G19p) ∧ (LO G20p) ∧ (LW G25p) ∧ (SH G27p ttp) ∧ (ttp ≤ 1000000) ∧ (mvp ≤ 8) ∧ (SP G28p ag0) ∧ u = [(oX8 g gi0 (nI mn) g2 g3 g4 g5 g6 g7 g8 g9 g10 (nI ml) g12 g13 gi14 g15 g16 g17 gi18p g19 g20 g21 g22 g23 g24 g25 g26 g27 g28 gi29p gi30p (nI mvp) (nI ttp) g33 g34 g35 g36 g37 g38 g39 gi40 g41 g42 gi43 g44 g45), (aIc cI g2 8 G2), (aIc cI g3 8 G3), (aIc cI g4 8 G4), (aIc cI g5 8 G5), (aIc cI g6 8 G6), (aIc cI g7 8 G7), (aIc cI g8 8 G8), (aIc cI g10 64 G10), (aIc cI g12 10 G12), (aIc cI g13 10 G13), (aIc cI g19 8 G19p), (aIc cI g20 8 G20p), (aIc cI g21 8 G21p), (aIc cI g22 8 G22p), (aIc cI g23 8 G23p), (aIc cI g24 8 G24p), (aIc cI g25 8 G25p), (aIc cI g26 8 G26p), (aIc cI g27 8 G27p), (aIc cI g28 8 G28p), (aIc cI g33 8 G33p), (aIc cI g34 8 G34p), (aIc cI g35 8 G35p), (aIc cI g36 8 G36p), (aJc cJ g37 8 G37p)]) (va_A [(oX8 g gi0 (nI mn) g2 g3 g4 g5 g6 g7 g8 g9 g10 (nI ml) g12 g13 gi14 g15 g16 g17 gi18 g19 g20 g21 g22 g23 g24 g25 g26 g27 g28 gi29 gi30 (nI mv) (nI tt) g33 g34 g35 g36 g37 g38 g39 gi40 g41 g42 gi43 g44 g45), (aIc cI g2 8 G2), (aIc cI g3 8 G3), (aIc cI g4 8 G4), (aIc cI g5 8 G5), (aIc cI g6 8 G6), (aIc cI g7 8 G7), (aIc cI g8 8 G8), (aIc cI g10 64 G10), (aIc cI g12 10 G12), (aIc cI g13 10 G13), (aIc cI g19 8 G19), (aIc cI g20 8 G20), (aIc cI g21 8 G21), (aIc cI g22 8 G22), (aIc cI g23 8 G23), (aIc cI g24 8 G24), (aIc cI g25 8 G25), (aIc cI g26 8 G26), (aIc cI g27 8 G27), (aIc cI g28 8 G28), (aIc cI g33 8 G33), (aIc cI g34 8 G34), (aIc cI g35 8 G35), (aIc cI g36 8 G36), (aJc cJ g37 8 G37)] sz)) 0 0 (va_A [(oX8 g gi0 (nI mn) g2 g3 g4 g5 g6 g7 g8 g9 g10 (nI ml) g12 g13 gi14 g15 g16 g17 gi18 g19 g20 g21 g22 g23 g24 g25 g26 g27 g28 gi29 gi30 (nI mv) (nI tt) g33 g34 g35 g36 g37 g38 g39 gi40 g41 g42 gi43 g44 g45), (aIc cI g2 8 G2), (aIc cI g3 8 G3), (aIc cI g4 8 G4), (aIc cI g5 8 G5), (aIc cI g6 8 G6), (aIc cI g7 8 G7), (aIc cI g8 8 G8), (aIc cI g10 64 G10), (aIc cI g12 10 G12), (aIc cI g13 10 G13), (aIc cI g19 8 G19), (aIc cI g20 8 G20), (aIc cI g21 8 G21), (aIc cI g22 8 G22), (aIc cI g23 8 G23), (aIc cI g24 8 G24), (aIc cI g25 8 G25), (aIc cI g26 8 G26), (aIc cI g27 8 G27), (aIc cI g28 8 G28), (aIc cI g33 8 G33), (aIc cI g34 8 G34), (aIc cI g35 8 G35), (aIc cI g36 8 G36), (aJc cJ g37 8 G37)] sz) := by
  refine k_ofW (Qc := cQv D (fun u => ∃ (G19p G20p G21p G22p G23p G24p G25p G26p G27p G28p G33p G34p G35p G36p : Nat → Int32) (G37p : Nat → Int64) (gi29p gi30p gi18p : Int32) (mvp ttp : Nat), (LE G19p) ∧ (LO G20p) ∧ (LW G25p) ∧ (SH G27p ttp) ∧ (ttp ≤ 1000000) ∧ (mvp ≤ 8) ∧ (SP G28p ag0) ∧ u = [(oX8 g gi0 (nI mn) g2 g3 g4 g5 g6 g7 g8 g9 g10 (nI ml) g12 g13 gi14 g15 g16 g17 gi18p g19 g20 g21 g22 g23 g24 g25 g26 g27 g28 gi29p gi30p (nI mvp) (nI ttp) g33 g34 g35 g36 g37 g38 g39 gi40 g41 g42 gi43 g44 g45), (aIc cI g2 8 G2), (aIc cI g3 8 G3), (aIc cI g4 8 G4), (aIc cI g5 8 G5), (aIc cI g6 8 G6), (aIc cI g7 8 G7), (aIc cI g8 8 G8), (aIc cI g10 64 G10), (aIc cI g12 10 G12), (aIc cI g13 10 G13), (aIc cI g19 8 G19p), (aIc cI g20 8 G20p), (aIc cI g21 8 G21p), (aIc cI g22 8 G22p), (aIc cI g23 8 G23p), (aIc cI g24 8 G24p), (aIc cI g25 8 G25p), (aIc cI g26 8 G26p), (aIc cI g27 8 G27p), (aIc cI g28 8 G28p), (aIc cI g33 8 G33p), (aIc cI g34 8 G34p), (aIc cI g35 8 G35p), (aIc cI g36 8 G36p), (aJc cJ g37 8 G37p)])) (by decide) rfl (Nat.le_of_ble_eq_true rfl) ?_
  intro p e s m below meth c A ls hx hb hr hml hts hown hlk hnm hsz hE hP hD hS hA hl
  have hown : s.vm.findClass RX8 = some m.cls := hown
  have hiX8 : ∀ w ∈ u_ws RX8 TX8 46, w ∈ wtX8_settlesTo := fun w h => List.mem_cons_of_mem _ (iuX8 w h)
  have hl : lv_has ls 4 [(0, .ref g), (1, .int lx), (2, .int se)] := hl
  refine lv_aload_n hx hb dX8_settlesTo_0 rfl (lv_at hl 0 rfl) ?_
  refine lv_iload_n hx hb dX8_settlesTo_1 rfl (lv_at hl 2 rfl) ?_
  refine va_put (D := D) (ci := 8) (v := .int se) (ty := .int) (C := RX8) (T := TX8) (N := 46) hx hb hts hiX8 tyX8 tyX8_ok nmX8 hown hE.1 hP hD hS 0 rfl rfl 18 (by decide) (hts _ (List.mem_cons_of_mem _ wd_411)) (fun _ h9 => h9) rfl (by decide +kernel) rfl rfl (Nat.le_of_ble_eq_true rfl) dX8_settlesTo_2 (fun H locs hP hD hS => ?_)
  refine k_re (w := [(oX8 g gi0 (nI mn) g2 g3 g4 g5 g6 g7 g8 g9 g10 (nI ml) g12 g13 gi14 g15 g16 g17 se g19 g20 g21 g22 g23 g24 g25 g26 g27 g28 gi29 gi30 (nI mv) (nI tt) g33 g34 g35 g36 g37 g38 g39 gi40 g41 g42 gi43 g44 g45), (aIc cI g2 8 G2), (aIc cI g3 8 G3), (aIc cI g4 8 G4), (aIc cI g5 8 G5), (aIc cI g6 8 G6), (aIc cI g7 8 G7), (aIc cI g8 8 G8), (aIc cI g10 64 G10), (aIc cI g12 10 G12), (aIc cI g13 10 G13), (aIc cI g19 8 G19), (aIc cI g20 8 G20), (aIc cI g21 8 G21), (aIc cI g22 8 G22), (aIc cI g23 8 G23), (aIc cI g24 8 G24), (aIc cI g25 8 G25), (aIc cI g26 8 G26), (aIc cI g27 8 G27), (aIc cI g28 8 G28), (aIc cI g33 8 G33), (aIc cI g34 8 G34), (aIc cI g35 8 G35), (aIc cI g36 8 G36), (aJc cJ g37 8 G37)]) hP hD (fun hP hD => ?_)
  refine lv_iconst (v := 0) hx hb dX8_settlesTo_5 (by decide) ?_
  refine lv_istore_n (lv' := [(3, .int 0), (0, .ref g), (1, .int lx), (2, .int se)]) hx hb dX8_settlesTo_6 rfl hl (by decide) rfl (fun ls hl => ?_)
  have J7 : ∀ (zz : Nat) (i7 : Nat) (a_g28_7 : Nat → Int32), (i7 ≤ 8) → (∀ k, k < i7 → a_g28_7 k = 0) → (8 - i7) < zz → ∀ (H : Heap) (locs : List Loc) (ls : Array Slot), va_P D vwCl [(oX8 g gi0 (nI mn) g2 g3 g4 g5 g6 g7 g8 g9 g10 (nI ml) g12 g13 gi14 g15 g16 g17 se g19 g20 g21 g22 g23 g24 g25 g26 g27 g28 gi29 gi30 (nI mv) (nI tt) g33 g34 g35 g36 g37 g38 g39 gi40 g41 g42 gi43 g44 g45), (aIc cI g2 8 G2), (aIc cI g3 8 G3), (aIc cI g4 8 G4), (aIc cI g5 8 G5), (aIc cI g6 8 G6), (aIc cI g7 8 G7), (aIc cI g8 8 G8), (aIc cI g10 64 G10), (aIc cI g12 10 G12), (aIc cI g13 10 G13), (aIc cI g19 8 G19), (aIc cI g20 8 G20), (aIc cI g21 8 G21), (aIc cI g22 8 G22), (aIc cI g23 8 G23), (aIc cI g24 8 G24), (aIc cI g25 8 G25), (aIc cI g26 8 G26), (aIc cI g27 8 G27), (aIc cI g28 8 a_g28_7), (aIc cI g33 8 G33), (aIc cI g34 8 G34), (aIc cI g35 8 G35), (aIc cI g36 8 G36), (aJc cJ g37 8 G37)] H → va_D A [(oX8 g gi0 (nI mn) g2 g3 g4 g5 g6 g7 g8 g9 g10 (nI ml) g12 g13 gi14 g15 g16 g17 se g19 g20 g21 g22 g23 g24 g25 g26 g27 g28 gi29 gi30 (nI mv) (nI tt) g33 g34 g35 g36 g37 g38 g39 gi40 g41 g42 gi43 g44 g45), (aIc cI g2 8 G2), (aIc cI g3 8 G3), (aIc cI g4 8 G4), (aIc cI g5 8 G5), (aIc cI g6 8 G6), (aIc cI g7 8 G7), (aIc cI g8 8 G8), (aIc cI g10 64 G10), (aIc cI g12 10 G12), (aIc cI g13 10 G13), (aIc cI g19 8 G19), (aIc cI g20 8 G20), (aIc cI g21 8 G21), (aIc cI g22 8 G22), (aIc cI g23 8 G23), (aIc cI g24 8 G24), (aIc cI g25 8 G25), (aIc cI g26 8 G26), (aIc cI g27 8 G27), (aIc cI g28 8 a_g28_7), (aIc cI g33 8 G33), (aIc cI g34 8 G34), (aIc cI g35 8 G35), (aIc cI g36 8 G36), (aJc cJ g37 8 G37)] → va_S A s.heap H locs → lv_has ls 4 [(3, .int (nI i7)), (0, .ref g), (1, .int lx), (2, .int se)] → W p l e { frames := 7, cells := 0, slots := 0, locals := 166 } s m [.ref g, .int lx, .int se].toArray below meth c H locs 0 0 (MQ below (cQv D (fun u => ∃ (G19p G20p G21p G22p G23p G24p G25p G26p G27p G28p G33p G34p G35p G36p : Nat → Int32) (G37p : Nat → Int64) (gi29p gi30p gi18p : Int32) (mvp ttp : Nat), (LE G19p) ∧ (LO G20p) ∧ (LW G25p) ∧ (SH G27p ttp) ∧ (ttp ≤ 1000000) ∧ (mvp ≤ 8) ∧ (SP G28p ag0) ∧ u = [(oX8 g gi0 (nI mn) g2 g3 g4 g5 g6 g7 g8 g9 g10 (nI ml) g12 g13 gi14 g15 g16 g17 gi18p g19 g20 g21 g22 g23 g24 g25 g26 g27 g28 gi29p gi30p (nI mvp) (nI ttp) g33 g34 g35 g36 g37 g38 g39 gi40 g41 g42 gi43 g44 g45), (aIc cI g2 8 G2), (aIc cI g3 8 G3), (aIc cI g4 8 G4), (aIc cI g5 8 G5), (aIc cI g6 8 G6), (aIc cI g7 8 G7), (aIc cI g8 8 G8), (aIc cI g10 64 G10), (aIc cI g12 10 G12), (aIc cI g13 10 G13), (aIc cI g19 8 G19p), (aIc cI g20 8 G20p), (aIc cI g21 8 G21p), (aIc cI g22 8 G22p), (aIc cI g23 8 G23p), (aIc cI g24 8 G24p), (aIc cI g25 8 G25p), (aIc cI g26 8 G26p), (aIc cI g27 8 G27p), (aIc cI g28 8 G28p), (aIc cI g33 8 G33p), (aIc cI g34 8 G34p), (aIc cI g35 8 G35p), (aIc cI g36 8 G36p), (aJc cJ g37 8 G37p)]) A) [.ref g, .int lx, .int se].toArray s 0 0 A) (F0 m 7 ls []) := by
    intro zz
    induction zz with
    | zero => intro i7 a_g28_7 _ _; exact fun h => absurd h (Nat.not_lt_zero _)
    | succ zz ih7 =>
      intro i7 a_g28_7 hc3_7 hz_7 hmu7 H locs ls hP hD hS hl
      refine lv_iload_n hx hb dX8_settlesTo_7 rfl (lv_at hl 0 rfl) ?_
      refine lv_bipush (v := 8) hx hb dX8_settlesTo_8 (by decide) ?_
      refine lv_icmp_ge (tgt := 26) hx hb dX8_settlesTo_10 (by decide) (fun c1 => ?_) (fun c1 => ?_)
      · skip
        have nc1 : 8 ≤ i7 := (nI_leI (a := 8) (b := i7) (by omega) (by omega)).mp c1
        refine lv_iconst (v := 0) hx hb dX8_settlesTo_26 (by decide) ?_
        refine lv_istore_n (lv' := [(3, .int 0), (0, .ref g), (1, .int lx), (2, .int se)]) hx hb dX8_settlesTo_27 rfl hl (by decide) rfl (fun ls hl => ?_)
        have J28 : ∀ (zz : Nat) (k28 : Nat) (a_g19_28 a_g20_28 a_g21_28 a_g22_28 a_g23_28 a_g24_28 a_g25_28 a_g26_28 a_g27_28 a_g28_28 a_g33_28 a_g34_28 a_g35_28 a_g36_28 : Nat → Int32) (a_g37_28 : Nat → Int64) (f8_29_28 f8_30_28 : Int32) (f8_31_28 f8_32_28 : Nat), (k28 ≤ ln) → (LE a_g19_28) → (LO a_g20_28) → (LW a_g25_28) → (SH a_g27_28 f8_32_28) → (f8_32_28 ≤ 1000000) → (f8_31_28 ≤ 8) → (SP a_g28_28 ag0) → (ln - k28) < zz → ∀ (H : Heap) (locs : List Loc) (ls : Array Slot), va_P D vwCl [(oX8 g gi0 (nI mn) g2 g3 g4 g5 g6 g7 g8 g9 g10 (nI ml) g12 g13 gi14 g15 g16 g17 se g19 g20 g21 g22 g23 g24 g25 g26 g27 g28 f8_29_28 f8_30_28 (nI f8_31_28) (nI f8_32_28) g33 g34 g35 g36 g37 g38 g39 gi40 g41 g42 gi43 g44 g45), (aIc cI g2 8 G2), (aIc cI g3 8 G3), (aIc cI g4 8 G4), (aIc cI g5 8 G5), (aIc cI g6 8 G6), (aIc cI g7 8 G7), (aIc cI g8 8 G8), (aIc cI g10 64 G10), (aIc cI g12 10 G12), (aIc cI g13 10 G13), (aIc cI g19 8 a_g19_28), (aIc cI g20 8 a_g20_28), (aIc cI g21 8 a_g21_28), (aIc cI g22 8 a_g22_28), (aIc cI g23 8 a_g23_28), (aIc cI g24 8 a_g24_28), (aIc cI g25 8 a_g25_28), (aIc cI g26 8 a_g26_28), (aIc cI g27 8 a_g27_28), (aIc cI g28 8 a_g28_28), (aIc cI g33 8 a_g33_28), (aIc cI g34 8 a_g34_28), (aIc cI g35 8 a_g35_28), (aIc cI g36 8 a_g36_28), (aJc cJ g37 8 a_g37_28)] H → va_D A [(oX8 g gi0 (nI mn) g2 g3 g4 g5 g6 g7 g8 g9 g10 (nI ml) g12 g13 gi14 g15 g16 g17 se g19 g20 g21 g22 g23 g24 g25 g26 g27 g28 f8_29_28 f8_30_28 (nI f8_31_28) (nI f8_32_28) g33 g34 g35 g36 g37 g38 g39 gi40 g41 g42 gi43 g44 g45), (aIc cI g2 8 G2), (aIc cI g3 8 G3), (aIc cI g4 8 G4), (aIc cI g5 8 G5), (aIc cI g6 8 G6), (aIc cI g7 8 G7), (aIc cI g8 8 G8), (aIc cI g10 64 G10), (aIc cI g12 10 G12), (aIc cI g13 10 G13), (aIc cI g19 8 a_g19_28), (aIc cI g20 8 a_g20_28), (aIc cI g21 8 a_g21_28), (aIc cI g22 8 a_g22_28), (aIc cI g23 8 a_g23_28), (aIc cI g24 8 a_g24_28), (aIc cI g25 8 a_g25_28), (aIc cI g26 8 a_g26_28), (aIc cI g27 8 a_g27_28), (aIc cI g28 8 a_g28_28), (aIc cI g33 8 a_g33_28), (aIc cI g34 8 a_g34_28), (aIc cI g35 8 a_g35_28), (aIc cI g36 8 a_g36_28), (aJc cJ g37 8 a_g37_28)] → va_S A s.heap H locs → lv_has ls 4 [(3, .int (nI k28)), (0, .ref g), (1, .int lx), (2, .int se)] → W p l e { frames := 7, cells := 0, slots := 0, locals := 166 } s m [.ref g, .int lx, .int se].toArray below meth c H locs 0 0 (MQ below (cQv D (fun u => ∃ (G19p G20p G21p G22p G23p G24p G25p G26p G27p G28p G33p G34p G35p G36p : Nat → Int32) (G37p : Nat → Int64) (gi29p gi30p gi18p : Int32) (mvp ttp : Nat), (LE G19p) ∧ (LO G20p) ∧ (LW G25p) ∧ (SH G27p ttp) ∧ (ttp ≤ 1000000) ∧ (mvp ≤ 8) ∧ (SP G28p ag0) ∧ u = [(oX8 g gi0 (nI mn) g2 g3 g4 g5 g6 g7 g8 g9 g10 (nI ml) g12 g13 gi14 g15 g16 g17 gi18p g19 g20 g21 g22 g23 g24 g25 g26 g27 g28 gi29p gi30p (nI mvp) (nI ttp) g33 g34 g35 g36 g37 g38 g39 gi40 g41 g42 gi43 g44 g45), (aIc cI g2 8 G2), (aIc cI g3 8 G3), (aIc cI g4 8 G4), (aIc cI g5 8 G5), (aIc cI g6 8 G6), (aIc cI g7 8 G7), (aIc cI g8 8 G8), (aIc cI g10 64 G10), (aIc cI g12 10 G12), (aIc cI g13 10 G13), (aIc cI g19 8 G19p), (aIc cI g20 8 G20p), (aIc cI g21 8 G21p), (aIc cI g22 8 G22p), (aIc cI g23 8 G23p), (aIc cI g24 8 G24p), (aIc cI g25 8 G25p), (aIc cI g26 8 G26p), (aIc cI g27 8 G27p), (aIc cI g28 8 G28p), (aIc cI g33 8 G33p), (aIc cI g34 8 G34p), (aIc cI g35 8 G35p), (aIc cI g36 8 G36p), (aJc cJ g37 8 G37p)]) A) [.ref g, .int lx, .int se].toArray s 0 0 A) (F0 m 28 ls []) := by
          intro zz
          induction zz with
          | zero => intro k28 a_g19_28 a_g20_28 a_g21_28 a_g22_28 a_g23_28 a_g24_28 a_g25_28 a_g26_28 a_g27_28 a_g28_28 a_g33_28 a_g34_28 a_g35_28 a_g36_28 a_g37_28 f8_29_28 f8_30_28 f8_31_28 f8_32_28 _ _ _ _ _ _ _ _; exact fun h => absurd h (Nat.not_lt_zero _)
          | succ zz ih28 =>
            intro k28 a_g19_28 a_g20_28 a_g21_28 a_g22_28 a_g23_28 a_g24_28 a_g25_28 a_g26_28 a_g27_28 a_g28_28 a_g33_28 a_g34_28 a_g35_28 a_g36_28 a_g37_28 f8_29_28 f8_30_28 f8_31_28 f8_32_28 hc3_28 hLE_28 hLO_28 hLW_28 hSH_28 htt_28 hmv_28 hsp_28 hmu28 H locs ls hP hD hS hl
            refine lv_iload_n hx hb dX8_settlesTo_28 rfl (lv_at hl 0 rfl) ?_
            refine lv_iload_n hx hb dX8_settlesTo_29 rfl (lv_at hl 2 rfl) ?_
            refine lv_icmp_gt (tgt := 44) hx hb dX8_settlesTo_30 (by decide) (fun c2 => ?_) (fun c2 => ?_)
            · skip
              refine k_vret (u := [(oX8 g gi0 (nI mn) g2 g3 g4 g5 g6 g7 g8 g9 g10 (nI ml) g12 g13 gi14 g15 g16 g17 se g19 g20 g21 g22 g23 g24 g25 g26 g27 g28 f8_29_28 f8_30_28 (nI f8_31_28) (nI f8_32_28) g33 g34 g35 g36 g37 g38 g39 gi40 g41 g42 gi43 g44 g45), (aIc cI g2 8 G2), (aIc cI g3 8 G3), (aIc cI g4 8 G4), (aIc cI g5 8 G5), (aIc cI g6 8 G6), (aIc cI g7 8 G7), (aIc cI g8 8 G8), (aIc cI g10 64 G10), (aIc cI g12 10 G12), (aIc cI g13 10 G13), (aIc cI g19 8 a_g19_28), (aIc cI g20 8 a_g20_28), (aIc cI g21 8 a_g21_28), (aIc cI g22 8 a_g22_28), (aIc cI g23 8 a_g23_28), (aIc cI g24 8 a_g24_28), (aIc cI g25 8 a_g25_28), (aIc cI g26 8 a_g26_28), (aIc cI g27 8 a_g27_28), (aIc cI g28 8 a_g28_28), (aIc cI g33 8 a_g33_28), (aIc cI g34 8 a_g34_28), (aIc cI g35 8 a_g35_28), (aIc cI g36 8 a_g36_28), (aJc cJ g37 8 a_g37_28)]) hx hb hr hlk hP hD hS dX8_settlesTo_44 ?_
              exact ⟨a_g19_28, a_g20_28, a_g21_28, a_g22_28, a_g23_28, a_g24_28, a_g25_28, a_g26_28, a_g27_28, a_g28_28, a_g33_28, a_g34_28, a_g35_28, a_g36_28, a_g37_28, f8_29_28, f8_30_28, se, f8_31_28, f8_32_28, hLE_28, hLO_28, hLW_28, hSH_28, htt_28, hmv_28, hsp_28, rfl⟩
            · skip
              have hk9 : k28 < ln := st_lt helx hln (by omega) c2
              refine lv_aload_n hx hb dX8_settlesTo_33 rfl (lv_at hl 1 rfl) ?_
              refine lv_iload_n hx hb dX8_settlesTo_34 rfl (lv_at hl 0 rfl) ?_
              refine k_v (va_runV (As := [.int (nI k28)]) (rest := []) ⟨hx, hb, hml, hown, hts⟩ (m_X8_settles l D cI cJ H.size g g2 g3 g4 g5 g6 g7 g8 g9 g10 g12 g13 g15 g16 g17 g19 g20 g21 g22 g23 g24 g25 g26 g27 g28 g33 g34 g35 g36 g37 g38 g39 g41 g42 g44 g45 k28 mn ml f8_31_28 gi0 gi14 se f8_29_28 f8_30_28 (nI f8_32_28) gi40 gi43 G2 G3 G4 G5 G6 G7 G8 G10 G12 G13 a_g19_28 a_g20_28 a_g21_28 a_g22_28 a_g23_28 a_g24_28 a_g25_28 a_g26_28 a_g27_28 a_g28_28 a_g33_28 a_g34_28 a_g35_28 a_g36_28 a_g37_28 li0 wo0 de0 ag0 (by omega) hit hsu hliv hlib hwov hwob hdev hdeb hagv hagb hamt hLE_28 hLO_28 hsp_28) (cwV 1 hts gX8_settlesTo_X8_settles rfl rfl rfl (by decide +kernel) ⟨Nat.le_of_ble_eq_true rfl, Nat.le_of_ble_eq_true rfl⟩) (k_preV hE hP hD [0, 1, 2, 3, 4, 5, 6, 7, 8, 9, 10, 11, 12, 13, 14, 15, 16, 17, 18, 19, 20, 21, 22, 23, 24, 25] (by decide +kernel) rfl 0 rfl rfl) rfl rfl hl.1 rfl (lv_room (Nat.le_of_ble_eq_true rfl)) dX8_settlesTo_35 ⟨Nat.le_of_ble_eq_true rfl, Nat.le_of_ble_eq_true rfl⟩) hP hD hS hA [0, 1, 2, 3, 4, 5, 6, 7, 8, 9, 10, 11, 12, 13, 14, 15, 16, 17, 18, 19, 20, 21, 22, 23, 24, 25] [] rfl (wr := []) rfl (by decide +kernel) (by decide +kernel) (fun u H locs hw3 hP hD hS => ?_)
              obtain ⟨z4, z5, z6, z7, z8, z9, z10, z11, z12, z13, z14, z15, z16, z17, z18, z19, z20, z21, z22, hz23, hz24, hz25, hz26, hz27, hz28, hz29, rfl⟩ := hw3
              refine k_re (w := [(oX8 g gi0 (nI mn) g2 g3 g4 g5 g6 g7 g8 g9 g10 (nI ml) g12 g13 gi14 g15 g16 g17 se g19 g20 g21 g22 g23 g24 g25 g26 g27 g28 z19 z20 (nI z21) (nI z22) g33 g34 g35 g36 g37 g38 g39 gi40 g41 g42 gi43 g44 g45), (aIc cI g2 8 G2), (aIc cI g3 8 G3), (aIc cI g4 8 G4), (aIc cI g5 8 G5), (aIc cI g6 8 G6), (aIc cI g7 8 G7), (aIc cI g8 8 G8), (aIc cI g10 64 G10), (aIc cI g12 10 G12), (aIc cI g13 10 G13), (aIc cI g19 8 z4), (aIc cI g20 8 z5), (aIc cI g21 8 z6), (aIc cI g22 8 z7), (aIc cI g23 8 z8), (aIc cI g24 8 z9), (aIc cI g25 8 z10), (aIc cI g26 8 z11), (aIc cI g27 8 z12), (aIc cI g28 8 z13), (aIc cI g33 8 z14), (aIc cI g34 8 z15), (aIc cI g35 8 z16), (aIc cI g36 8 z17), (aJc cJ g37 8 z18)]) hP hD (fun hP hD => ?_)
              refine lv_iinc (v := (nI (k28 + 1))) (lv' := [(3, .int (nI (k28 + 1))), (0, .ref g), (1, .int lx), (2, .int se)]) hx hb dX8_settlesTo_38 hl (k := 0) rfl (nI_1 _) (by decide) rfl (fun ls hl => ?_)
              refine lv_goto (tgt := 28) hx hb dX8_settlesTo_41 (by decide) ?_
              exact ih28 (k28 + 1) z4 z5 z6 z7 z8 z9 z10 z11 z12 z13 z14 z15 z16 z17 z18 z19 z20 z21 z22 (by omega) hz23 hz24 hz25 hz26 hz27 hz28 hz29 (by omega) _ _ _ hP hD hS (lv_sub hl [0, 1, 2, 3] rfl)
        exact J28 _ 0 G19 G20 G21 G22 G23 G24 G25 G26 G27 a_g28_7 G33 G34 G35 G36 G37 gi29 gi30 mv tt (by omega) hLE hLO hLW hSH htt hmv (sp_0 (fun k hk => hz_7 k (by omega))) (Nat.lt_succ_self _) _ _ _ hP hD hS (lv_sub hl [0, 1, 2, 3] rfl)
      · skip
        have nc1 : ¬ 8 ≤ i7 := fun q9 => c1 ((nI_leI (a := 8) (b := i7) (by omega) (by omega)).mpr q9)
        refine lv_aload_n hx hb dX8_settlesTo_13 rfl (lv_at hl 1 rfl) ?_
        refine va_get (D := D) (ci := 8) (v := .ref g28) (C := RX8) (T := TX8) (N := 46) hx hb hts hiX8 hown hE.1 hP 0 rfl rfl 28 (by decide) (hts _ (List.mem_cons_of_mem _ wd_139)) (fun _ h9 => h9) rfl dX8_settlesTo_14 ?_
        refine lv_iload_n hx hb dX8_settlesTo_17 rfl (lv_at hl 0 rfl) ?_
        refine lv_iconst (v := 0) hx hb dX8_settlesTo_18 (by decide) ?_
        refine va_iast hx hb hE.1 hP hD hS 20 0 rfl rfl (vp_in_nI (n := i7) (by omega) (by decide)) dX8_settlesTo_19 (fun H locs hP hD hS => ?_)
        refine k_re (w := [(oX8 g gi0 (nI mn) g2 g3 g4 g5 g6 g7 g8 g9 g10 (nI ml) g12 g13 gi14 g15 g16 g17 se g19 g20 g21 g22 g23 g24 g25 g26 g27 g28 gi29 gi30 (nI mv) (nI tt) g33 g34 g35 g36 g37 g38 g39 gi40 g41 g42 gi43 g44 g45), (aIc cI g2 8 G2), (aIc cI g3 8 G3), (aIc cI g4 8 G4), (aIc cI g5 8 G5), (aIc cI g6 8 G6), (aIc cI g7 8 G7), (aIc cI g8 8 G8), (aIc cI g10 64 G10), (aIc cI g12 10 G12), (aIc cI g13 10 G13), (aIc cI g19 8 G19), (aIc cI g20 8 G20), (aIc cI g21 8 G21), (aIc cI g22 8 G22), (aIc cI g23 8 G23), (aIc cI g24 8 G24), (aIc cI g25 8 G25), (aIc cI g26 8 G26), (aIc cI g27 8 G27), (aIc cI g28 8 (upd a_g28_7 (Int32.toNatClampNeg (nI i7)) 0)), (aIc cI g33 8 G33), (aIc cI g34 8 G34), (aIc cI g35 8 G35), (aIc cI g36 8 G36), (aJc cJ g37 8 G37)]) hP hD (fun hP hD => ?_)
        refine lv_iinc (v := (nI (i7 + 1))) (lv' := [(3, .int (nI (i7 + 1))), (0, .ref g), (1, .int lx), (2, .int se)]) hx hb dX8_settlesTo_20 hl (k := 0) rfl (nI_1 _) (by decide) rfl (fun ls hl => ?_)
        refine lv_goto (tgt := 7) hx hb dX8_settlesTo_23 (by decide) ?_
        exact ih7 (i7 + 1) (upd a_g28_7 (Int32.toNatClampNeg (nI i7)) 0) (by omega) (cst_up (by omega) hz_7) (by omega) _ _ _ hP hD hS (lv_sub hl [0, 1, 2, 3] rfl)
  exact J7 _ 0 G28 (by omega) (fun k hk => absurd hk (Nat.not_lt_zero k)) (Nat.lt_succ_self _) _ _ _ hP hD hS (lv_sub hl [0, 1, 2, 3] rfl)
theorem dX8_allTotals_0 : decode cX8_allTotals 0 = .ok (.aload_n 0, 1) := by decide +kernel
theorem dX8_allTotals_1 : decode cX8_allTotals 1 = .ok (.aload_n 0, 1) := by decide +kernel
theorem dX8_allTotals_2 : decode cX8_allTotals 2 = .ok (.invokevirtual 220, 3) := by decide +kernel
theorem dX8_allTotals_5 : decode cX8_allTotals 5 = .ok (.putfield 201, 3) := by decide +kernel
theorem dX8_allTotals_8 : decode cX8_allTotals 8 = .ok (.iconst 0, 1) := by decide +kernel
theorem dX8_allTotals_9 : decode cX8_allTotals 9 = .ok (.istore_n 1, 1) := by decide +kernel
theorem dX8_allTotals_10 : decode cX8_allTotals 10 = .ok (.iconst 0, 1) := by decide +kernel
theorem dX8_allTotals_11 : decode cX8_allTotals 11 = .ok (.istore_n 2, 1) := by decide +kernel
theorem dX8_allTotals_12 : decode cX8_allTotals 12 = .ok (.iload_n 2, 1) := by decide +kernel
theorem dX8_allTotals_13 : decode cX8_allTotals 13 = .ok (.bipush 8, 2) := by decide +kernel
theorem dX8_allTotals_15 : decode cX8_allTotals 15 = .ok (.if_icmp .ge 16, 3) := by decide +kernel
theorem dX8_allTotals_18 : decode cX8_allTotals 18 = .ok (.aload_n 0, 1) := by decide +kernel
theorem dX8_allTotals_19 : decode cX8_allTotals 19 = .ok (.getfield 79, 3) := by decide +kernel
theorem dX8_allTotals_22 : decode cX8_allTotals 22 = .ok (.iload_n 2, 1) := by decide +kernel
theorem dX8_allTotals_23 : decode cX8_allTotals 23 = .ok (.iconst 0, 1) := by decide +kernel
theorem dX8_allTotals_24 : decode cX8_allTotals 24 = .ok (.iastore, 1) := by decide +kernel
theorem dX8_allTotals_25 : decode cX8_allTotals 25 = .ok (.iinc 2 1, 3) := by decide +kernel
theorem dX8_allTotals_28 : decode cX8_allTotals 28 = .ok (.goto (-16), 3) := by decide +kernel
theorem dX8_allTotals_31 : decode cX8_allTotals 31 = .ok (.iconst 0, 1) := by decide +kernel
theorem dX8_allTotals_32 : decode cX8_allTotals 32 = .ok (.istore_n 2, 1) := by decide +kernel
theorem dX8_allTotals_33 : decode cX8_allTotals 33 = .ok (.iload_n 2, 1) := by decide +kernel
theorem dX8_allTotals_34 : decode cX8_allTotals 34 = .ok (.aload_n 0, 1) := by decide +kernel
theorem dX8_allTotals_35 : decode cX8_allTotals 35 = .ok (.getfield 127, 3) := by decide +kernel
theorem dX8_allTotals_38 : decode cX8_allTotals 38 = .ok (.if_icmp .ge 21, 3) := by decide +kernel
theorem dX8_allTotals_41 : decode cX8_allTotals 41 = .ok (.aload_n 0, 1) := by decide +kernel
theorem dX8_allTotals_42 : decode cX8_allTotals 42 = .ok (.iload_n 2, 1) := by decide +kernel
theorem dX8_allTotals_43 : decode cX8_allTotals 43 = .ok (.invokevirtual 217, 3) := by decide +kernel
theorem dX8_allTotals_46 : decode cX8_allTotals 46 = .ok (.iload_n 1, 1) := by decide +kernel
theorem dX8_allTotals_47 : decode cX8_allTotals 47 = .ok (.aload_n 0, 1) := by decide +kernel
theorem dX8_allTotals_48 : decode cX8_allTotals 48 = .ok (.getfield 198, 3) := by decide +kernel
theorem dX8_allTotals_51 : decode cX8_allTotals 51 = .ok (.iadd, 1) := by decide +kernel
theorem dX8_allTotals_52 : decode cX8_allTotals 52 = .ok (.istore_n 1, 1) := by decide +kernel
theorem dX8_allTotals_53 : decode cX8_allTotals 53 = .ok (.iinc 2 1, 3) := by decide +kernel
theorem dX8_allTotals_56 : decode cX8_allTotals 56 = .ok (.goto (-23), 3) := by decide +kernel
theorem dX8_allTotals_59 : decode cX8_allTotals 59 = .ok (.iload_n 1, 1) := by decide +kernel
theorem dX8_allTotals_60 : decode cX8_allTotals 60 = .ok (.ireturn, 1) := by decide +kernel
theorem gX8_allTotals_X8_all : GoodIn wtX8_allTotals (wsV RX8 220 RX8 yX8_all wtX8_all) := tb_good (tb_v0 wd_413 wd_414 wd_415 wd_5 wd_416)
theorem gX8_allTotals_X8_settles : GoodIn wtX8_allTotals (wsV RX8 217 RX8 yX8_settles wtX8_settles) := tb_good (tb_v0 wd_417 wd_418 wd_419 wd_5 wd_420)
theorem dX8_amounts_0 : decode cX8_amounts 0 = .ok (.iconst 0, 1) := by decide +kernel
theorem dX8_amounts_1 : decode cX8_amounts 1 = .ok (.istore_n 1, 1) := by decide +kernel
theorem dX8_amounts_2 : decode cX8_amounts 2 = .ok (.iconst 0, 1) := by decide +kernel
theorem dX8_amounts_3 : decode cX8_amounts 3 = .ok (.istore_n 2, 1) := by decide +kernel
theorem dX8_amounts_4 : decode cX8_amounts 4 = .ok (.iload_n 2, 1) := by decide +kernel
theorem dX8_amounts_5 : decode cX8_amounts 5 = .ok (.aload_n 0, 1) := by decide +kernel
theorem dX8_amounts_6 : decode cX8_amounts 6 = .ok (.getfield 127, 3) := by decide +kernel
theorem dX8_amounts_9 : decode cX8_amounts 9 = .ok (.if_icmp .ge 18, 3) := by decide +kernel
theorem dX8_amounts_12 : decode cX8_amounts 12 = .ok (.iload_n 1, 1) := by decide +kernel
theorem dX8_amounts_13 : decode cX8_amounts 13 = .ok (.aload_n 0, 1) := by decide +kernel
theorem dX8_amounts_14 : decode cX8_amounts 14 = .ok (.getfield 40, 3) := by decide +kernel
theorem dX8_amounts_17 : decode cX8_amounts 17 = .ok (.iload_n 2, 1) := by decide +kernel
theorem dX8_amounts_18 : decode cX8_amounts 18 = .ok (.iaload, 1) := by decide +kernel
theorem dX8_amounts_19 : decode cX8_amounts 19 = .ok (.iadd, 1) := by decide +kernel
theorem dX8_amounts_20 : decode cX8_amounts 20 = .ok (.istore_n 1, 1) := by decide +kernel
theorem dX8_amounts_21 : decode cX8_amounts 21 = .ok (.iinc 2 1, 3) := by decide +kernel
theorem dX8_amounts_24 : decode cX8_amounts 24 = .ok (.goto (-20), 3) := by decide +kernel
theorem dX8_amounts_27 : decode cX8_amounts 27 = .ok (.iload_n 1, 1) := by decide +kernel
theorem dX8_amounts_28 : decode cX8_amounts 28 = .ok (.ireturn, 1) := by decide +kernel
theorem dX8_used_0 : decode cX8_used 0 = .ok (.aload_n 0, 1) := by decide +kernel
theorem dX8_used_1 : decode cX8_used 1 = .ok (.aload_n 0, 1) := by decide +kernel
theorem dX8_used_2 : decode cX8_used 2 = .ok (.getfield 127, 3) := by decide +kernel
theorem dX8_used_5 : decode cX8_used 5 = .ok (.iconst 1, 1) := by decide +kernel
theorem dX8_used_6 : decode cX8_used 6 = .ok (.isub, 1) := by decide +kernel
theorem dX8_used_7 : decode cX8_used 7 = .ok (.aload_n 0, 1) := by decide +kernel
theorem dX8_used_8 : decode cX8_used 8 = .ok (.invokevirtual 220, 3) := by decide +kernel
theorem dX8_used_11 : decode cX8_used 11 = .ok (.invokevirtual 224, 3) := by decide +kernel
theorem dX8_used_14 : decode cX8_used 14 = .ok (.iconst 0, 1) := by decide +kernel
theorem dX8_used_15 : decode cX8_used 15 = .ok (.istore_n 1, 1) := by decide +kernel
theorem dX8_used_16 : decode cX8_used 16 = .ok (.iconst 0, 1) := by decide +kernel
theorem dX8_used_17 : decode cX8_used 17 = .ok (.istore_n 2, 1) := by decide +kernel
theorem dX8_used_18 : decode cX8_used 18 = .ok (.iload_n 2, 1) := by decide +kernel
theorem dX8_used_19 : decode cX8_used 19 = .ok (.aload_n 0, 1) := by decide +kernel
theorem dX8_used_20 : decode cX8_used 20 = .ok (.getfield 120, 3) := by decide +kernel
theorem dX8_used_23 : decode cX8_used 23 = .ok (.if_icmp .ge 34, 3) := by decide +kernel
theorem dX8_used_26 : decode cX8_used 26 = .ok (.iload_n 1, 1) := by decide +kernel
theorem dX8_used_27 : decode cX8_used 27 = .ok (.aload_n 0, 1) := by decide +kernel
theorem dX8_used_28 : decode cX8_used 28 = .ok (.getfield 79, 3) := by decide +kernel
theorem dX8_used_31 : decode cX8_used 31 = .ok (.iload_n 2, 1) := by decide +kernel
theorem dX8_used_32 : decode cX8_used 32 = .ok (.iaload, 1) := by decide +kernel
theorem dX8_used_33 : decode cX8_used 33 = .ok (.aload_n 0, 1) := by decide +kernel
theorem dX8_used_34 : decode cX8_used 34 = .ok (.getfield 13, 3) := by decide +kernel
theorem dX8_used_37 : decode cX8_used 37 = .ok (.iload_n 2, 1) := by decide +kernel
theorem dX8_used_38 : decode cX8_used 38 = .ok (.iaload, 1) := by decide +kernel
theorem dX8_used_39 : decode cX8_used 39 = .ok (.if_icmp .ne 9, 3) := by decide +kernel
theorem dX8_used_42 : decode cX8_used 42 = .ok (.iconst 1, 1) := by decide +kernel
theorem dX8_used_43 : decode cX8_used 43 = .ok (.iload_n 2, 1) := by decide +kernel
theorem dX8_used_44 : decode cX8_used 44 = .ok (.ishl, 1) := by decide +kernel
theorem dX8_used_45 : decode cX8_used 45 = .ok (.goto 4, 3) := by decide +kernel
theorem dX8_used_48 : decode cX8_used 48 = .ok (.iconst 0, 1) := by decide +kernel
theorem dX8_used_49 : decode cX8_used 49 = .ok (.ior, 1) := by decide +kernel
theorem dX8_used_50 : decode cX8_used 50 = .ok (.istore_n 1, 1) := by decide +kernel
theorem dX8_used_51 : decode cX8_used 51 = .ok (.iinc 2 1, 3) := by decide +kernel
theorem dX8_used_54 : decode cX8_used 54 = .ok (.goto (-36), 3) := by decide +kernel
theorem dX8_used_57 : decode cX8_used 57 = .ok (.iload_n 1, 1) := by decide +kernel
theorem dX8_used_58 : decode cX8_used 58 = .ok (.ireturn, 1) := by decide +kernel
theorem gX8_used_X8_all : GoodIn wtX8_used (wsV RX8 220 RX8 yX8_all wtX8_all) := tb_good (tb_v0 wd_413 wd_414 wd_415 wd_5 wd_416)
theorem gX8_used_X8_settlesTo : GoodIn wtX8_used (wsV RX8 224 RX8 yX8_settlesTo wtX8_settlesTo) := tb_good (tb_v0 wd_482 wd_483 wd_484 wd_5 wd_485)
theorem dX8_count_0 : decode cX8_count 0 = .ok (.aload_n 0, 1) := by decide +kernel
theorem dX8_count_1 : decode cX8_count 1 = .ok (.iconst 0, 1) := by decide +kernel
theorem dX8_count_2 : decode cX8_count 2 = .ok (.putfield 116, 3) := by decide +kernel
theorem dX8_count_5 : decode cX8_count 5 = .ok (.iload_n 1, 1) := by decide +kernel
theorem dX8_count_6 : decode cX8_count 6 = .ok (.tableswitch 68 0 5 #[38, 43, 48, 53, 58, 63], 38) := by decide +kernel
theorem dX8_count_44 : decode cX8_count 44 = .ok (.aload_n 0, 1) := by decide +kernel
theorem dX8_count_45 : decode cX8_count 45 = .ok (.getfield 120, 3) := by decide +kernel
theorem dX8_count_48 : decode cX8_count 48 = .ok (.ireturn, 1) := by decide +kernel
theorem dX8_count_49 : decode cX8_count 49 = .ok (.aload_n 0, 1) := by decide +kernel
theorem dX8_count_50 : decode cX8_count 50 = .ok (.getfield 127, 3) := by decide +kernel
theorem dX8_count_53 : decode cX8_count 53 = .ok (.ireturn, 1) := by decide +kernel
theorem dX8_count_54 : decode cX8_count 54 = .ok (.aload_n 0, 1) := by decide +kernel
theorem dX8_count_55 : decode cX8_count 55 = .ok (.getfield 151, 3) := by decide +kernel
theorem dX8_count_58 : decode cX8_count 58 = .ok (.ireturn, 1) := by decide +kernel
theorem dX8_count_59 : decode cX8_count 59 = .ok (.aload_n 0, 1) := by decide +kernel
theorem dX8_count_60 : decode cX8_count 60 = .ok (.invokevirtual 228, 3) := by decide +kernel
theorem dX8_count_63 : decode cX8_count 63 = .ok (.ireturn, 1) := by decide +kernel
theorem dX8_count_64 : decode cX8_count 64 = .ok (.aload_n 0, 1) := by decide +kernel
theorem dX8_count_65 : decode cX8_count 65 = .ok (.invokevirtual 231, 3) := by decide +kernel
theorem dX8_count_68 : decode cX8_count 68 = .ok (.ireturn, 1) := by decide +kernel
theorem dX8_count_69 : decode cX8_count 69 = .ok (.aload_n 0, 1) := by decide +kernel
theorem dX8_count_70 : decode cX8_count 70 = .ok (.invokevirtual 234, 3) := by decide +kernel
theorem dX8_count_73 : decode cX8_count 73 = .ok (.ireturn, 1) := by decide +kernel
theorem dX8_count_74 : decode cX8_count 74 = .ok (.iconst (-1), 1) := by decide +kernel
theorem dX8_count_75 : decode cX8_count 75 = .ok (.ireturn, 1) := by decide +kernel
theorem gX8_count_X8_allTotals : GoodIn wtX8_count (wsV RX8 228 RX8 yX8_allTotals wtX8_allTotals) := tb_good (tb_v0 wd_407 wd_408 wd_409 wd_5 wd_410)
theorem gX8_count_X8_amounts : GoodIn wtX8_count (wsV RX8 231 RX8 yX8_amounts wtX8_amounts) := tb_good (tb_v0 wd_474 wd_475 wd_476 wd_5 wd_477)
theorem gX8_count_X8_used : GoodIn wtX8_count (wsV RX8 234 RX8 yX8_used wtX8_used) := tb_good (tb_v0 wd_478 wd_479 wd_480 wd_5 wd_481)
theorem dX8_lastLoss_0 : decode cX8_lastLoss 0 = .ok (.iconst 0, 1) := by decide +kernel
theorem dX8_lastLoss_1 : decode cX8_lastLoss 1 = .ok (.istore_n 2, 1) := by decide +kernel
theorem dX8_lastLoss_2 : decode cX8_lastLoss 2 = .ok (.iload_n 2, 1) := by decide +kernel
theorem dX8_lastLoss_3 : decode cX8_lastLoss 3 = .ok (.aload_n 0, 1) := by decide +kernel
theorem dX8_lastLoss_4 : decode cX8_lastLoss 4 = .ok (.getfield 127, 3) := by decide +kernel
theorem dX8_lastLoss_7 : decode cX8_lastLoss 7 = .ok (.if_icmp .ge 35, 3) := by decide +kernel
theorem dX8_lastLoss_10 : decode cX8_lastLoss 10 = .ok (.aload_n 0, 1) := by decide +kernel
theorem dX8_lastLoss_11 : decode cX8_lastLoss 11 = .ok (.iload_n 2, 1) := by decide +kernel
theorem dX8_lastLoss_12 : decode cX8_lastLoss 12 = .ok (.aload_n 0, 1) := by decide +kernel
theorem dX8_lastLoss_13 : decode cX8_lastLoss 13 = .ok (.invokevirtual 220, 3) := by decide +kernel
theorem dX8_lastLoss_16 : decode cX8_lastLoss 16 = .ok (.invokevirtual 224, 3) := by decide +kernel
theorem dX8_lastLoss_19 : decode cX8_lastLoss 19 = .ok (.aload_n 0, 1) := by decide +kernel
theorem dX8_lastLoss_20 : decode cX8_lastLoss 20 = .ok (.getfield 79, 3) := by decide +kernel
theorem dX8_lastLoss_23 : decode cX8_lastLoss 23 = .ok (.iload_n 1, 1) := by decide +kernel
theorem dX8_lastLoss_24 : decode cX8_lastLoss 24 = .ok (.iaload, 1) := by decide +kernel
theorem dX8_lastLoss_25 : decode cX8_lastLoss 25 = .ok (.aload_n 0, 1) := by decide +kernel
theorem dX8_lastLoss_26 : decode cX8_lastLoss 26 = .ok (.getfield 13, 3) := by decide +kernel
theorem dX8_lastLoss_29 : decode cX8_lastLoss 29 = .ok (.iload_n 1, 1) := by decide +kernel
theorem dX8_lastLoss_30 : decode cX8_lastLoss 30 = .ok (.iaload, 1) := by decide +kernel
theorem dX8_lastLoss_31 : decode cX8_lastLoss 31 = .ok (.if_icmp .ne 5, 3) := by decide +kernel
theorem dX8_lastLoss_34 : decode cX8_lastLoss 34 = .ok (.iload_n 2, 1) := by decide +kernel
theorem dX8_lastLoss_35 : decode cX8_lastLoss 35 = .ok (.ireturn, 1) := by decide +kernel
theorem dX8_lastLoss_36 : decode cX8_lastLoss 36 = .ok (.iinc 2 1, 3) := by decide +kernel
theorem dX8_lastLoss_39 : decode cX8_lastLoss 39 = .ok (.goto (-37), 3) := by decide +kernel
theorem dX8_lastLoss_42 : decode cX8_lastLoss 42 = .ok (.iconst (-1), 1) := by decide +kernel
theorem dX8_lastLoss_43 : decode cX8_lastLoss 43 = .ok (.ireturn, 1) := by decide +kernel
theorem gX8_lastLoss_X8_all : GoodIn wtX8_lastLoss (wsV RX8 220 RX8 yX8_all wtX8_all) := tb_good (tb_v0 wd_413 wd_414 wd_415 wd_5 wd_416)
theorem gX8_lastLoss_X8_settlesTo : GoodIn wtX8_lastLoss (wsV RX8 224 RX8 yX8_settlesTo wtX8_settlesTo) := tb_good (tb_v0 wd_482 wd_483 wd_484 wd_5 wd_485)
set_option maxHeartbeats 4000000 in
set_option maxRecDepth 100000 in
theorem m_X8_lastLoss (l : Launch) (D : va_G) (cI cJ : ClassId) (sz : Nat) (g g2 g3 g4 g5 g6 g7 g8 g9 g10 g12 g13 g15 g16 g17 g19 g20 g21 g22 g23 g24 g25 g26 g27 g28 g33 g34 g35 g36 g37 g38 g39 g41 g42 g44 g45 p0 mn ml mv tt : Nat) (gi0 gi14 gi18 gi29 gi30 gi40 gi43 : Int32) (G2 G3 G4 G5 G6 G7 G8 G10 G12 G13 G19 G20 G21 G22 G23 G24 G25 G26 G27 G28 G33 G34 G35 G36 : Nat → Int32) (G37 : Nat → Int64) (li0 wo0 de0 ag0 : Nat → Nat) (hmn : mn ≤ 8) (hmL : ml ≤ 10) (hit : ∀ k, k < 10 → ∃ j : Nat, j < 8 ∧ G12 k = nI j) (hsu : ∀ k, k < 64 → ∃ j : Nat, j ≤ 1000001 ∧ G10 k = nI j) (hliv : nv G2 li0) (hlib : ∀ k, k < 8 → li0 k ≤ 1000000) (hwov : nv G5 wo0) (hwob : ∀ k, k < 8 → wo0 k ≤ 9000000) (hdev : nv G4 de0) (hdeb : ∀ k, k < 8 → de0 k ≤ 99999) (hagv : nv G3 ag0) (hagb : ∀ k, k < 8 → ag0 k ≤ 9000000) (hamt : ∀ k, k < 10 → ∃ j : Nat, j < 1000001 ∧ G13 k = nI j) (hLE : LE G19) (hLO : LO G20) (hLW : LW G25) (hSH : SH G27 tt) (htt : tt ≤ 1000000) (hmv : mv ≤ 8) (hp : p0 < 8) : Met l yX8_lastLoss wtX8_lastLoss { frames := 8, cells := 0, slots := 0, locals := 189 } (cPc D cI cJ [.ref g, .int (nI p0)] sz [(oX8 g gi0 (nI mn) g2 g3 g4 g5 g6 g7 g8 g9 g10 (nI ml) g12 g13 gi14 g15 g16 g17 gi18 g19 g20 g21 g22 g23 g24 g25 g26 g27 g28 gi29 gi30 (nI mv) (nI tt) g33 g34 g35 g36 g37 g38 g39 gi40 g41 g42 gi43 g44 g45), (aIc cI g2 8 G2), (aIc cI g3 8 G3), (aIc cI g4 8 G4), (aIc cI g5 8 G5), (aIc cI g6 8 G6), (aIc cI g7 8 G7), (aIc cI g8 8 G8), (aIc cI g10 64 G10), (aIc cI g12 10 G12), (aIc cI g13 10 G13), (aIc cI g19 8 G19), (aIc cI g20 8 G20), (aIc cI g21 8 G21), (aIc cI g22 8 G22), (aIc cI g23 8 G23), (aIc cI g24 8 G24), (aIc cI g25 8 G25), (aIc cI g26 8 G26), (aIc cI g27 8 G27), (aIc cI g28 8 G28), (aIc cI g33 8 G33), (aIc cI g34 8 G34), (aIc cI g35 8 G35), (aIc cI g36 8 G36), (aJc cJ g37 8 G37)]) (cQi D (fun r u => ∃ (G19p G20p G21p G22p G23p G24p G25p G26p G27p G28p G33p G34p G35p G36p : Nat → Int32) (G37p : Nat → Int64) (gi29p gi30p gi18p : Int32) (mvp ttp : Nat), (LE G19p) ∧ (LO G20p) ∧ (LW G25p) ∧ (SH G27p ttp) ∧ (ttp ≤ 1000000) ∧ (mvp ≤ 8) ∧ u = [(oX8 g gi0 (nI mn) g2 g3 g4 g5 g6 g7 g8 g9 g10 (nI ml) g12 g13 gi14 g15 g16 g17 gi18p g19 g20 g21 g22 g23 g24 g25 g26 g27 g28 gi29p gi30p (nI mvp) (nI ttp) g33 g34 g35 g36 g37 g38 g39 gi40 g41 g42 gi43 g44 g45), (aIc cI g2 8 G2), (aIc cI g3 8 G3), (aIc cI g4 8 G4), (aIc cI g5 8 G5), (aIc cI g6 8 G6), (aIc cI g7 8 G7), (aIc cI g8 8 G8), (aIc cI g10 64 G10), (aIc cI g12 10 G12), (aIc cI g13 10 G13), (aIc cI g19 8 G19p), (aIc cI g20 8 G20p), (aIc cI g21 8 G21p), (aIc cI g22 8 G22p), (aIc cI g23 8 G23p), (aIc cI g24 8 G24p), (aIc cI g25 8 G25p), (aIc cI g26 8 G26p), (aIc cI g27 8 G27p), (aIc cI g28 8 G28p), (aIc cI g33 8 G33p), (aIc cI g34 8 G34p), (aIc cI g35 8 G35p), (aIc cI g36 8 G36p), (aJc cJ g37 8 G37p)]) (va_A [(oX8 g gi0 (nI mn) g2 g3 g4 g5 g6 g7 g8 g9 g10 (nI ml) g12 g13 gi14 g15 g16 g17 gi18 g19 g20 g21 g22 g23 g24 g25 g26 g27 g28 gi29 gi30 (nI mv) (nI tt) g33 g34 g35 g36 g37 g38 g39 gi40 g41 g42 gi43 g44 g45), (aIc cI g2 8 G2), (aIc cI g3 8 G3), (aIc cI g4 8 G4), (aIc cI g5 8 G5), (aIc cI g6 8 G6), (aIc cI g7 8 G7), (aIc cI g8 8 G8), (aIc cI g10 64 G10), (aIc cI g12 10 G12), (aIc cI g13 10 G13), (aIc cI g19 8 G19), (aIc cI g20 8 G20), (aIc cI g21 8 G21), (aIc cI g22 8 G22), (aIc cI g23 8 G23), (aIc cI g24 8 G24), (aIc cI g25 8 G25), (aIc cI g26 8 G26), (aIc cI g27 8 G27), (aIc cI g28 8 G28), (aIc cI g33 8 G33), (aIc cI g34 8 G34), (aIc cI g35 8 G35), (aIc cI g36 8 G36), (aJc cJ g37 8 G37)] sz)) 0 0 (va_A [(oX8 g gi0 (nI mn) g2 g3 g4 g5 g6 g7 g8 g9 g10 (nI ml) g12 g13 gi14 g15 g16 g17 gi18 g19 g20 g21 g22 g23 g24 g25 g26 g27 g28 gi29 gi30 (nI mv) (nI tt) g33 g34 g35 g36 g37 g38 g39 gi40 g41 g42 gi43 g44 g45), (aIc cI g2 8 G2), (aIc cI g3 8 G3), (aIc cI g4 8 G4), (aIc cI g5 8 G5), (aIc cI g6 8 G6), (aIc cI g7 8 G7), (aIc cI g8 8 G8), (aIc cI g10 64 G10), (aIc cI g12 10 G12), (aIc cI g13 10 G13), (aIc cI g19 8 G19), (aIc cI g20 8 G20), (aIc cI g21 8 G21), (aIc cI g22 8 G22), (aIc cI g23 8 G23), (aIc cI g24 8 G24), (aIc cI g25 8 G25), (aIc cI g26 8 G26), (aIc cI g27 8 G27), (aIc cI g28 8 G28), (aIc cI g33 8 G33), (aIc cI g34 8 G34), (aIc cI g35 8 G35), (aIc cI g36 8 G36), (aJc cJ g37 8 G37)] sz) := by
  refine k_ofW (Qc := cQi D (fun r u => ∃ (G19p G20p G21p G22p G23p G24p G25p G26p G27p G28p G33p G34p G35p G36p : Nat → Int32) (G37p : Nat → Int64) (gi29p gi30p gi18p : Int32) (mvp ttp : Nat), (LE G19p) ∧ (LO G20p) ∧ (LW G25p) ∧ (SH G27p ttp) ∧ (ttp ≤ 1000000) ∧ (mvp ≤ 8) ∧ u = [(oX8 g gi0 (nI mn) g2 g3 g4 g5 g6 g7 g8 g9 g10 (nI ml) g12 g13 gi14 g15 g16 g17 gi18p g19 g20 g21 g22 g23 g24 g25 g26 g27 g28 gi29p gi30p (nI mvp) (nI ttp) g33 g34 g35 g36 g37 g38 g39 gi40 g41 g42 gi43 g44 g45), (aIc cI g2 8 G2), (aIc cI g3 8 G3), (aIc cI g4 8 G4), (aIc cI g5 8 G5), (aIc cI g6 8 G6), (aIc cI g7 8 G7), (aIc cI g8 8 G8), (aIc cI g10 64 G10), (aIc cI g12 10 G12), (aIc cI g13 10 G13), (aIc cI g19 8 G19p), (aIc cI g20 8 G20p), (aIc cI g21 8 G21p), (aIc cI g22 8 G22p), (aIc cI g23 8 G23p), (aIc cI g24 8 G24p), (aIc cI g25 8 G25p), (aIc cI g26 8 G26p), (aIc cI g27 8 G27p), (aIc cI g28 8 G28p), (aIc cI g33 8 G33p), (aIc cI g34 8 G34p), (aIc cI g35 8 G35p), (aIc cI g36 8 G36p), (aJc cJ g37 8 G37p)])) (by decide) rfl (Nat.le_of_ble_eq_true rfl) ?_
  intro p e s m below meth c A ls hx hb hr hml hts hown hlk hnm hsz hE hP hD hS hA hl
  have hown : s.vm.findClass RX8 = some m.cls := hown
  have hiX8 : ∀ w ∈ u_ws RX8 TX8 46, w ∈ wtX8_lastLoss := fun w h => List.mem_cons_of_mem _ (iuX8 w h)
  have hl : lv_has ls 3 [(0, .ref g), (1, .int (nI p0))] := hl
  refine lv_iconst (v := 0) hx hb dX8_lastLoss_0 (by decide) ?_
  refine lv_istore_n (lv' := [(2, .int 0), (0, .ref g), (1, .int (nI p0))]) hx hb dX8_lastLoss_1 rfl hl (by decide) rfl (fun ls hl => ?_)
  have J2 : ∀ (zz : Nat) (k2 : Nat) (a_g19_2 a_g20_2 a_g21_2 a_g22_2 a_g23_2 a_g24_2 a_g25_2 a_g26_2 a_g27_2 a_g28_2 a_g33_2 a_g34_2 a_g35_2 a_g36_2 : Nat → Int32) (a_g37_2 : Nat → Int64) (f8_29_2 f8_30_2 : Int32) (f8_31_2 f8_32_2 : Nat) (f8_18_2 : Int32), (k2 ≤ ml) → (LE a_g19_2) → (LO a_g20_2) → (LW a_g25_2) → (SH a_g27_2 f8_32_2) → (f8_32_2 ≤ 1000000) → (f8_31_2 ≤ 8) → (ml - k2) < zz → ∀ (H : Heap) (locs : List Loc) (ls : Array Slot), va_P D vwCl [(oX8 g gi0 (nI mn) g2 g3 g4 g5 g6 g7 g8 g9 g10 (nI ml) g12 g13 gi14 g15 g16 g17 f8_18_2 g19 g20 g21 g22 g23 g24 g25 g26 g27 g28 f8_29_2 f8_30_2 (nI f8_31_2) (nI f8_32_2) g33 g34 g35 g36 g37 g38 g39 gi40 g41 g42 gi43 g44 g45), (aIc cI g2 8 G2), (aIc cI g3 8 G3), (aIc cI g4 8 G4), (aIc cI g5 8 G5), (aIc cI g6 8 G6), (aIc cI g7 8 G7), (aIc cI g8 8 G8), (aIc cI g10 64 G10), (aIc cI g12 10 G12), (aIc cI g13 10 G13), (aIc cI g19 8 a_g19_2), (aIc cI g20 8 a_g20_2), (aIc cI g21 8 a_g21_2), (aIc cI g22 8 a_g22_2), (aIc cI g23 8 a_g23_2), (aIc cI g24 8 a_g24_2), (aIc cI g25 8 a_g25_2), (aIc cI g26 8 a_g26_2), (aIc cI g27 8 a_g27_2), (aIc cI g28 8 a_g28_2), (aIc cI g33 8 a_g33_2), (aIc cI g34 8 a_g34_2), (aIc cI g35 8 a_g35_2), (aIc cI g36 8 a_g36_2), (aJc cJ g37 8 a_g37_2)] H → va_D A [(oX8 g gi0 (nI mn) g2 g3 g4 g5 g6 g7 g8 g9 g10 (nI ml) g12 g13 gi14 g15 g16 g17 f8_18_2 g19 g20 g21 g22 g23 g24 g25 g26 g27 g28 f8_29_2 f8_30_2 (nI f8_31_2) (nI f8_32_2) g33 g34 g35 g36 g37 g38 g39 gi40 g41 g42 gi43 g44 g45), (aIc cI g2 8 G2), (aIc cI g3 8 G3), (aIc cI g4 8 G4), (aIc cI g5 8 G5), (aIc cI g6 8 G6), (aIc cI g7 8 G7), (aIc cI g8 8 G8), (aIc cI g10 64 G10), (aIc cI g12 10 G12), (aIc cI g13 10 G13), (aIc cI g19 8 a_g19_2), (aIc cI g20 8 a_g20_2), (aIc cI g21 8 a_g21_2), (aIc cI g22 8 a_g22_2), (aIc cI g23 8 a_g23_2), (aIc cI g24 8 a_g24_2), (aIc cI g25 8 a_g25_2), (aIc cI g26 8 a_g26_2), (aIc cI g27 8 a_g27_2), (aIc cI g28 8 a_g28_2), (aIc cI g33 8 a_g33_2), (aIc cI g34 8 a_g34_2), (aIc cI g35 8 a_g35_2), (aIc cI g36 8 a_g36_2), (aJc cJ g37 8 a_g37_2)] → va_S A s.heap H locs → lv_has ls 3 [(2, .int (nI k2)), (0, .ref g), (1, .int (nI p0))] → W p l e { frames := 8, cells := 0, slots := 0, locals := 189 } s m [.ref g, .int (nI p0)].toArray below meth c H locs 0 0 (MQ below (cQi D (fun r u => ∃ (G19p G20p G21p G22p G23p G24p G25p G26p G27p G28p G33p G34p G35p G36p : Nat → Int32) (G37p : Nat → Int64) (gi29p gi30p gi18p : Int32) (mvp ttp : Nat), (LE G19p) ∧ (LO G20p) ∧ (LW G25p) ∧ (SH G27p ttp) ∧ (ttp ≤ 1000000) ∧ (mvp ≤ 8) ∧ u = [(oX8 g gi0 (nI mn) g2 g3 g4 g5 g6 g7 g8 g9 g10 (nI ml) g12 g13 gi14 g15 g16 g17 gi18p g19 g20 g21 g22 g23 g24 g25 g26 g27 g28 gi29p gi30p (nI mvp) (nI ttp) g33 g34 g35 g36 g37 g38 g39 gi40 g41 g42 gi43 g44 g45), (aIc cI g2 8 G2), (aIc cI g3 8 G3), (aIc cI g4 8 G4), (aIc cI g5 8 G5), (aIc cI g6 8 G6), (aIc cI g7 8 G7), (aIc cI g8 8 G8), (aIc cI g10 64 G10), (aIc cI g12 10 G12), (aIc cI g13 10 G13), (aIc cI g19 8 G19p), (aIc cI g20 8 G20p), (aIc cI g21 8 G21p), (aIc cI g22 8 G22p), (aIc cI g23 8 G23p), (aIc cI g24 8 G24p), (aIc cI g25 8 G25p), (aIc cI g26 8 G26p), (aIc cI g27 8 G27p), (aIc cI g28 8 G28p), (aIc cI g33 8 G33p), (aIc cI g34 8 G34p), (aIc cI g35 8 G35p), (aIc cI g36 8 G36p), (aJc cJ g37 8 G37p)]) A) [.ref g, .int (nI p0)].toArray s 0 0 A) (F0 m 2 ls []) := by
    intro zz
    induction zz with
    | zero => intro k2 a_g19_2 a_g20_2 a_g21_2 a_g22_2 a_g23_2 a_g24_2 a_g25_2 a_g26_2 a_g27_2 a_g28_2 a_g33_2 a_g34_2 a_g35_2 a_g36_2 a_g37_2 f8_29_2 f8_30_2 f8_31_2 f8_32_2 f8_18_2 _ _ _ _ _ _ _; exact fun h => absurd h (Nat.not_lt_zero _)
    | succ zz ih2 =>
      intro k2 a_g19_2 a_g20_2 a_g21_2 a_g22_2 a_g23_2 a_g24_2 a_g25_2 a_g26_2 a_g27_2 a_g28_2 a_g33_2 a_g34_2 a_g35_2 a_g36_2 a_g37_2 f8_29_2 f8_30_2 f8_31_2 f8_32_2 f8_18_2 hc2_2 hLE_2 hLO_2 hLW_2 hSH_2 htt_2 hmv_2 hmu2 H locs ls hP hD hS hl
      refine lv_iload_n hx hb dX8_lastLoss_2 rfl (lv_at hl 0 rfl) ?_
      refine lv_aload_n hx hb dX8_lastLoss_3 rfl (lv_at hl 1 rfl) ?_
      refine va_get (D := D) (ci := 8) (v := .int (nI ml)) (C := RX8) (T := TX8) (N := 46) hx hb hts hiX8 hown hE.1 hP 0 rfl rfl 11 (by decide) (hts _ (List.mem_cons_of_mem _ wd_251)) (fun _ h9 => h9) rfl dX8_lastLoss_4 ?_
      refine lv_icmp_ge (tgt := 42) hx hb dX8_lastLoss_7 (by decide) (fun c1 => ?_) (fun c1 => ?_)
      · skip
        have nc1 : ml ≤ k2 := (nI_leI (a := ml) (b := k2) (by omega) (by omega)).mp c1
        refine lv_iconst (v := (-1)) hx hb dX8_lastLoss_42 (by decide) ?_
        refine k_iret (u := [(oX8 g gi0 (nI mn) g2 g3 g4 g5 g6 g7 g8 g9 g10 (nI ml) g12 g13 gi14 g15 g16 g17 f8_18_2 g19 g20 g21 g22 g23 g24 g25 g26 g27 g28 f8_29_2 f8_30_2 (nI f8_31_2) (nI f8_32_2) g33 g34 g35 g36 g37 g38 g39 gi40 g41 g42 gi43 g44 g45), (aIc cI g2 8 G2), (aIc cI g3 8 G3), (aIc cI g4 8 G4), (aIc cI g5 8 G5), (aIc cI g6 8 G6), (aIc cI g7 8 G7), (aIc cI g8 8 G8), (aIc cI g10 64 G10), (aIc cI g12 10 G12), (aIc cI g13 10 G13), (aIc cI g19 8 a_g19_2), (aIc cI g20 8 a_g20_2), (aIc cI g21 8 a_g21_2), (aIc cI g22 8 a_g22_2), (aIc cI g23 8 a_g23_2), (aIc cI g24 8 a_g24_2), (aIc cI g25 8 a_g25_2), (aIc cI g26 8 a_g26_2), (aIc cI g27 8 a_g27_2), (aIc cI g28 8 a_g28_2), (aIc cI g33 8 a_g33_2), (aIc cI g34 8 a_g34_2), (aIc cI g35 8 a_g35_2), (aIc cI g36 8 a_g36_2), (aJc cJ g37 8 a_g37_2)]) hx hb hr hlk hP hD hS dX8_lastLoss_43 ?_
        exact ⟨a_g19_2, a_g20_2, a_g21_2, a_g22_2, a_g23_2, a_g24_2, a_g25_2, a_g26_2, a_g27_2, a_g28_2, a_g33_2, a_g34_2, a_g35_2, a_g36_2, a_g37_2, f8_29_2, f8_30_2, f8_18_2, f8_31_2, f8_32_2, hLE_2, hLO_2, hLW_2, hSH_2, htt_2, hmv_2, rfl⟩
      · skip
        have nc1 : ¬ ml ≤ k2 := fun q9 => c1 ((nI_leI (a := ml) (b := k2) (by omega) (by omega)).mpr q9)
        refine lv_aload_n hx hb dX8_lastLoss_10 rfl (lv_at hl 1 rfl) ?_
        refine lv_iload_n hx hb dX8_lastLoss_11 rfl (lv_at hl 0 rfl) ?_
        refine lv_aload_n hx hb dX8_lastLoss_12 rfl (lv_at hl 1 rfl) ?_
        refine k_iS (va_runV (As := []) (rest := [.int (nI k2), .ref g]) ⟨hx, hb, hml, hown, hts⟩ (m_X8_all l D cI cJ H.size g g2 g3 g4 g5 g6 g7 g8 g9 g10 g12 g13 g15 g16 g17 g19 g20 g21 g22 g23 g24 g25 g26 g27 g28 g33 g34 g35 g36 g37 g38 g39 g41 g42 g44 g45 mn ml f8_31_2 gi0 gi14 f8_18_2 f8_29_2 f8_30_2 (nI f8_32_2) gi40 gi43 hmn) (cwV 0 hts gX8_lastLoss_X8_all rfl rfl rfl (by decide +kernel) ⟨Nat.le_of_ble_eq_true rfl, Nat.le_of_ble_eq_true rfl⟩) (k_preV hE hP hD [0] (by decide +kernel) rfl 0 rfl rfl) rfl rfl hl.1 rfl (lv_room (Nat.le_of_ble_eq_true rfl)) dX8_lastLoss_13 ⟨Nat.le_of_ble_eq_true rfl, Nat.le_of_ble_eq_true rfl⟩) hP hD hS hA [0] rfl (fun _ _ ⟨_, h9⟩ => h9) (fun r2 H locs hw3 hP hD hS => ?_)
        obtain ⟨rfl, -⟩ := hw3
        refine k_v (va_runV (As := [.int (nI k2), .int (nI (2 ^ mn - 1))]) (rest := []) ⟨hx, hb, hml, hown, hts⟩ (m_X8_settlesTo l D cI cJ H.size g g2 g3 g4 g5 g6 g7 g8 g9 g10 g12 g13 g15 g16 g17 g19 g20 g21 g22 g23 g24 g25 g26 g27 g28 g33 g34 g35 g36 g37 g38 g39 g41 g42 g44 g45 mn ml f8_31_2 f8_32_2 (k2 + 1) gi0 gi14 f8_18_2 f8_29_2 f8_30_2 gi40 gi43 (nI k2) (nI (2 ^ mn - 1)) G2 G3 G4 G5 G6 G7 G8 G10 G12 G13 a_g19_2 a_g20_2 a_g21_2 a_g22_2 a_g23_2 a_g24_2 a_g25_2 a_g26_2 a_g27_2 a_g28_2 a_g33_2 a_g34_2 a_g35_2 a_g36_2 a_g37_2 li0 wo0 de0 ag0 (nI_pred k2).symm (by omega) hit hsu hliv hlib hwov hwob hdev hdeb hagv hagb hamt hLE_2 hLO_2 hLW_2 hSH_2 htt_2 hmv_2) (cwV 2 hts gX8_lastLoss_X8_settlesTo rfl rfl rfl (by decide +kernel) ⟨Nat.le_of_ble_eq_true rfl, Nat.le_of_ble_eq_true rfl⟩) (k_preV hE hP hD [0, 1, 2, 3, 4, 5, 6, 7, 8, 9, 10, 11, 12, 13, 14, 15, 16, 17, 18, 19, 20, 21, 22, 23, 24, 25] (by decide +kernel) rfl 0 rfl rfl) rfl rfl hl.1 rfl (lv_room (Nat.le_of_ble_eq_true rfl)) dX8_lastLoss_16 ⟨Nat.le_of_ble_eq_true rfl, Nat.le_of_ble_eq_true rfl⟩) hP hD hS hA [0, 1, 2, 3, 4, 5, 6, 7, 8, 9, 10, 11, 12, 13, 14, 15, 16, 17, 18, 19, 20, 21, 22, 23, 24, 25] [] rfl (wr := []) rfl (by decide +kernel) (by decide +kernel) (fun u H locs hw4 hP hD hS => ?_)
        obtain ⟨z5, z6, z7, z8, z9, z10, z11, z12, z13, z14, z15, z16, z17, z18, z19, z20, z21, z22, z23, z24, hz25, hz26, hz27, hz28, hz29, hz30, hz31, rfl⟩ := hw4
        refine k_re (w := [(oX8 g gi0 (nI mn) g2 g3 g4 g5 g6 g7 g8 g9 g10 (nI ml) g12 g13 gi14 g15 g16 g17 z22 g19 g20 g21 g22 g23 g24 g25 g26 g27 g28 z20 z21 (nI z23) (nI z24) g33 g34 g35 g36 g37 g38 g39 gi40 g41 g42 gi43 g44 g45), (aIc cI g2 8 G2), (aIc cI g3 8 G3), (aIc cI g4 8 G4), (aIc cI g5 8 G5), (aIc cI g6 8 G6), (aIc cI g7 8 G7), (aIc cI g8 8 G8), (aIc cI g10 64 G10), (aIc cI g12 10 G12), (aIc cI g13 10 G13), (aIc cI g19 8 z5), (aIc cI g20 8 z6), (aIc cI g21 8 z7), (aIc cI g22 8 z8), (aIc cI g23 8 z9), (aIc cI g24 8 z10), (aIc cI g25 8 z11), (aIc cI g26 8 z12), (aIc cI g27 8 z13), (aIc cI g28 8 z14), (aIc cI g33 8 z15), (aIc cI g34 8 z16), (aIc cI g35 8 z17), (aIc cI g36 8 z18), (aJc cJ g37 8 z19)]) hP hD (fun hP hD => ?_)
        refine lv_aload_n hx hb dX8_lastLoss_19 rfl (lv_at hl 1 rfl) ?_
        refine va_get (D := D) (ci := 8) (v := .ref g28) (C := RX8) (T := TX8) (N := 46) hx hb hts hiX8 hown hE.1 hP 0 rfl rfl 28 (by decide) (hts _ (List.mem_cons_of_mem _ wd_139)) (fun _ h9 => h9) rfl dX8_lastLoss_20 ?_
        refine lv_iload_n hx hb dX8_lastLoss_23 rfl (lv_at hl 2 rfl) ?_
        refine va_iald hx hb hE.1 hP 20 0 rfl rfl (vp_in_nI (n := p0) (by omega) (by decide)) dX8_lastLoss_24 ?_
        refine lv_topi (fun v32 ev32 => ?_)
        refine lv_aload_n hx hb dX8_lastLoss_25 rfl (lv_at hl 1 rfl) ?_
        refine va_get (D := D) (ci := 8) (v := .ref g3) (C := RX8) (T := TX8) (N := 46) hx hb hts hiX8 hown hE.1 hP 0 rfl rfl 3 (by decide) (hts _ (List.mem_cons_of_mem _ wd_117)) (fun _ h9 => h9) rfl dX8_lastLoss_26 ?_
        refine lv_iload_n hx hb dX8_lastLoss_29 rfl (lv_at hl 2 rfl) ?_
        refine va_iald hx hb hE.1 hP 2 0 rfl rfl (vp_in_nI (n := p0) (by omega) (by decide)) dX8_lastLoss_30 ?_
        refine lv_topi (fun v33 ev33 => ?_)
        refine lv_icmp_ne (tgt := 36) hx hb dX8_lastLoss_31 (by decide) (fun c34 => ?_) (fun c34 => ?_)
        · skip
          refine lv_iinc (v := (nI (k2 + 1))) (lv' := [(2, .int (nI (k2 + 1))), (0, .ref g), (1, .int (nI p0))]) hx hb dX8_lastLoss_36 hl (k := 0) rfl (nI_1 _) (by decide) rfl (fun ls hl => ?_)
          refine lv_goto (tgt := 2) hx hb dX8_lastLoss_39 (by decide) ?_
          exact ih2 (k2 + 1) z5 z6 z7 z8 z9 z10 z11 z12 z13 z14 z15 z16 z17 z18 z19 z20 z21 z23 z24 z22 (by omega) hz25 hz26 hz27 hz28 hz29 hz30 (by omega) _ _ _ hP hD hS (lv_sub hl [0, 1, 2] rfl)
        · skip
          refine lv_iload_n hx hb dX8_lastLoss_34 rfl (lv_at hl 0 rfl) ?_
          refine k_iret (u := [(oX8 g gi0 (nI mn) g2 g3 g4 g5 g6 g7 g8 g9 g10 (nI ml) g12 g13 gi14 g15 g16 g17 z22 g19 g20 g21 g22 g23 g24 g25 g26 g27 g28 z20 z21 (nI z23) (nI z24) g33 g34 g35 g36 g37 g38 g39 gi40 g41 g42 gi43 g44 g45), (aIc cI g2 8 G2), (aIc cI g3 8 G3), (aIc cI g4 8 G4), (aIc cI g5 8 G5), (aIc cI g6 8 G6), (aIc cI g7 8 G7), (aIc cI g8 8 G8), (aIc cI g10 64 G10), (aIc cI g12 10 G12), (aIc cI g13 10 G13), (aIc cI g19 8 z5), (aIc cI g20 8 z6), (aIc cI g21 8 z7), (aIc cI g22 8 z8), (aIc cI g23 8 z9), (aIc cI g24 8 z10), (aIc cI g25 8 z11), (aIc cI g26 8 z12), (aIc cI g27 8 z13), (aIc cI g28 8 z14), (aIc cI g33 8 z15), (aIc cI g34 8 z16), (aIc cI g35 8 z17), (aIc cI g36 8 z18), (aJc cJ g37 8 z19)]) hx hb hr hlk hP hD hS dX8_lastLoss_35 ?_
          exact ⟨z5, z6, z7, z8, z9, z10, z11, z12, z13, z14, z15, z16, z17, z18, z19, z20, z21, z22, z23, z24, hz25, hz26, hz27, hz28, hz29, hz30, rfl⟩
  exact J2 _ 0 G19 G20 G21 G22 G23 G24 G25 G26 G27 G28 G33 G34 G35 G36 G37 gi29 gi30 mv tt gi18 (by omega) hLE hLO hLW hSH htt hmv (Nat.lt_succ_self _) _ _ _ hP hD hS (lv_sub hl [0, 1, 2] rfl)

