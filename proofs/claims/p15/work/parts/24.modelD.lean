theorem lcv {d S : Nat} (hd : d < 2 ^ 31) (hS : S < 2 ^ 31) : Int32.toInt64 (nI d) < lN S ↔ d < S := by
  rw [nI_l hd]; exact lN_lt hd hS
theorem mx_step {c0 : Nat → Nat} {i m m2 : Nat} (h : ∀ k, k < i → c0 k ≤ m) (h1 : m ≤ m2) (h2 : c0 i ≤ m2) : ∀ k, k < i + 1 → c0 k ≤ m2 := by
  intro k hk
  rcases Nat.lt_or_ge k i with q | q
  · exact Nat.le_trans (h k q) h1
  · obtain rfl : k = i := (by omega)
    exact h2
theorem sm_min0 (c0 : Nat → Nat) : sm (fun k => min (c0 k) 0) 8 = 0 := by
  rw [sm_cong (g := fun _ => 0) (fun k _ => Nat.min_zero _)]; exact sm_zero 8
theorem sm_minb {c0 : Nat → Nat} (hcb : ∀ k, k < 8 → c0 k ≤ 1000000) (h : Nat) : sm (fun k => min (c0 k) h) 8 ≤ 8000000 := sm_bound (c := 1000000) (fun k hk => Nat.le_trans (Nat.min_le_left _ _) (hcb k hk))
theorem dX8_heightFor_0 : decode cX8_heightFor 0 = .ok (.iconst 0, 1) := by decide +kernel
theorem dX8_heightFor_1 : decode cX8_heightFor 1 = .ok (.istore_n 2, 1) := by decide +kernel
theorem dX8_heightFor_2 : decode cX8_heightFor 2 = .ok (.iconst 0, 1) := by decide +kernel
theorem dX8_heightFor_3 : decode cX8_heightFor 3 = .ok (.istore_n 3, 1) := by decide +kernel
theorem dX8_heightFor_4 : decode cX8_heightFor 4 = .ok (.iconst 0, 1) := by decide +kernel
theorem dX8_heightFor_5 : decode cX8_heightFor 5 = .ok (.istore 4, 2) := by decide +kernel
theorem dX8_heightFor_7 : decode cX8_heightFor 7 = .ok (.iload 4, 2) := by decide +kernel
theorem dX8_heightFor_9 : decode cX8_heightFor 9 = .ok (.bipush 8, 2) := by decide +kernel
theorem dX8_heightFor_11 : decode cX8_heightFor 11 = .ok (.if_icmp .ge 32, 3) := by decide +kernel
theorem dX8_heightFor_14 : decode cX8_heightFor 14 = .ok (.aload_n 0, 1) := by decide +kernel
theorem dX8_heightFor_15 : decode cX8_heightFor 15 = .ok (.getfield 88, 3) := by decide +kernel
theorem dX8_heightFor_18 : decode cX8_heightFor 18 = .ok (.iload 4, 2) := by decide +kernel
theorem dX8_heightFor_20 : decode cX8_heightFor 20 = .ok (.iaload, 1) := by decide +kernel
theorem dX8_heightFor_21 : decode cX8_heightFor 21 = .ok (.iload_n 3, 1) := by decide +kernel
theorem dX8_heightFor_22 : decode cX8_heightFor 22 = .ok (.if_icmp .le 13, 3) := by decide +kernel
theorem dX8_heightFor_25 : decode cX8_heightFor 25 = .ok (.aload_n 0, 1) := by decide +kernel
theorem dX8_heightFor_26 : decode cX8_heightFor 26 = .ok (.getfield 88, 3) := by decide +kernel
theorem dX8_heightFor_29 : decode cX8_heightFor 29 = .ok (.iload 4, 2) := by decide +kernel
theorem dX8_heightFor_31 : decode cX8_heightFor 31 = .ok (.iaload, 1) := by decide +kernel
theorem dX8_heightFor_32 : decode cX8_heightFor 32 = .ok (.goto 4, 3) := by decide +kernel
theorem dX8_heightFor_35 : decode cX8_heightFor 35 = .ok (.iload_n 3, 1) := by decide +kernel
theorem dX8_heightFor_36 : decode cX8_heightFor 36 = .ok (.istore_n 3, 1) := by decide +kernel
theorem dX8_heightFor_37 : decode cX8_heightFor 37 = .ok (.iinc 4 1, 3) := by decide +kernel
theorem dX8_heightFor_40 : decode cX8_heightFor 40 = .ok (.goto (-33), 3) := by decide +kernel
theorem dX8_heightFor_43 : decode cX8_heightFor 43 = .ok (.iload_n 2, 1) := by decide +kernel
theorem dX8_heightFor_44 : decode cX8_heightFor 44 = .ok (.iload_n 3, 1) := by decide +kernel
theorem dX8_heightFor_45 : decode cX8_heightFor 45 = .ok (.if_icmp .ge 38, 3) := by decide +kernel
theorem dX8_heightFor_48 : decode cX8_heightFor 48 = .ok (.iload_n 2, 1) := by decide +kernel
theorem dX8_heightFor_49 : decode cX8_heightFor 49 = .ok (.iload_n 3, 1) := by decide +kernel
theorem dX8_heightFor_50 : decode cX8_heightFor 50 = .ok (.iadd, 1) := by decide +kernel
theorem dX8_heightFor_51 : decode cX8_heightFor 51 = .ok (.iconst 1, 1) := by decide +kernel
theorem dX8_heightFor_52 : decode cX8_heightFor 52 = .ok (.iadd, 1) := by decide +kernel
theorem dX8_heightFor_53 : decode cX8_heightFor 53 = .ok (.iconst 2, 1) := by decide +kernel
theorem dX8_heightFor_54 : decode cX8_heightFor 54 = .ok (.idiv, 1) := by decide +kernel
theorem dX8_heightFor_55 : decode cX8_heightFor 55 = .ok (.istore 4, 2) := by decide +kernel
theorem dX8_heightFor_57 : decode cX8_heightFor 57 = .ok (.aload_n 0, 1) := by decide +kernel
theorem dX8_heightFor_58 : decode cX8_heightFor 58 = .ok (.iload 4, 2) := by decide +kernel
theorem dX8_heightFor_60 : decode cX8_heightFor 60 = .ok (.invokevirtual 171, 3) := by decide +kernel
theorem dX8_heightFor_63 : decode cX8_heightFor 63 = .ok (.iload_n 1, 1) := by decide +kernel
theorem dX8_heightFor_64 : decode cX8_heightFor 64 = .ok (.i2l, 1) := by decide +kernel
theorem dX8_heightFor_65 : decode cX8_heightFor 65 = .ok (.lcmp, 1) := by decide +kernel
theorem dX8_heightFor_66 : decode cX8_heightFor 66 = .ok (.ifCond .gt 9, 3) := by decide +kernel
theorem dX8_heightFor_69 : decode cX8_heightFor 69 = .ok (.iload 4, 2) := by decide +kernel
theorem dX8_heightFor_71 : decode cX8_heightFor 71 = .ok (.istore_n 2, 1) := by decide +kernel
theorem dX8_heightFor_72 : decode cX8_heightFor 72 = .ok (.goto 8, 3) := by decide +kernel
theorem dX8_heightFor_75 : decode cX8_heightFor 75 = .ok (.iload 4, 2) := by decide +kernel
theorem dX8_heightFor_77 : decode cX8_heightFor 77 = .ok (.iconst 1, 1) := by decide +kernel
theorem dX8_heightFor_78 : decode cX8_heightFor 78 = .ok (.isub, 1) := by decide +kernel
theorem dX8_heightFor_79 : decode cX8_heightFor 79 = .ok (.istore_n 3, 1) := by decide +kernel
theorem dX8_heightFor_80 : decode cX8_heightFor 80 = .ok (.goto (-37), 3) := by decide +kernel
theorem dX8_heightFor_83 : decode cX8_heightFor 83 = .ok (.iload_n 2, 1) := by decide +kernel
theorem dX8_heightFor_84 : decode cX8_heightFor 84 = .ok (.ireturn, 1) := by decide +kernel
theorem gX8_heightFor_X8_byHeight : GoodIn wtX8_heightFor (wsV RX8 171 RX8 yX8_byHeight wtX8_byHeight) := tb_good (tb_v0 wd_470 wd_471 wd_472 wd_5 wd_473)
set_option maxHeartbeats 4000000 in
set_option maxRecDepth 100000 in
theorem m_X8_heightFor (l : Launch) (D : va_G) (cI cJ : ClassId) (sz : Nat) (g g2 g3 g4 g5 g6 g7 g8 g9 g10 g12 g13 g15 g16 g17 g19 g20 g21 g22 g23 g24 g25 g26 g27 g28 g33 g34 g35 g36 g37 g38 g39 g41 g42 g44 g45 du mn ml mv : Nat) (gi0 gi14 gi18 gi29 gi30 gi32 gi40 gi43 : Int32) (G35 : Nat → Int32) (c0 : Nat → Nat) (hcv : nv G35 c0) (hcb : ∀ k, k < 8 → c0 k ≤ 1000000) (hdu : du ≤ 100000000) : Met l yX8_heightFor wtX8_heightFor { frames := 2, cells := 0, slots := 0, locals := 45 } (cPc D cI cJ [.ref g, .int (nI du)] sz [(oX8 g gi0 (nI mn) g2 g3 g4 g5 g6 g7 g8 g9 g10 (nI ml) g12 g13 gi14 g15 g16 g17 gi18 g19 g20 g21 g22 g23 g24 g25 g26 g27 g28 gi29 gi30 (nI mv) gi32 g33 g34 g35 g36 g37 g38 g39 gi40 g41 g42 gi43 g44 g45), (aIc cI g35 8 G35)]) (cQi D (fun r u => ∃ (h1 : Nat), (h1 ≤ 1000000) ∧ (sm (fun k => min (c0 k) h1) 8 ≤ du) ∧ ((∀ k, k < 8 → c0 k ≤ h1) ∨ du < sm (fun k => min (c0 k) (h1 + 1)) 8) ∧ r = (nI h1) ∧ u = [(oX8 g gi0 (nI mn) g2 g3 g4 g5 g6 g7 g8 g9 g10 (nI ml) g12 g13 gi14 g15 g16 g17 gi18 g19 g20 g21 g22 g23 g24 g25 g26 g27 g28 gi29 gi30 (nI mv) gi32 g33 g34 g35 g36 g37 g38 g39 gi40 g41 g42 gi43 g44 g45), (aIc cI g35 8 G35)]) (va_A [(oX8 g gi0 (nI mn) g2 g3 g4 g5 g6 g7 g8 g9 g10 (nI ml) g12 g13 gi14 g15 g16 g17 gi18 g19 g20 g21 g22 g23 g24 g25 g26 g27 g28 gi29 gi30 (nI mv) gi32 g33 g34 g35 g36 g37 g38 g39 gi40 g41 g42 gi43 g44 g45), (aIc cI g35 8 G35)] sz)) 0 0 (va_A [(oX8 g gi0 (nI mn) g2 g3 g4 g5 g6 g7 g8 g9 g10 (nI ml) g12 g13 gi14 g15 g16 g17 gi18 g19 g20 g21 g22 g23 g24 g25 g26 g27 g28 gi29 gi30 (nI mv) gi32 g33 g34 g35 g36 g37 g38 g39 gi40 g41 g42 gi43 g44 g45), (aIc cI g35 8 G35)] sz) := by
  refine k_ofW (Qc := cQi D (fun r u => ∃ (h1 : Nat), (h1 ≤ 1000000) ∧ (sm (fun k => min (c0 k) h1) 8 ≤ du) ∧ ((∀ k, k < 8 → c0 k ≤ h1) ∨ du < sm (fun k => min (c0 k) (h1 + 1)) 8) ∧ r = (nI h1) ∧ u = [(oX8 g gi0 (nI mn) g2 g3 g4 g5 g6 g7 g8 g9 g10 (nI ml) g12 g13 gi14 g15 g16 g17 gi18 g19 g20 g21 g22 g23 g24 g25 g26 g27 g28 gi29 gi30 (nI mv) gi32 g33 g34 g35 g36 g37 g38 g39 gi40 g41 g42 gi43 g44 g45), (aIc cI g35 8 G35)])) (by decide) rfl (Nat.le_of_ble_eq_true rfl) ?_
  intro p e s m below meth c A ls hx hb hr hml hts hown hlk hnm hsz hE hP hD hS hA hl
  have hown : s.vm.findClass RX8 = some m.cls := hown
  have hiX8 : ∀ w ∈ u_ws RX8 TX8 46, w ∈ wtX8_heightFor := fun w h => List.mem_cons_of_mem _ (iuX8 w h)
  have hl : lv_has ls 5 [(0, .ref g), (1, .int (nI du))] := hl
  refine lv_iconst (v := 0) hx hb dX8_heightFor_0 (by decide) ?_
  refine lv_istore_n (lv' := [(2, .int 0), (0, .ref g), (1, .int (nI du))]) hx hb dX8_heightFor_1 rfl hl (by decide) rfl (fun ls hl => ?_)
  refine lv_iconst (v := 0) hx hb dX8_heightFor_2 (by decide) ?_
  refine lv_istore_n (lv' := [(3, .int 0), (2, .int 0), (0, .ref g), (1, .int (nI du))]) hx hb dX8_heightFor_3 rfl hl (by decide) rfl (fun ls hl => ?_)
  refine lv_iconst (v := 0) hx hb dX8_heightFor_4 (by decide) ?_
  refine lv_istore (lv' := [(4, .int 0), (3, .int 0), (2, .int 0), (0, .ref g), (1, .int (nI du))]) hx hb dX8_heightFor_5 hl (by decide) rfl (fun ls hl => ?_)
  have J7 : ∀ (zz : Nat) (i7 h3_7 : Nat), (i7 ≤ 8) → (∀ k, k < i7 → c0 k ≤ h3_7) → (h3_7 ≤ 1000000) → (8 - i7) < zz → ∀ (H : Heap) (locs : List Loc) (ls : Array Slot), va_P D vwCl [(oX8 g gi0 (nI mn) g2 g3 g4 g5 g6 g7 g8 g9 g10 (nI ml) g12 g13 gi14 g15 g16 g17 gi18 g19 g20 g21 g22 g23 g24 g25 g26 g27 g28 gi29 gi30 (nI mv) gi32 g33 g34 g35 g36 g37 g38 g39 gi40 g41 g42 gi43 g44 g45), (aIc cI g35 8 G35)] H → va_D A [(oX8 g gi0 (nI mn) g2 g3 g4 g5 g6 g7 g8 g9 g10 (nI ml) g12 g13 gi14 g15 g16 g17 gi18 g19 g20 g21 g22 g23 g24 g25 g26 g27 g28 gi29 gi30 (nI mv) gi32 g33 g34 g35 g36 g37 g38 g39 gi40 g41 g42 gi43 g44 g45), (aIc cI g35 8 G35)] → va_S A s.heap H locs → lv_has ls 5 [(4, .int (nI i7)), (3, .int (nI h3_7)), (2, .int 0), (0, .ref g), (1, .int (nI du))] → W p l e { frames := 2, cells := 0, slots := 0, locals := 45 } s m [.ref g, .int (nI du)].toArray below meth c H locs 0 0 (MQ below (cQi D (fun r u => ∃ (h1 : Nat), (h1 ≤ 1000000) ∧ (sm (fun k => min (c0 k) h1) 8 ≤ du) ∧ ((∀ k, k < 8 → c0 k ≤ h1) ∨ du < sm (fun k => min (c0 k) (h1 + 1)) 8) ∧ r = (nI h1) ∧ u = [(oX8 g gi0 (nI mn) g2 g3 g4 g5 g6 g7 g8 g9 g10 (nI ml) g12 g13 gi14 g15 g16 g17 gi18 g19 g20 g21 g22 g23 g24 g25 g26 g27 g28 gi29 gi30 (nI mv) gi32 g33 g34 g35 g36 g37 g38 g39 gi40 g41 g42 gi43 g44 g45), (aIc cI g35 8 G35)]) A) [.ref g, .int (nI du)].toArray s 0 0 A) (F0 m 7 ls []) := by
    intro zz
    induction zz with
    | zero => intro i7 h3_7 _ _ _; exact fun h => absurd h (Nat.not_lt_zero _)
    | succ zz ih7 =>
      intro i7 h3_7 hc4_7 hmx_7 hm6_7 hmu7 H locs ls hP hD hS hl
      refine lv_iload hx hb dX8_heightFor_7 (lv_at hl 0 rfl) ?_
      refine lv_bipush (v := 8) hx hb dX8_heightFor_9 (by decide) ?_
      refine lv_icmp_ge (tgt := 43) hx hb dX8_heightFor_11 (by decide) (fun c1 => ?_) (fun c1 => ?_)
      · skip
        have nc1 : 8 ≤ i7 := (nI_leI (a := 8) (b := i7) (by omega) (by omega)).mp c1
        have J43 : ∀ (zz : Nat) (h2_43 h3_43 : Nat), (h2_43 ≤ h3_43) → (h3_43 ≤ h3_7) → (sm (fun k => min (c0 k) h2_43) 8 ≤ du) → (h3_43 = h3_7 ∨ du < sm (fun k => min (c0 k) (h3_43 + 1)) 8) → h3_43 - h2_43 < zz → ∀ (H : Heap) (locs : List Loc) (ls : Array Slot), va_P D vwCl [(oX8 g gi0 (nI mn) g2 g3 g4 g5 g6 g7 g8 g9 g10 (nI ml) g12 g13 gi14 g15 g16 g17 gi18 g19 g20 g21 g22 g23 g24 g25 g26 g27 g28 gi29 gi30 (nI mv) gi32 g33 g34 g35 g36 g37 g38 g39 gi40 g41 g42 gi43 g44 g45), (aIc cI g35 8 G35)] H → va_D A [(oX8 g gi0 (nI mn) g2 g3 g4 g5 g6 g7 g8 g9 g10 (nI ml) g12 g13 gi14 g15 g16 g17 gi18 g19 g20 g21 g22 g23 g24 g25 g26 g27 g28 gi29 gi30 (nI mv) gi32 g33 g34 g35 g36 g37 g38 g39 gi40 g41 g42 gi43 g44 g45), (aIc cI g35 8 G35)] → va_S A s.heap H locs → lv_has ls 5 [(3, .int (nI h3_43)), (2, .int (nI h2_43)), (0, .ref g), (1, .int (nI du))] → W p l e { frames := 2, cells := 0, slots := 0, locals := 45 } s m [.ref g, .int (nI du)].toArray below meth c H locs 0 0 (MQ below (cQi D (fun r u => ∃ (h1 : Nat), (h1 ≤ 1000000) ∧ (sm (fun k => min (c0 k) h1) 8 ≤ du) ∧ ((∀ k, k < 8 → c0 k ≤ h1) ∨ du < sm (fun k => min (c0 k) (h1 + 1)) 8) ∧ r = (nI h1) ∧ u = [(oX8 g gi0 (nI mn) g2 g3 g4 g5 g6 g7 g8 g9 g10 (nI ml) g12 g13 gi14 g15 g16 g17 gi18 g19 g20 g21 g22 g23 g24 g25 g26 g27 g28 gi29 gi30 (nI mv) gi32 g33 g34 g35 g36 g37 g38 g39 gi40 g41 g42 gi43 g44 g45), (aIc cI g35 8 G35)]) A) [.ref g, .int (nI du)].toArray s 0 0 A) (F0 m 43 ls []) := by
          intro zz
          induction zz with
          | zero => intro h2_43 h3_43 _ _ _ _; exact fun h => absurd h (Nat.not_lt_zero _)
          | succ zz ih43 =>
            intro h2_43 h3_43 hlo_43 hhi_43 hS_43 hT_43 hmu43 H locs ls hP hD hS hl
            refine lv_iload_n hx hb dX8_heightFor_43 rfl (lv_at hl 1 rfl) ?_
            refine lv_iload_n hx hb dX8_heightFor_44 rfl (lv_at hl 0 rfl) ?_
            refine lv_icmp_ge (tgt := 83) hx hb dX8_heightFor_45 (by decide) (fun c2 => ?_) (fun c2 => ?_)
            · skip
              have nc2 : h3_43 ≤ h2_43 := (nI_leI (a := h3_43) (b := h2_43) (by omega) (by omega)).mp c2
              refine lv_iload_n hx hb dX8_heightFor_83 rfl (lv_at hl 1 rfl) ?_
              refine k_iret (u := [(oX8 g gi0 (nI mn) g2 g3 g4 g5 g6 g7 g8 g9 g10 (nI ml) g12 g13 gi14 g15 g16 g17 gi18 g19 g20 g21 g22 g23 g24 g25 g26 g27 g28 gi29 gi30 (nI mv) gi32 g33 g34 g35 g36 g37 g38 g39 gi40 g41 g42 gi43 g44 g45), (aIc cI g35 8 G35)]) hx hb hr hlk hP hD hS dX8_heightFor_84 ?_
              exact ⟨h2_43, (by omega), hS_43, (hT_43.elim (fun q => Or.inl (fun k hk => by have := hmx_7 k (by omega); omega)) (fun q => Or.inr (by rw [show h2_43 + 1 = h3_43 + 1 from by omega]; exact q))), rfl, rfl⟩
            · skip
              have nc2 : ¬ h3_43 ≤ h2_43 := fun q9 => c2 ((nI_leI (a := h3_43) (b := h2_43) (by omega) (by omega)).mpr q9)
              refine lv_iload_n hx hb dX8_heightFor_48 rfl (lv_at hl 1 rfl) ?_
              refine lv_iload_n hx hb dX8_heightFor_49 rfl (lv_at hl 0 rfl) ?_
              refine lv_iadd hx hb dX8_heightFor_50 ?_
              refine lv_topi (fun v3 ev3 => ?_)
              obtain rfl : v3 = (nI (h2_43 + h3_43)) := by rw [ev3]; exact nI_add h2_43 h3_43
              refine lv_iconst (v := 1) hx hb dX8_heightFor_51 (by decide) ?_
              refine lv_iadd hx hb dX8_heightFor_52 ?_
              refine lv_topi (fun v4 ev4 => ?_)
              obtain rfl : v4 = (nI ((h2_43 + h3_43) + 1)) := by rw [ev4]; exact nI_add (h2_43 + h3_43) 1
              refine lv_iconst (v := 2) hx hb dX8_heightFor_53 (by decide) ?_
              refine lv_idiv hx hb dX8_heightFor_54 (by decide) ?_
              refine lv_topi (fun v5 ev5 => ?_)
              obtain ⟨at0, eat⟩ : ∃ z : Nat, z = (h2_43 + h3_43 + 1) / 2 := ⟨_, rfl⟩
              obtain rfl : v5 = nI at0 := by rw [ev5, eat]; exact pk_div (by omega) (by decide) (by decide)
              refine lv_istore (lv' := [(4, .int (nI at0)), (3, .int (nI h3_43)), (2, .int (nI h2_43)), (0, .ref g), (1, .int (nI du))]) hx hb dX8_heightFor_55 hl (by decide) rfl (fun ls hl => ?_)
              refine lv_aload_n hx hb dX8_heightFor_57 rfl (lv_at hl 3 rfl) ?_
              refine lv_iload hx hb dX8_heightFor_58 (lv_at hl 0 rfl) ?_
              refine k_lS (va_runV (As := [.int (nI at0)]) (rest := []) ⟨hx, hb, hml, hown, hts⟩ (m_X8_byHeight l D cI cJ H.size g g2 g3 g4 g5 g6 g7 g8 g9 g10 g12 g13 g15 g16 g17 g19 g20 g21 g22 g23 g24 g25 g26 g27 g28 g33 g34 g35 g36 g37 g38 g39 g41 g42 g44 g45 at0 mn ml mv gi0 gi14 gi18 gi29 gi30 gi32 gi40 gi43 G35 c0 hcv hcb (by omega)) (cwV 1 hts gX8_heightFor_X8_byHeight rfl rfl rfl (by decide +kernel) ⟨Nat.le_of_ble_eq_true rfl, Nat.le_of_ble_eq_true rfl⟩) (k_preV hE hP hD [0, 1] (by decide +kernel) rfl 0 rfl rfl) rfl rfl hl.1 rfl (lv_room (Nat.le_of_ble_eq_true rfl)) dX8_heightFor_60 ⟨Nat.le_of_ble_eq_true rfl, Nat.le_of_ble_eq_true rfl⟩) hP hD hS hA [0, 1] rfl (fun _ _ ⟨_, h9⟩ => h9) (fun r6 H locs hw7 hP hD hS => ?_)
              obtain ⟨rfl, -⟩ := hw7
              refine lv_iload_n hx hb dX8_heightFor_63 rfl (lv_at hl 4 rfl) ?_
              refine lv_i2l hx hb dX8_heightFor_64 rfl ?_
              refine k_lcmp_gt (tgt := 75) hx hb dX8_heightFor_65 dX8_heightFor_66 (by decide) (fun c8 => ?_) (fun c8 => ?_)
              · skip
                have hgt : du < sm (fun k => min (c0 k) at0) 8 := (lcv (by omega) (by have := sm_minb hcb at0; omega)).mp c8
                refine lv_iload hx hb dX8_heightFor_75 (lv_at hl 0 rfl) ?_
                refine lv_iconst (v := 1) hx hb dX8_heightFor_77 (by decide) ?_
                refine lv_isub hx hb dX8_heightFor_78 ?_
                refine lv_topi (fun v9 ev9 => ?_)
                obtain rfl : v9 = nI (at0 - 1) := by rw [ev9]; exact pk_sub (a := at0) (b := 1) (by omega)
                refine lv_istore_n (lv' := [(3, .int (nI (at0 - 1))), (4, .int (nI at0)), (2, .int (nI h2_43)), (0, .ref g), (1, .int (nI du))]) hx hb dX8_heightFor_79 rfl hl (by decide) rfl (fun ls hl => ?_)
                refine lv_goto (tgt := 43) hx hb dX8_heightFor_80 (by decide) ?_
                exact ih43 h2_43 (at0 - 1) (by omega) (by omega) hS_43 (Or.inr (by rw [show at0 - 1 + 1 = at0 from by omega]; exact hgt)) (by omega) _ _ _ hP hD hS (lv_sub hl [0, 2, 3, 4] rfl)
              · skip
                have hle : sm (fun k => min (c0 k) at0) 8 ≤ du := Nat.le_of_not_lt (fun q => c8 ((lcv (by omega) (by have := sm_minb hcb at0; omega)).mpr q))
                refine lv_iload hx hb dX8_heightFor_69 (lv_at hl 0 rfl) ?_
                refine lv_istore_n (lv' := [(2, .int (nI at0)), (4, .int (nI at0)), (3, .int (nI h3_43)), (0, .ref g), (1, .int (nI du))]) hx hb dX8_heightFor_71 rfl hl (by decide) rfl (fun ls hl => ?_)
                refine lv_goto (tgt := 80) hx hb dX8_heightFor_72 (by decide) ?_
                refine lv_goto (tgt := 43) hx hb dX8_heightFor_80 (by decide) ?_
                exact ih43 at0 h3_43 (by omega) (by omega) hle hT_43 (by omega) _ _ _ hP hD hS (lv_sub hl [2, 0, 3, 4] rfl)
        exact J43 _ 0 h3_7 (by omega) (by omega) (by rw [sm_min0]; exact Nat.zero_le _) (Or.inl rfl) (Nat.lt_succ_self _) _ _ _ hP hD hS (lv_sub hl [1, 2, 3, 4] rfl)
      · skip
        have nc1 : ¬ 8 ≤ i7 := fun q9 => c1 ((nI_leI (a := 8) (b := i7) (by omega) (by omega)).mpr q9)
        refine lv_aload_n hx hb dX8_heightFor_14 rfl (lv_at hl 3 rfl) ?_
        refine va_get (D := D) (ci := 8) (v := .ref g35) (C := RX8) (T := TX8) (N := 46) hx hb hts hiX8 hown hE.1 hP 0 rfl rfl 35 (by decide) (hts _ (List.mem_cons_of_mem _ wd_142)) (fun _ h9 => h9) rfl dX8_heightFor_15 ?_
        refine lv_iload hx hb dX8_heightFor_18 (lv_at hl 0 rfl) ?_
        refine va_iald hx hb hE.1 hP 1 0 rfl rfl (vp_in_nI (n := i7) (by omega) (by decide)) dX8_heightFor_20 ?_
        refine lv_topi (fun v10 ev10 => ?_)
        have hcb_ := hcb i7 (by omega)
        obtain rfl : v10 = nI (c0 i7) := ev10.trans (nv_at hcv (by omega))
        refine lv_iload_n hx hb dX8_heightFor_21 rfl (lv_at hl 1 rfl) ?_
        refine lv_icmp_le (tgt := 35) hx hb dX8_heightFor_22 (by decide) (fun c11 => ?_) (fun c11 => ?_)
        · skip
          have nc11 : c0 i7 ≤ h3_7 := (nI_leI (a := (c0 i7)) (b := h3_7) (by omega) (by omega)).mp c11
          refine lv_iload_n hx hb dX8_heightFor_35 rfl (lv_at hl 1 rfl) ?_
          refine lv_istore_n (lv' := [(3, .int (nI h3_7)), (4, .int (nI i7)), (2, .int 0), (0, .ref g), (1, .int (nI du))]) hx hb dX8_heightFor_36 rfl hl (by decide) rfl (fun ls hl => ?_)
          refine lv_iinc (v := (nI (i7 + 1))) (lv' := [(4, .int (nI (i7 + 1))), (3, .int (nI h3_7)), (2, .int 0), (0, .ref g), (1, .int (nI du))]) hx hb dX8_heightFor_37 hl (k := 1) rfl (nI_1 _) (by decide) rfl (fun ls hl => ?_)
          refine lv_goto (tgt := 7) hx hb dX8_heightFor_40 (by decide) ?_
          exact ih7 (i7 + 1) h3_7 (by omega) (mx_step hmx_7 (by omega) (by omega)) (by omega) (by omega) _ _ _ hP hD hS (lv_sub hl [0, 1, 2, 3, 4] rfl)
        · skip
          have nc11 : ¬ c0 i7 ≤ h3_7 := fun q9 => c11 ((nI_leI (a := (c0 i7)) (b := h3_7) (by omega) (by omega)).mpr q9)
          refine lv_aload_n hx hb dX8_heightFor_25 rfl (lv_at hl 3 rfl) ?_
          refine va_get (D := D) (ci := 8) (v := .ref g35) (C := RX8) (T := TX8) (N := 46) hx hb hts hiX8 hown hE.1 hP 0 rfl rfl 35 (by decide) (hts _ (List.mem_cons_of_mem _ wd_142)) (fun _ h9 => h9) rfl dX8_heightFor_26 ?_
          refine lv_iload hx hb dX8_heightFor_29 (lv_at hl 0 rfl) ?_
          refine va_iald hx hb hE.1 hP 1 0 rfl rfl (vp_in_nI (n := i7) (by omega) (by decide)) dX8_heightFor_31 ?_
          refine lv_topi (fun v12 ev12 => ?_)
          have hcb_ := hcb i7 (by omega)
          obtain rfl : v12 = nI (c0 i7) := ev12.trans (nv_at hcv (by omega))
          refine lv_goto (tgt := 36) hx hb dX8_heightFor_32 (by decide) ?_
          refine lv_istore_n (lv' := [(3, .int (nI (c0 i7))), (4, .int (nI i7)), (2, .int 0), (0, .ref g), (1, .int (nI du))]) hx hb dX8_heightFor_36 rfl hl (by decide) rfl (fun ls hl => ?_)
          refine lv_iinc (v := (nI (i7 + 1))) (lv' := [(4, .int (nI (i7 + 1))), (3, .int (nI (c0 i7))), (2, .int 0), (0, .ref g), (1, .int (nI du))]) hx hb dX8_heightFor_37 hl (k := 1) rfl (nI_1 _) (by decide) rfl (fun ls hl => ?_)
          refine lv_goto (tgt := 7) hx hb dX8_heightFor_40 (by decide) ?_
          exact ih7 (i7 + 1) (c0 i7) (by omega) (mx_step hmx_7 (by omega) (by omega)) (by omega) (by omega) _ _ _ hP hD hS (lv_sub hl [0, 1, 2, 3, 4] rfl)
  exact J7 _ 0 0 (by omega) (fun k hk => absurd hk (Nat.not_lt_zero k)) (by omega) (Nat.lt_succ_self _) _ _ _ hP hD hS (lv_sub hl [0, 1, 2, 3, 4] rfl)

