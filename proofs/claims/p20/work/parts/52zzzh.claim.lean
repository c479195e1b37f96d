set_option maxHeartbeats 4000000 in
set_option maxRecDepth 100000 in
theorem e_X1_read (l : Launch) (D : va_G) (cI cJ : ClassId) (sz : Nat) (x3 t0 t1 t2 t3 t6 t8 np pm : Nat) (ti4 ti7 : Int32) (dg : Int64) (T6 : Nat → Int32) (hnp : np ≤ 8) (hor : ∀ k, k < 8 → ∃ j : Nat, j < 8 ∧ T6 k = nI j) : Met l yX1_read wtX1_read { frames := 1, cells := 0, slots := 0, locals := 22 } (cPc D cI cJ [.ref x3, .long dg, .int (nI np)] sz [(oX1 x3 t0 t1 t2 t3 ti4 (nI pm) t6 ti7 t8), (aIc cI t6 8 T6)]) (cQi D (fun r u => ∃ (T6p : Nat → Int32) (cn9 : Nat), (∀ k, k < 8 → ∃ j : Nat, j < 8 ∧ T6p k = nI j) ∧ ((RDB dg np = true) → RDN dg np cn9 ∧ ∀ j, j < cn9 → T6p j = nI (DN dg j)) ∧ r = bz (RDB dg np = true) ∧ u = [(oX1 x3 t0 t1 t2 t3 ti4 (nI pm) t6 (nI cn9) t8), (aIc cI t6 8 T6p)]) (va_A [(oX1 x3 t0 t1 t2 t3 ti4 (nI pm) t6 ti7 t8), (aIc cI t6 8 T6)] sz)) 0 0 (va_A [(oX1 x3 t0 t1 t2 t3 ti4 (nI pm) t6 ti7 t8), (aIc cI t6 8 T6)] sz) := by
  refine k_ofW (Qc := cQi D (fun r u => ∃ (T6p : Nat → Int32) (cn9 : Nat), (∀ k, k < 8 → ∃ j : Nat, j < 8 ∧ T6p k = nI j) ∧ ((RDB dg np = true) → RDN dg np cn9 ∧ ∀ j, j < cn9 → T6p j = nI (DN dg j)) ∧ r = bz (RDB dg np = true) ∧ u = [(oX1 x3 t0 t1 t2 t3 ti4 (nI pm) t6 (nI cn9) t8), (aIc cI t6 8 T6p)])) (by decide) rfl (Nat.le_of_ble_eq_true rfl) ?_
  intro p e s m below meth c A ls hx hb hr hml hts hown hlk hnm hsz hE hP hD hS hA hl
  have hown : s.vm.findClass RX1 = some m.cls := hown
  have hiX1 : ∀ w ∈ u_ws RX1 TX1 9, w ∈ wtX1_read := fun w h => List.mem_cons_of_mem _ (iuX1 w h)
  have hl : lv_has ls 9 [(0, .ref x3), (1, .long dg), (3, .int (nI np))] := hl
  refine lv_aload_n hx hb dX1_read_0 rfl (lv_at hl 0 rfl) ?_
  refine lv_iconst (v := 0) hx hb dX1_read_1 (by decide) ?_
  refine va_put (D := D) (ci := 1) (v := .int 0) (ty := .int) (C := RX1) (T := TX1) (N := 9) hx hb hts hiX1 tyX1 tyX1_ok nmX1 hown hE.1 hP hD hS 0 rfl rfl 7 (by decide) (hts _ (List.mem_cons_of_mem _ wd_733)) (fun _ h9 => h9) rfl (by decide +kernel) rfl rfl (Nat.le_of_ble_eq_true rfl) dX1_read_2 (fun H locs hP hD hS => ?_)
  refine k_re (w := [(oX1 x3 t0 t1 t2 t3 ti4 (nI pm) t6 0 t8), (aIc cI t6 8 T6)]) hP hD (fun hP hD => ?_)
  refine lv_lload_n hx hb dX1_read_5 rfl (lv_at hl 1 rfl) ?_
  refine lv_lstore (lv' := [(4, .long dg), (0, .ref x3), (1, .long dg), (3, .int (nI np))]) hx hb dX1_read_6 hl (by decide) rfl (fun ls hl => ?_)
  refine lv_iconst (v := 0) hx hb dX1_read_8 (by decide) ?_
  refine lv_istore (lv' := [(6, .int 0), (4, .long dg), (0, .ref x3), (1, .long dg), (3, .int (nI np))]) hx hb dX1_read_9 hl (by decide) rfl (fun ls hl => ?_)
  refine lv_iconst (v := 0) hx hb dX1_read_11 (by decide) ?_
  refine lv_istore (lv' := [(7, .int 0), (6, .int 0), (4, .long dg), (0, .ref x3), (1, .long dg), (3, .int (nI np))]) hx hb dX1_read_12 hl (by decide) rfl (fun ls hl => ?_)
  have J14 : ∀ (zz : Nat) (i14 : Nat) (h4_14 : Int64) (h6_14 : Int32) (a_t6_14 : Nat → Int32) (f1_7_14 : Nat), (i14 ≤ 8) → (h4_14 = RSQ dg i14) → (h6_14 = MET dg i14) → (∀ j, j < i14 → 0 < RSQ dg j ∧ OKD np dg j) → (∀ j, j < i14 → a_t6_14 j = nI (DN dg j)) → (f1_7_14 = i14) → (∀ k, k < 8 → ∃ j : Nat, j < 8 ∧ a_t6_14 k = nI j) → (8 - i14) < zz → ∀ (H : Heap) (locs : List Loc) (ls : Array Slot), va_P D vwCl [(oX1 x3 t0 t1 t2 t3 ti4 (nI pm) t6 (nI f1_7_14) t8), (aIc cI t6 8 a_t6_14)] H → va_D A [(oX1 x3 t0 t1 t2 t3 ti4 (nI pm) t6 (nI f1_7_14) t8), (aIc cI t6 8 a_t6_14)] → va_S A s.heap H locs → lv_has ls 9 [(7, .int (nI i14)), (6, .int h6_14), (4, .long h4_14), (0, .ref x3), (1, .long dg), (3, .int (nI np))] → W p l e { frames := 1, cells := 0, slots := 0, locals := 22 } s m [.ref x3, .long dg, .int (nI np)].toArray below meth c H locs 0 0 (MQ below (cQi D (fun r u => ∃ (T6p : Nat → Int32) (cn9 : Nat), (∀ k, k < 8 → ∃ j : Nat, j < 8 ∧ T6p k = nI j) ∧ ((RDB dg np = true) → RDN dg np cn9 ∧ ∀ j, j < cn9 → T6p j = nI (DN dg j)) ∧ r = bz (RDB dg np = true) ∧ u = [(oX1 x3 t0 t1 t2 t3 ti4 (nI pm) t6 (nI cn9) t8), (aIc cI t6 8 T6p)]) A) [.ref x3, .long dg, .int (nI np)].toArray s 0 0 A) (F0 m 14 ls []) := by
    intro zz
    induction zz with
    | zero => intro i14 h4_14 h6_14 a_t6_14 f1_7_14 _ _ _ _ _ _ _; exact fun h => absurd h (Nat.not_lt_zero _)
    | succ zz ih14 =>
      intro i14 h4_14 h6_14 a_t6_14 f1_7_14 hc7_14 hr_14 hm_14 hok_14 hord_14 hcl_14 hor2_14 hmu14 H locs ls hP hD hS hl
      refine lv_iload hx hb dX1_read_14 (lv_at hl 0 rfl) ?_
      refine lv_bipush (v := 8) hx hb dX1_read_16 (by decide) ?_
      refine lv_icmp_ge (tgt := 105) hx hb dX1_read_18 (by decide) (fun c1 => ?_) (fun c1 => ?_)
      · skip
        have nc1 : 8 ≤ i14 := (nI_leI (a := 8) (b := i14) (by omega) (by omega)).mp c1
        refine lv_lload hx hb dX1_read_105 (lv_at hl 2 rfl) ?_
        refine lv_lconst (v := 0) hx hb dX1_read_107 (by decide) ?_
        refine k_lcmp_ne (tgt := 116) hx hb dX1_read_108 dX1_read_109 (by decide) (fun c2 => ?_) (fun c2 => ?_)
        · skip
          refine lv_iconst (v := 0) hx hb dX1_read_116 (by decide) ?_
          refine k_zret (u := [(oX1 x3 t0 t1 t2 t3 ti4 (nI pm) t6 (nI f1_7_14) t8), (aIc cI t6 8 a_t6_14)]) hx hb hr (by decide) hlk hP hD hS dX1_read_117 ?_
          exact ⟨a_t6_14, f1_7_14, hor2_14, (fun z9 => absurd (rdb_iff.mp z9) (rdn_e hok_14 (Or.inl (by omega)) (by rw [← hr_14]; exact c2))), (bz_f (fun z9 => (rdn_e hok_14 (Or.inl (by omega)) (by rw [← hr_14]; exact c2)) (rdb_iff.mp z9))), rfl⟩
        · skip
          refine lv_iconst (v := 1) hx hb dX1_read_112 (by decide) ?_
          refine lv_goto (tgt := 117) hx hb dX1_read_113 (by decide) ?_
          refine k_zret (u := [(oX1 x3 t0 t1 t2 t3 ti4 (nI pm) t6 (nI f1_7_14) t8), (aIc cI t6 8 a_t6_14)]) hx hb hr (by decide) hlk hP hD hS dX1_read_117 ?_
          exact ⟨a_t6_14, f1_7_14, hor2_14, (fun _ => ⟨by rw [hcl_14]; exact (show RDN dg np i14 from ⟨by omega, hok_14, by rw [← hr_14]; exact c2⟩), fun j hj => hord_14 j (by omega)⟩), (bz_t (rdb_iff.mpr ⟨_, (show RDN dg np i14 from ⟨by omega, hok_14, by rw [← hr_14]; exact c2⟩)⟩)), rfl⟩
      · skip
        have nc1 : ¬ 8 ≤ i14 := fun q9 => c1 ((nI_leI (a := 8) (b := i14) (by omega) (by omega)).mpr q9)
        refine lv_lload hx hb dX1_read_21 (lv_at hl 2 rfl) ?_
        refine lv_lconst (v := 0) hx hb dX1_read_23 (by decide) ?_
        refine k_lcmp_le (tgt := 105) hx hb dX1_read_24 dX1_read_25 (by decide) (fun c3 => ?_) (fun c3 => ?_)
        · skip
          refine lv_lload hx hb dX1_read_105 (lv_at hl 2 rfl) ?_
          refine lv_lconst (v := 0) hx hb dX1_read_107 (by decide) ?_
          refine k_lcmp_ne (tgt := 116) hx hb dX1_read_108 dX1_read_109 (by decide) (fun c4 => ?_) (fun c4 => ?_)
          · skip
            refine lv_iconst (v := 0) hx hb dX1_read_116 (by decide) ?_
            refine k_zret (u := [(oX1 x3 t0 t1 t2 t3 ti4 (nI pm) t6 (nI f1_7_14) t8), (aIc cI t6 8 a_t6_14)]) hx hb hr (by decide) hlk hP hD hS dX1_read_117 ?_
            exact ⟨a_t6_14, f1_7_14, hor2_14, (fun z9 => absurd (rdb_iff.mp z9) (rdn_e hok_14 (Or.inr (by rw [← hr_14]; exact Int64.not_lt.mpr c3)) (by rw [← hr_14]; exact c4))), (bz_f (fun z9 => (rdn_e hok_14 (Or.inr (by rw [← hr_14]; exact Int64.not_lt.mpr c3)) (by rw [← hr_14]; exact c4)) (rdb_iff.mp z9))), rfl⟩
          · skip
            refine lv_iconst (v := 1) hx hb dX1_read_112 (by decide) ?_
            refine lv_goto (tgt := 117) hx hb dX1_read_113 (by decide) ?_
            refine k_zret (u := [(oX1 x3 t0 t1 t2 t3 ti4 (nI pm) t6 (nI f1_7_14) t8), (aIc cI t6 8 a_t6_14)]) hx hb hr (by decide) hlk hP hD hS dX1_read_117 ?_
            exact ⟨a_t6_14, f1_7_14, hor2_14, (fun _ => ⟨by rw [hcl_14]; exact (show RDN dg np i14 from ⟨by omega, hok_14, by rw [← hr_14]; exact c4⟩), fun j hj => hord_14 j (by omega)⟩), (bz_t (rdb_iff.mpr ⟨_, (show RDN dg np i14 from ⟨by omega, hok_14, by rw [← hr_14]; exact c4⟩)⟩)), rfl⟩
        · skip
          refine lv_lload hx hb dX1_read_28 (lv_at hl 2 rfl) ?_
          refine lv_ldc2 (v := 9) hx hb hown (hts _ (List.mem_cons_of_mem _ wd_734)) dX1_read_30 ?_
          refine lv_lrem hx hb dX1_read_33 (by decide) ?_
          refine lv_topl (fun v5 ev5 => ?_)
          refine lv_l2i hx hb dX1_read_34 rfl ?_
          refine lv_topi (fun v6 ev6 => ?_)
          refine lv_iconst (v := 1) hx hb dX1_read_35 (by decide) ?_
          refine lv_isub hx hb dX1_read_36 ?_
          refine lv_topi (fun v7 ev7 => ?_)
          refine lv_istore (lv' := [(8, .int v7), (7, .int (nI i14)), (6, .int h6_14), (4, .long h4_14), (0, .ref x3), (1, .long dg), (3, .int (nI np))]) hx hb dX1_read_37 hl (by decide) rfl (fun ls hl => ?_)
          have hdg9 : v7 = DG (RSQ dg i14) := by rw [← hr_14]; exact (by rw [ev7, ev6, ev5]; rfl)
          refine lv_iload hx hb dX1_read_39 (lv_at hl 0 rfl) ?_
          refine lv_iconst (v := 0) hx hb dX1_read_41 (by decide) ?_
          refine lv_iload_n hx hb dX1_read_42 rfl (lv_at hl 6 rfl) ?_
          refine lv_iconst (v := 1) hx hb dX1_read_43 (by decide) ?_
          refine lv_isub hx hb dX1_read_44 ?_
          refine lv_topi (fun v8 ev8 => ?_)
          refine k_iS (va_runSN (As := [.int v7, .int 0, .int v8]) (rest := []) ⟨hx, hb, hml, hown, hts⟩ (m_X7_within l D cI cJ H.size v7 0 v8) ⟨va_cnB 3 hts gX1_read_X7_within_n36 rfl rfl rfl (nwk9 hE.2) (hts _ (List.mem_cons_of_mem _ wd_2)) (by decide +kernel) ⟨Nat.le_of_ble_eq_true rfl, Nat.le_of_ble_eq_true rfl⟩, (hts _ (List.mem_cons_of_mem _ wd_165)), trivial⟩ (k_pre hE hP hD [] (by decide +kernel) rfl) rfl rfl hl.1 rfl (lv_room (Nat.le_of_ble_eq_true rfl)) dX1_read_45 ⟨Nat.le_of_ble_eq_true rfl, Nat.le_of_ble_eq_true rfl⟩) hP hD hS hA [] rfl (fun _ _ h9 => h9.2) (fun r9 H locs hw10 hP hD hS => ?_)
          obtain ⟨hw10, -⟩ := hw10
          refine lv_if_eq (tgt := 61) hx hb dX1_read_48 (by decide) (fun c11 => ?_) (fun c11 => ?_)
          · skip
            have hc11 : ¬ (0 ≤ v7 ∧ v7 ≤ v8) := bz_0 hw10 c11
            refine lv_iconst (v := 0) hx hb dX1_read_61 (by decide) ?_
            refine k_zret (u := [(oX1 x3 t0 t1 t2 t3 ti4 (nI pm) t6 (nI f1_7_14) t8), (aIc cI t6 8 a_t6_14)]) hx hb hr (by decide) hlk hP hD hS dX1_read_62 ?_
            exact ⟨a_t6_14, f1_7_14, hor2_14, (fun z9 => absurd (rdb_iff.mp z9) (rdn_f hok_14 (by rw [← hr_14]; exact Int64.not_le.mp c3) (fun z9 => hc11 (by rw [hdg9, ev8]; exact z9.1)))), (bz_f (fun z9 => (rdn_f hok_14 (by rw [← hr_14]; exact Int64.not_le.mp c3) (fun z9 => hc11 (by rw [hdg9, ev8]; exact z9.1))) (rdb_iff.mp z9))), rfl⟩
          · skip
            have hc11 : 0 ≤ v7 ∧ v7 ≤ v8 := bz_1 hw10 c11
            have hin9 : 0 ≤ DG (RSQ dg i14) ∧ DG (RSQ dg i14) ≤ nI np - 1 := by rw [← hdg9, ← ev8]; exact hc11
            obtain ⟨edn9, hdn9⟩ := dn_of hnp hin9
            rw [hdg9, edn9] at hl
            refine lv_iload hx hb dX1_read_51 (lv_at hl 2 rfl) ?_
            refine lv_iload hx hb dX1_read_53 (lv_at hl 0 rfl) ?_
            refine k_iS (va_runSN (As := [.int h6_14, .int (nI (DN dg i14))]) (rest := []) ⟨hx, hb, hml, hown, hts⟩ (m_X7_has l D cI cJ H.size h6_14 (nI (DN dg i14))) ⟨va_cnB 2 hts gX1_read_X7_has_n40 rfl rfl rfl (nwk10 hE.2) (hts _ (List.mem_cons_of_mem _ wd_2)) (by decide +kernel) ⟨Nat.le_of_ble_eq_true rfl, Nat.le_of_ble_eq_true rfl⟩, (hts _ (List.mem_cons_of_mem _ wd_311)), trivial⟩ (k_pre hE hP hD [] (by decide +kernel) rfl) rfl rfl hl.1 rfl (lv_room (Nat.le_of_ble_eq_true rfl)) dX1_read_55 ⟨Nat.le_of_ble_eq_true rfl, Nat.le_of_ble_eq_true rfl⟩) hP hD hS hA [] rfl (fun _ _ h9 => h9.2) (fun r12 H locs hw13 hP hD hS => ?_)
            obtain ⟨hw13, -⟩ := hw13
            refine lv_if_eq (tgt := 63) hx hb dX1_read_58 (by decide) (fun c14 => ?_) (fun c14 => ?_)
            · skip
              have hc14 : ¬ (¬ (h6_14 >>> ((nI (DN dg i14)) &&& 31)) &&& 1 = 0) := bz_0 hw13 c14
              have hok9 : OKD np dg i14 := ⟨hin9, fun z9 => hc14 ((bt_nz (by omega)).mpr (by rw [hm_14]; exact z9))⟩
              refine lv_iload hx hb dX1_read_63 (lv_at hl 2 rfl) ?_
              refine lv_iconst (v := 1) hx hb dX1_read_65 (by decide) ?_
              refine lv_iload hx hb dX1_read_66 (lv_at hl 0 rfl) ?_
              refine lv_ishl hx hb dX1_read_68 ?_
              refine lv_topi (fun v15 ev15 => ?_)
              refine lv_ior hx hb dX1_read_69 ?_
              refine lv_topi (fun v16 ev16 => ?_)
              refine lv_istore (lv' := [(6, .int v16), (8, .int (nI (DN dg i14))), (7, .int (nI i14)), (4, .long h4_14), (0, .ref x3), (1, .long dg), (3, .int (nI np))]) hx hb dX1_read_70 hl (by decide) rfl (fun ls hl => ?_)
              refine lv_aload_n hx hb dX1_read_72 rfl (lv_at hl 4 rfl) ?_
              refine va_get (D := D) (ci := 1) (v := .ref t6) (C := RX1) (T := TX1) (N := 9) hx hb hts hiX1 hown hE.1 hP 0 rfl rfl 6 (by decide) (hts _ (List.mem_cons_of_mem _ wd_103)) (fun _ h9 => h9) rfl dX1_read_73 ?_
              refine lv_iload hx hb dX1_read_76 (lv_at hl 2 rfl) ?_
              refine lv_iload hx hb dX1_read_78 (lv_at hl 1 rfl) ?_
              refine va_iast hx hb hE.1 hP hD hS 1 0 rfl rfl (vp_in_nI (n := i14) (by omega) (by decide)) dX1_read_80 (fun H locs hP hD hS => ?_)
              refine k_re (w := [(oX1 x3 t0 t1 t2 t3 ti4 (nI pm) t6 (nI f1_7_14) t8), (aIc cI t6 8 (upd a_t6_14 (Int32.toNatClampNeg (nI i14)) (nI (DN dg i14))))]) hP hD (fun hP hD => ?_)
              refine lv_aload_n hx hb dX1_read_81 rfl (lv_at hl 4 rfl) ?_
              refine lv_dup hx hb dX1_read_82 rfl ?_
              refine va_get (D := D) (ci := 1) (v := .int (nI f1_7_14)) (C := RX1) (T := TX1) (N := 9) hx hb hts hiX1 hown hE.1 hP 0 rfl rfl 7 (by decide) (hts _ (List.mem_cons_of_mem _ wd_733)) (fun _ h9 => h9) rfl dX1_read_83 ?_
              refine lv_iconst (v := 1) hx hb dX1_read_86 (by decide) ?_
              refine lv_iadd hx hb dX1_read_87 ?_
              refine lv_topi (fun v17 ev17 => ?_)
              obtain rfl : v17 = (nI (f1_7_14 + 1)) := by rw [ev17]; exact nI_add f1_7_14 1
              refine va_put (D := D) (ci := 1) (v := .int (nI (f1_7_14 + 1))) (ty := .int) (C := RX1) (T := TX1) (N := 9) hx hb hts hiX1 tyX1 tyX1_ok nmX1 hown hE.1 hP hD hS 0 rfl rfl 7 (by decide) (hts _ (List.mem_cons_of_mem _ wd_733)) (fun _ h9 => h9) rfl (by decide +kernel) rfl rfl (Nat.le_of_ble_eq_true rfl) dX1_read_88 (fun H locs hP hD hS => ?_)
              refine k_re (w := [(oX1 x3 t0 t1 t2 t3 ti4 (nI pm) t6 (nI (f1_7_14 + 1)) t8), (aIc cI t6 8 (upd a_t6_14 (Int32.toNatClampNeg (nI i14)) (nI (DN dg i14))))]) hP hD (fun hP hD => ?_)
              refine lv_lload hx hb dX1_read_91 (lv_at hl 3 rfl) ?_
              refine lv_ldc2 (v := 9) hx hb hown (hts _ (List.mem_cons_of_mem _ wd_734)) dX1_read_93 ?_
              refine lv_ldiv hx hb dX1_read_96 (by decide) ?_
              refine lv_topl (fun v18 ev18 => ?_)
              refine lv_lstore (lv' := [(4, .long v18), (6, .int v16), (8, .int (nI (DN dg i14))), (7, .int (nI i14)), (0, .ref x3), (1, .long dg), (3, .int (nI np))]) hx hb dX1_read_97 hl (by decide) rfl (fun ls hl => ?_)
              refine lv_iinc (v := (nI (i14 + 1))) (lv' := [(7, .int (nI (i14 + 1))), (4, .long v18), (6, .int v16), (8, .int (nI (DN dg i14))), (0, .ref x3), (1, .long dg), (3, .int (nI np))]) hx hb dX1_read_99 hl (k := 3) rfl (nI_1 _) (by decide) rfl (fun ls hl => ?_)
              refine lv_goto (tgt := 14) hx hb dX1_read_102 (by decide) ?_
              exact ih14 (i14 + 1) v18 v16 (upd a_t6_14 (Int32.toNatClampNeg (nI i14)) (nI (DN dg i14))) (f1_7_14 + 1) (by omega) (by rw [ev18, hr_14]; rfl) (by rw [ev16, ev15, hm_14]; show _ = MET dg i14 ||| ((1 : Int32) <<< (DG (RSQ dg i14) &&& 31)); rw [edn9]) (fall_s (P := fun j => 0 < RSQ dg j ∧ OKD np dg j) hok_14 ⟨(by rw [← hr_14]; exact Int64.not_le.mp c3), hok9⟩) (row_up (F := DN dg) (by omega) hord_14 rfl) (by omega) (li_up hor2_14 rfl (by omega)) (by omega) _ _ _ hP hD hS (lv_sub hl [0, 2, 1, 4, 5, 6] rfl)
            · skip
              have hc14 : ¬ (h6_14 >>> ((nI (DN dg i14)) &&& 31)) &&& 1 = 0 := bz_1 hw13 c14
              refine lv_iconst (v := 0) hx hb dX1_read_61 (by decide) ?_
              refine k_zret (u := [(oX1 x3 t0 t1 t2 t3 ti4 (nI pm) t6 (nI f1_7_14) t8), (aIc cI t6 8 a_t6_14)]) hx hb hr (by decide) hlk hP hD hS dX1_read_62 ?_
              exact ⟨a_t6_14, f1_7_14, hor2_14, (fun z9 => absurd (rdb_iff.mp z9) (rdn_f hok_14 (by rw [← hr_14]; exact Int64.not_le.mp c3) (fun z9 => z9.2 (by rw [← hm_14]; exact (bt_nz (by omega)).mp hc14)))), (bz_f (fun z9 => (rdn_f hok_14 (by rw [← hr_14]; exact Int64.not_le.mp c3) (fun z9 => z9.2 (by rw [← hm_14]; exact (bt_nz (by omega)).mp hc14))) (rdb_iff.mp z9))), rfl⟩
  exact J14 _ 0 dg 0 T6 0 (by omega) rfl rfl (fun j hj => absurd hj (Nat.not_lt_zero j)) (fun j hj => absurd hj (Nat.not_lt_zero j)) (by omega) hor (Nat.lt_succ_self _) _ _ _ hP hD hS (lv_sub hl [0, 1, 2, 3, 4, 5] rfl)
set_option maxHeartbeats 4000000 in
set_option maxRecDepth 100000 in
theorem e_X4_paidFirst (l : Launch) (D : va_G) (cI cJ : ClassId) (sz : Nat) (x1 x0 s1 s2 s5 s6 s7 s8 s9 s10 s11 b0 b1 b2 b3 b4 b5 b6 b7 b8 b9 b10 b11 p0 np nl pn tt0 at0 : Nat) (si4 bi14 : Int32) (B5 S8 S10 : Nat → Int32) (lo0 sh0 : Nat → Nat) (hp : p0 < 8) (hlov : nv S8 lo0) (hshv : nv S10 sh0) : Met l yX4_paidFirst wtX4_paidFirst { frames := 0, cells := 0, slots := 0, locals := 0 } (cPc D cI cJ [.ref x1, .int (nI p0)] sz [(oX4 x1 x0 s1 s2 (nI pn) si4 s5 s6 s7 s8 s9 s10 s11 (nI tt0) (nI at0)), (oX0 x0 b0 b1 b2 b3 b4 b5 b6 b7 b8 b9 b10 b11 (nI np) (nI nl) bi14), (aIc cI b5 8 B5), (aIc cI s8 8 S8), (aIc cI s10 8 S10)]) (cQi D (fun r u => r = (nI (PFT B5 lo0 sh0 p0)) ∧ u = [(oX4 x1 x0 s1 s2 (nI pn) si4 s5 s6 s7 s8 s9 s10 s11 (nI tt0) (nI at0)), (oX0 x0 b0 b1 b2 b3 b4 b5 b6 b7 b8 b9 b10 b11 (nI np) (nI nl) bi14), (aIc cI b5 8 B5), (aIc cI s8 8 S8), (aIc cI s10 8 S10)]) (va_A [(oX4 x1 x0 s1 s2 (nI pn) si4 s5 s6 s7 s8 s9 s10 s11 (nI tt0) (nI at0)), (oX0 x0 b0 b1 b2 b3 b4 b5 b6 b7 b8 b9 b10 b11 (nI np) (nI nl) bi14), (aIc cI b5 8 B5), (aIc cI s8 8 S8), (aIc cI s10 8 S10)] sz)) 0 0 (va_A [(oX4 x1 x0 s1 s2 (nI pn) si4 s5 s6 s7 s8 s9 s10 s11 (nI tt0) (nI at0)), (oX0 x0 b0 b1 b2 b3 b4 b5 b6 b7 b8 b9 b10 b11 (nI np) (nI nl) bi14), (aIc cI b5 8 B5), (aIc cI s8 8 S8), (aIc cI s10 8 S10)] sz) := by
  refine k_ofW (Qc := cQi D (fun r u => r = (nI (PFT B5 lo0 sh0 p0)) ∧ u = [(oX4 x1 x0 s1 s2 (nI pn) si4 s5 s6 s7 s8 s9 s10 s11 (nI tt0) (nI at0)), (oX0 x0 b0 b1 b2 b3 b4 b5 b6 b7 b8 b9 b10 b11 (nI np) (nI nl) bi14), (aIc cI b5 8 B5), (aIc cI s8 8 S8), (aIc cI s10 8 S10)])) (by decide) rfl (Nat.le_of_ble_eq_true rfl) ?_
  intro p e s m below meth c A ls hx hb hr hml hts hown hlk hnm hsz hE hP hD hS hA hl
  have hown : s.vm.findClass RX4 = some m.cls := hown
  have hiX4 : ∀ w ∈ u_ws RX4 TX4 14, w ∈ wtX4_paidFirst := fun w h => List.mem_cons_of_mem _ (iuX4 w h)
  have hiX0 : ∀ w ∈ u_ws RX0 TX0 15, w ∈ wtX4_paidFirst := fun w h => List.mem_cons_of_mem _ (iuX0 w h)
  have hl : lv_has ls 2 [(0, .ref x1), (1, .int (nI p0))] := hl
  refine lv_aload_n hx hb dX4_paidFirst_0 rfl (lv_at hl 0 rfl) ?_
  refine va_get (D := D) (ci := 4) (v := .ref x0) (C := RX4) (T := TX4) (N := 14) hx hb hts hiX4 hown hE.1 hP 0 rfl rfl 0 (by decide) (hts _ (List.mem_cons_of_mem _ wd_40)) (fun _ h9 => h9) rfl dX4_paidFirst_1 ?_
  refine va_get (D := D) (ci := 0) (v := .ref b5) (C := RX0) (T := TX0) (N := 15) hx hb hts hiX0 hown hE.1 hP 1 rfl rfl 5 (by decide) (hts _ (List.mem_cons_of_mem _ wd_286)) (fun _ h9 => h9) rfl dX4_paidFirst_4 ?_
  refine lv_iload_n hx hb dX4_paidFirst_7 rfl (lv_at hl 1 rfl) ?_
  refine va_iald hx hb hE.1 hP 2 0 rfl rfl (vp_in_nI (n := p0) (by omega) (by decide)) dX4_paidFirst_8 ?_
  refine lv_topi (fun v1 ev1 => ?_)
  refine lv_if_ne (tgt := 21) hx hb dX4_paidFirst_9 (by decide) (fun c2 => ?_) (fun c2 => ?_)
  · skip
    refine lv_aload_n hx hb dX4_paidFirst_21 rfl (lv_at hl 0 rfl) ?_
    refine va_get (D := D) (ci := 4) (v := .ref s10) (C := RX4) (T := TX4) (N := 14) hx hb hts hiX4 hown hE.1 hP 0 rfl rfl 10 (by decide) (hts _ (List.mem_cons_of_mem _ wd_54)) (fun _ h9 => h9) rfl dX4_paidFirst_22 ?_
    refine lv_iload_n hx hb dX4_paidFirst_25 rfl (lv_at hl 1 rfl) ?_
    refine va_iald hx hb hE.1 hP 4 0 rfl rfl (vp_in_nI (n := p0) (by omega) (by decide)) dX4_paidFirst_26 ?_
    refine lv_topi (fun v3 ev3 => ?_)
    obtain rfl : v3 = nI (sh0 p0) := ev3.trans (nv_at hshv hp)
    refine k_iret (u := [(oX4 x1 x0 s1 s2 (nI pn) si4 s5 s6 s7 s8 s9 s10 s11 (nI tt0) (nI at0)), (oX0 x0 b0 b1 b2 b3 b4 b5 b6 b7 b8 b9 b10 b11 (nI np) (nI nl) bi14), (aIc cI b5 8 B5), (aIc cI s8 8 S8), (aIc cI s10 8 S10)]) hx hb hr hlk hP hD hS dX4_paidFirst_27 ?_
    exact ⟨(congrArg nI (if_neg (fun z9 => c2 ((cl_at (A := B5) hp ev1).trans z9))).symm), rfl⟩
  · skip
    refine lv_aload_n hx hb dX4_paidFirst_12 rfl (lv_at hl 0 rfl) ?_
    refine va_get (D := D) (ci := 4) (v := .ref s8) (C := RX4) (T := TX4) (N := 14) hx hb hts hiX4 hown hE.1 hP 0 rfl rfl 8 (by decide) (hts _ (List.mem_cons_of_mem _ wd_52)) (fun _ h9 => h9) rfl dX4_paidFirst_13 ?_
    refine lv_iload_n hx hb dX4_paidFirst_16 rfl (lv_at hl 1 rfl) ?_
    refine va_iald hx hb hE.1 hP 3 0 rfl rfl (vp_in_nI (n := p0) (by omega) (by decide)) dX4_paidFirst_17 ?_
    refine lv_topi (fun v4 ev4 => ?_)
    obtain rfl : v4 = nI (lo0 p0) := ev4.trans (nv_at hlov hp)
    refine lv_goto (tgt := 27) hx hb dX4_paidFirst_18 (by decide) ?_
    refine k_iret (u := [(oX4 x1 x0 s1 s2 (nI pn) si4 s5 s6 s7 s8 s9 s10 s11 (nI tt0) (nI at0)), (oX0 x0 b0 b1 b2 b3 b4 b5 b6 b7 b8 b9 b10 b11 (nI np) (nI nl) bi14), (aIc cI b5 8 B5), (aIc cI s8 8 S8), (aIc cI s10 8 S10)]) hx hb hr hlk hP hD hS dX4_paidFirst_27 ?_
    exact ⟨(congrArg nI (if_pos ((cl_at (A := B5) hp ev1).symm.trans c2)).symm), rfl⟩
set_option maxHeartbeats 4000000 in
set_option maxRecDepth 100000 in
theorem e_X1_pay (l : Launch) (D : va_G) (cI cJ : ClassId) (sz : Nat) (x3 t0 t1 t2 t3 t6 t8 x1 x0 s1 s2 s5 s6 s7 s8 s9 s10 s11 b0 b1 b2 b3 b4 b5 b6 b7 b8 b9 b10 b11 pm np nl pn tt0 at0 cn0 : Nat) (ti4 si4 bi14 : Int32) (T0 T6 B5 S8 S10 : Nat → Int32) (dn0 lo0 sh0 : Nat → Nat) (hcn : cn0 ≤ 8) (hdnv : ∀ j, j < cn0 → T6 j = nI (dn0 j) ∧ dn0 j < 8) (htt9 : tt0 ≤ 1000000) (hlob : ∀ k, k < 8 → lo0 k ≤ 1000000) (hsl : ∀ k, k < 8 → sh0 k ≤ lo0 k) (hlov : nv S8 lo0) (hshv : nv S10 sh0) : Met l yX1_pay wtX1_pay { frames := 1, cells := 0, slots := 0, locals := 23 } (cPc D cI cJ [.ref x3, .ref x1] sz [(oX1 x3 t0 t1 t2 t3 ti4 (nI pm) t6 (nI cn0) t8), (aIc cI t0 8 T0), (aIc cI t6 8 T6), (oX4 x1 x0 s1 s2 (nI pn) si4 s5 s6 s7 s8 s9 s10 s11 (nI tt0) (nI at0)), (oX0 x0 b0 b1 b2 b3 b4 b5 b6 b7 b8 b9 b10 b11 (nI np) (nI nl) bi14), (aIc cI b5 8 B5), (aIc cI s8 8 S8), (aIc cI s10 8 S10)]) (cQv D (fun u => ∃ (T0p : Nat → Int32) (pap : Nat), (pap = PTT (PFT B5 lo0 sh0) tt0 dn0 cn0) ∧ (∀ k, k < 8 → T0p k = nI (PFF (PFT B5 lo0 sh0) tt0 dn0 cn0 k)) ∧ u = [(oX1 x3 t0 t1 t2 t3 (nI pap) (nI pm) t6 (nI cn0) t8), (aIc cI t0 8 T0p), (aIc cI t6 8 T6), (oX4 x1 x0 s1 s2 (nI pn) si4 s5 s6 s7 s8 s9 s10 s11 (nI tt0) (nI at0)), (oX0 x0 b0 b1 b2 b3 b4 b5 b6 b7 b8 b9 b10 b11 (nI np) (nI nl) bi14), (aIc cI b5 8 B5), (aIc cI s8 8 S8), (aIc cI s10 8 S10)]) (va_A [(oX1 x3 t0 t1 t2 t3 ti4 (nI pm) t6 (nI cn0) t8), (aIc cI t0 8 T0), (aIc cI t6 8 T6), (oX4 x1 x0 s1 s2 (nI pn) si4 s5 s6 s7 s8 s9 s10 s11 (nI tt0) (nI at0)), (oX0 x0 b0 b1 b2 b3 b4 b5 b6 b7 b8 b9 b10 b11 (nI np) (nI nl) bi14), (aIc cI b5 8 B5), (aIc cI s8 8 S8), (aIc cI s10 8 S10)] sz)) 0 0 (va_A [(oX1 x3 t0 t1 t2 t3 ti4 (nI pm) t6 (nI cn0) t8), (aIc cI t0 8 T0), (aIc cI t6 8 T6), (oX4 x1 x0 s1 s2 (nI pn) si4 s5 s6 s7 s8 s9 s10 s11 (nI tt0) (nI at0)), (oX0 x0 b0 b1 b2 b3 b4 b5 b6 b7 b8 b9 b10 b11 (nI np) (nI nl) bi14), (aIc cI b5 8 B5), (aIc cI s8 8 S8), (aIc cI s10 8 S10)] sz) := by
  refine k_ofW (Qc := cQv D (fun u => ∃ (T0p : Nat → Int32) (pap : Nat), (pap = PTT (PFT B5 lo0 sh0) tt0 dn0 cn0) ∧ (∀ k, k < 8 → T0p k = nI (PFF (PFT B5 lo0 sh0) tt0 dn0 cn0 k)) ∧ u = [(oX1 x3 t0 t1 t2 t3 (nI pap) (nI pm) t6 (nI cn0) t8), (aIc cI t0 8 T0p), (aIc cI t6 8 T6), (oX4 x1 x0 s1 s2 (nI pn) si4 s5 s6 s7 s8 s9 s10 s11 (nI tt0) (nI at0)), (oX0 x0 b0 b1 b2 b3 b4 b5 b6 b7 b8 b9 b10 b11 (nI np) (nI nl) bi14), (aIc cI b5 8 B5), (aIc cI s8 8 S8), (aIc cI s10 8 S10)])) (by decide) rfl (Nat.le_of_ble_eq_true rfl) ?_
  intro p e s m below meth c A ls hx hb hr hml hts hown hlk hnm hsz hE hP hD hS hA hl
  have hown : s.vm.findClass RX1 = some m.cls := hown
  have hiX1 : ∀ w ∈ u_ws RX1 TX1 9, w ∈ wtX1_pay := fun w h => List.mem_cons_of_mem _ (iuX1 w h)
  have hiX4 : ∀ w ∈ u_ws RX4 TX4 14, w ∈ wtX1_pay := fun w h => List.mem_cons_of_mem _ (iuX4 w h)
  have hl : lv_has ls 4 [(0, .ref x3), (1, .ref x1)] := hl
  refine lv_aload_n hx hb dX1_pay_0 rfl (lv_at hl 0 rfl) ?_
  refine va_get (D := D) (ci := 1) (v := .ref t0) (C := RX1) (T := TX1) (N := 9) hx hb hts hiX1 hown hE.1 hP 0 rfl rfl 0 (by decide) (hts _ (List.mem_cons_of_mem _ wd_99)) (fun _ h9 => h9) rfl dX1_pay_1 ?_
  refine lv_iconst (v := 0) hx hb dX1_pay_4 (by decide) ?_
  refine k_v (va_runS (As := [.ref t0, .int 0]) (rest := []) ⟨hx, hb, hml, hown, hts⟩ (m_J7_fill l D cI cJ (s.heap).size t0 0 8 T0 (by decide)) (va_cwS 2 hts gX1_pay_J7_fill_53178 rfl rfl rfl (by decide +kernel) ⟨Nat.le_of_ble_eq_true rfl, Nat.le_of_ble_eq_true rfl⟩) (k_pre hE hP hD [1] (by decide +kernel) rfl) rfl rfl hl.1 rfl (lv_room (Nat.le_of_ble_eq_true rfl)) dX1_pay_5 ⟨Nat.le_of_ble_eq_true rfl, Nat.le_of_ble_eq_true rfl⟩) hP hD hS hA [1] [0, 2, 3, 4, 5, 6, 7] rfl (wr := [(oX1 x3 t0 t1 t2 t3 ti4 (nI pm) t6 (nI cn0) t8), (aIc cI t6 8 T6), (oX4 x1 x0 s1 s2 (nI pn) si4 s5 s6 s7 s8 s9 s10 s11 (nI tt0) (nI at0)), (oX0 x0 b0 b1 b2 b3 b4 b5 b6 b7 b8 b9 b10 b11 (nI np) (nI nl) bi14), (aIc cI b5 8 B5), (aIc cI s8 8 S8), (aIc cI s10 8 S10)]) rfl (by decide +kernel) (by decide +kernel) (fun u H locs hw1 hP hD hS => ?_)
  subst hw1
  refine k_re (w := [(oX1 x3 t0 t1 t2 t3 ti4 (nI pm) t6 (nI cn0) t8), (aIc cI t6 8 T6), (oX4 x1 x0 s1 s2 (nI pn) si4 s5 s6 s7 s8 s9 s10 s11 (nI tt0) (nI at0)), (oX0 x0 b0 b1 b2 b3 b4 b5 b6 b7 b8 b9 b10 b11 (nI np) (nI nl) bi14), (aIc cI b5 8 B5), (aIc cI s8 8 S8), (aIc cI s10 8 S10), (aIc cI t0 8 (fl 8 0 T0))]) hP hD (fun hP hD => ?_)
  refine lv_aload_n hx hb dX1_pay_8 rfl (lv_at hl 0 rfl) ?_
  refine lv_iconst (v := 0) hx hb dX1_pay_9 (by decide) ?_
  refine va_put (D := D) (ci := 1) (v := .int 0) (ty := .int) (C := RX1) (T := TX1) (N := 9) hx hb hts hiX1 tyX1 tyX1_ok nmX1 hown hE.1 hP hD hS 0 rfl rfl 4 (by decide) (hts _ (List.mem_cons_of_mem _ wd_739)) (fun _ h9 => h9) rfl (by decide +kernel) rfl rfl (Nat.le_of_ble_eq_true rfl) dX1_pay_10 (fun H locs hP hD hS => ?_)
  refine k_re (w := [(oX1 x3 t0 t1 t2 t3 0 (nI pm) t6 (nI cn0) t8), (aIc cI t6 8 T6), (oX4 x1 x0 s1 s2 (nI pn) si4 s5 s6 s7 s8 s9 s10 s11 (nI tt0) (nI at0)), (oX0 x0 b0 b1 b2 b3 b4 b5 b6 b7 b8 b9 b10 b11 (nI np) (nI nl) bi14), (aIc cI b5 8 B5), (aIc cI s8 8 S8), (aIc cI s10 8 S10), (aIc cI t0 8 (fl 8 0 T0))]) hP hD (fun hP hD => ?_)
  refine lv_iconst (v := 0) hx hb dX1_pay_13 (by decide) ?_
  refine lv_istore_n (lv' := [(2, .int 0), (0, .ref x3), (1, .ref x1)]) hx hb dX1_pay_14 rfl hl (by decide) rfl (fun ls hl => ?_)
  have J15 : ∀ (zz : Nat) (i15 : Nat) (a_t0_15 : Nat → Int32) (f1_4_15 : Nat), (i15 ≤ 8) → (f1_4_15 = PTT (PFT B5 lo0 sh0) tt0 dn0 i15) → (∀ k, k < 8 → a_t0_15 k = nI (PFF (PFT B5 lo0 sh0) tt0 dn0 i15 k)) → (i15 ≤ cn0) → (8 - i15) < zz → ∀ (H : Heap) (locs : List Loc) (ls : Array Slot), va_P D vwCl [(oX1 x3 t0 t1 t2 t3 (nI f1_4_15) (nI pm) t6 (nI cn0) t8), (aIc cI t6 8 T6), (oX4 x1 x0 s1 s2 (nI pn) si4 s5 s6 s7 s8 s9 s10 s11 (nI tt0) (nI at0)), (oX0 x0 b0 b1 b2 b3 b4 b5 b6 b7 b8 b9 b10 b11 (nI np) (nI nl) bi14), (aIc cI b5 8 B5), (aIc cI s8 8 S8), (aIc cI s10 8 S10), (aIc cI t0 8 a_t0_15)] H → va_D A [(oX1 x3 t0 t1 t2 t3 (nI f1_4_15) (nI pm) t6 (nI cn0) t8), (aIc cI t6 8 T6), (oX4 x1 x0 s1 s2 (nI pn) si4 s5 s6 s7 s8 s9 s10 s11 (nI tt0) (nI at0)), (oX0 x0 b0 b1 b2 b3 b4 b5 b6 b7 b8 b9 b10 b11 (nI np) (nI nl) bi14), (aIc cI b5 8 B5), (aIc cI s8 8 S8), (aIc cI s10 8 S10), (aIc cI t0 8 a_t0_15)] → va_S A s.heap H locs → lv_has ls 4 [(2, .int (nI i15)), (0, .ref x3), (1, .ref x1)] → W p l e { frames := 1, cells := 0, slots := 0, locals := 23 } s m [.ref x3, .ref x1].toArray below meth c H locs 0 0 (MQ below (cQv D (fun u => ∃ (T0p : Nat → Int32) (pap : Nat), (pap = PTT (PFT B5 lo0 sh0) tt0 dn0 cn0) ∧ (∀ k, k < 8 → T0p k = nI (PFF (PFT B5 lo0 sh0) tt0 dn0 cn0 k)) ∧ u = [(oX1 x3 t0 t1 t2 t3 (nI pap) (nI pm) t6 (nI cn0) t8), (aIc cI t0 8 T0p), (aIc cI t6 8 T6), (oX4 x1 x0 s1 s2 (nI pn) si4 s5 s6 s7 s8 s9 s10 s11 (nI tt0) (nI at0)), (oX0 x0 b0 b1 b2 b3 b4 b5 b6 b7 b8 b9 b10 b11 (nI np) (nI nl) bi14), (aIc cI b5 8 B5), (aIc cI s8 8 S8), (aIc cI s10 8 S10)]) A) [.ref x3, .ref x1].toArray s 0 0 A) (F0 m 15 ls []) := by
    intro zz
    induction zz with
    | zero => intro i15 a_t0_15 f1_4_15 _ _ _ _; exact fun h => absurd h (Nat.not_lt_zero _)
    | succ zz ih15 =>
      intro i15 a_t0_15 f1_4_15 hc2_15 hpt_15 hpf_15 hil_15 hmu15 H locs ls hP hD hS hl
      refine lv_iload_n hx hb dX1_pay_15 rfl (lv_at hl 0 rfl) ?_
      refine lv_aload_n hx hb dX1_pay_16 rfl (lv_at hl 1 rfl) ?_
      refine va_get (D := D) (ci := 1) (v := .int (nI cn0)) (C := RX1) (T := TX1) (N := 9) hx hb hts hiX1 hown hE.1 hP 0 rfl rfl 7 (by decide) (hts _ (List.mem_cons_of_mem _ wd_733)) (fun _ h9 => h9) rfl dX1_pay_17 ?_
      refine lv_icmp_ge (tgt := 80) hx hb dX1_pay_20 (by decide) (fun c2 => ?_) (fun c2 => ?_)
      · skip
        have nc2 : cn0 ≤ i15 := (nI_leI (a := cn0) (b := i15) (by omega) (by omega)).mp c2
        refine k_vret (u := [(oX1 x3 t0 t1 t2 t3 (nI f1_4_15) (nI pm) t6 (nI cn0) t8), (aIc cI t0 8 a_t0_15), (aIc cI t6 8 T6), (oX4 x1 x0 s1 s2 (nI pn) si4 s5 s6 s7 s8 s9 s10 s11 (nI tt0) (nI at0)), (oX0 x0 b0 b1 b2 b3 b4 b5 b6 b7 b8 b9 b10 b11 (nI np) (nI nl) bi14), (aIc cI b5 8 B5), (aIc cI s8 8 S8), (aIc cI s10 8 S10)]) hx hb hr hlk (k_sub hP [0, 7, 1, 2, 3, 4, 5, 6] rfl) (hD.sub [0, 7, 1, 2, 3, 4, 5, 6] (by decide +kernel) rfl) hS dX1_pay_80 ?_
        exact ⟨a_t0_15, f1_4_15, (by rw [← (show i15 = cn0 from by omega)]; exact hpt_15), (by rw [← (show i15 = cn0 from by omega)]; exact hpf_15), rfl⟩
      · skip
        have nc2 : ¬ cn0 ≤ i15 := fun q9 => c2 ((nI_leI (a := cn0) (b := i15) (by omega) (by omega)).mpr q9)
        refine lv_iload_n hx hb dX1_pay_23 rfl (lv_at hl 0 rfl) ?_
        refine lv_bipush (v := 8) hx hb dX1_pay_24 (by decide) ?_
        refine lv_icmp_ge (tgt := 80) hx hb dX1_pay_26 (by decide) (fun c3 => ?_) (fun c3 => ?_)
        · skip
          have nc3 : 8 ≤ i15 := (nI_leI (a := 8) (b := i15) (by omega) (by omega)).mp c3
          refine k_vret (u := [(oX1 x3 t0 t1 t2 t3 (nI f1_4_15) (nI pm) t6 (nI cn0) t8), (aIc cI t0 8 a_t0_15), (aIc cI t6 8 T6), (oX4 x1 x0 s1 s2 (nI pn) si4 s5 s6 s7 s8 s9 s10 s11 (nI tt0) (nI at0)), (oX0 x0 b0 b1 b2 b3 b4 b5 b6 b7 b8 b9 b10 b11 (nI np) (nI nl) bi14), (aIc cI b5 8 B5), (aIc cI s8 8 S8), (aIc cI s10 8 S10)]) hx hb hr hlk (k_sub hP [0, 7, 1, 2, 3, 4, 5, 6] rfl) (hD.sub [0, 7, 1, 2, 3, 4, 5, 6] (by decide +kernel) rfl) hS dX1_pay_80 ?_
          exact ⟨a_t0_15, f1_4_15, (by rw [← (show i15 = cn0 from by omega)]; exact hpt_15), (by rw [← (show i15 = cn0 from by omega)]; exact hpf_15), rfl⟩
        · skip
          have nc3 : ¬ 8 ≤ i15 := fun q9 => c3 ((nI_leI (a := 8) (b := i15) (by omega) (by omega)).mpr q9)
          refine lv_aload_n hx hb dX1_pay_29 rfl (lv_at hl 1 rfl) ?_
          refine va_get (D := D) (ci := 1) (v := .ref t6) (C := RX1) (T := TX1) (N := 9) hx hb hts hiX1 hown hE.1 hP 0 rfl rfl 6 (by decide) (hts _ (List.mem_cons_of_mem _ wd_103)) (fun _ h9 => h9) rfl dX1_pay_30 ?_
          refine lv_iload_n hx hb dX1_pay_33 rfl (lv_at hl 0 rfl) ?_
          refine va_iald hx hb hE.1 hP 1 0 rfl rfl (vp_in_nI (n := i15) (by omega) (by decide)) dX1_pay_34 ?_
          refine lv_topi (fun v4 ev4 => ?_)
          obtain ⟨edn9, hdn9⟩ := hdnv i15 (by omega)
          obtain rfl : v4 = nI (dn0 i15) := ev4.trans (by rw [nI_clamp (by omega)]; exact edn9)
          refine lv_istore_n (lv' := [(3, .int (nI (dn0 i15))), (2, .int (nI i15)), (0, .ref x3), (1, .ref x1)]) hx hb dX1_pay_35 rfl hl (by decide) rfl (fun ls hl => ?_)
          refine lv_aload_n hx hb dX1_pay_36 rfl (lv_at hl 2 rfl) ?_
          refine va_get (D := D) (ci := 1) (v := .ref t0) (C := RX1) (T := TX1) (N := 9) hx hb hts hiX1 hown hE.1 hP 0 rfl rfl 0 (by decide) (hts _ (List.mem_cons_of_mem _ wd_99)) (fun _ h9 => h9) rfl dX1_pay_37 ?_
          refine lv_iload_n hx hb dX1_pay_40 rfl (lv_at hl 0 rfl) ?_
          refine lv_aload_n hx hb dX1_pay_41 rfl (lv_at hl 3 rfl) ?_
          refine lv_iload_n hx hb dX1_pay_42 rfl (lv_at hl 0 rfl) ?_
          refine k_iS (va_runV (As := [.int (nI (dn0 i15))]) (rest := [.int (nI (dn0 i15)), .ref t0]) ⟨hx, hb, hml, hown, hts⟩ (e_X4_paidFirst l D cI cJ H.size x1 x0 s1 s2 s5 s6 s7 s8 s9 s10 s11 b0 b1 b2 b3 b4 b5 b6 b7 b8 b9 b10 b11 (dn0 i15) np nl pn tt0 at0 si4 bi14 B5 S8 S10 lo0 sh0 (by omega) hlov hshv) (cwV 1 hts gX1_pay_X4_paidFirst rfl rfl rfl (by decide +kernel) ⟨Nat.le_of_ble_eq_true rfl, Nat.le_of_ble_eq_true rfl⟩) (k_preV hE hP hD [2, 3, 4, 5, 6] (by decide +kernel) rfl 2 rfl rfl) rfl rfl hl.1 rfl (lv_room (Nat.le_of_ble_eq_true rfl)) dX1_pay_43 ⟨Nat.le_of_ble_eq_true rfl, Nat.le_of_ble_eq_true rfl⟩) hP hD hS hA [2, 3, 4, 5, 6] rfl (fun _ _ ⟨_, h9⟩ => h9) (fun r5 H locs hw6 hP hD hS => ?_)
          obtain ⟨rfl, -⟩ := hw6
          refine lv_aload_n hx hb dX1_pay_46 rfl (lv_at hl 3 rfl) ?_
          refine va_get (D := D) (ci := 4) (v := .int (nI tt0)) (C := RX4) (T := TX4) (N := 14) hx hb hts hiX4 hown hE.1 hP 2 rfl rfl 12 (by decide) (hts _ (List.mem_cons_of_mem _ wd_740)) (fun _ h9 => h9) rfl dX1_pay_47 ?_
          refine lv_aload_n hx hb dX1_pay_50 rfl (lv_at hl 2 rfl) ?_
          refine va_get (D := D) (ci := 1) (v := .int (nI f1_4_15)) (C := RX1) (T := TX1) (N := 9) hx hb hts hiX1 hown hE.1 hP 0 rfl rfl 4 (by decide) (hts _ (List.mem_cons_of_mem _ wd_739)) (fun _ h9 => h9) rfl dX1_pay_51 ?_
          refine lv_isub hx hb dX1_pay_54 ?_
          refine lv_topi (fun v7 ev7 => ?_)
          have hpt9 := ptt_le (pf := (PFT B5 lo0 sh0)) (tt := tt0) (dn := dn0) i15
          obtain rfl : v7 = nI (tt0 - PTT (PFT B5 lo0 sh0) tt0 dn0 i15) := by rw [ev7, hpt_15]; exact pk_sub (by omega)
          refine va_mmin hx hb (by rw [hml]; exact hl.1.symm) hown (hts _ (List.mem_cons_of_mem _ wd_741)) (hts _ (List.mem_cons_of_mem _ wd_327)) (hts _ (List.mem_cons_of_mem _ wd_324)) (hts _ (List.mem_cons_of_mem _ wd_328)) (Nat.le_of_ble_eq_true rfl) (Nat.le_of_ble_eq_true rfl) (Nat.le_of_ble_eq_true rfl) (Nat.le_of_ble_eq_true rfl) dX1_pay_55 ?_
          refine lv_topi (fun v8 ev8 => ?_)
          have hpb9 : (PFT B5 lo0 sh0) (dn0 i15) ≤ 1000000 := pft_b (hlob _ hdn9) (hsl _ hdn9)
          obtain rfl : v8 = nI (min ((PFT B5 lo0 sh0) (dn0 i15)) (tt0 - PTT (PFT B5 lo0 sh0) tt0 dn0 i15)) := ev8.trans (min_if (by omega) (by omega))
          refine va_iast hx hb hE.1 hP hD hS 7 0 rfl rfl (vp_in_nI (n := dn0 i15) (by omega) (by decide)) dX1_pay_58 (fun H locs hP hD hS => ?_)
          refine k_re (w := [(oX1 x3 t0 t1 t2 t3 (nI f1_4_15) (nI pm) t6 (nI cn0) t8), (aIc cI t6 8 T6), (oX4 x1 x0 s1 s2 (nI pn) si4 s5 s6 s7 s8 s9 s10 s11 (nI tt0) (nI at0)), (oX0 x0 b0 b1 b2 b3 b4 b5 b6 b7 b8 b9 b10 b11 (nI np) (nI nl) bi14), (aIc cI b5 8 B5), (aIc cI s8 8 S8), (aIc cI s10 8 S10), (aIc cI t0 8 (upd a_t0_15 (Int32.toNatClampNeg (nI (dn0 i15))) (nI (min ((PFT B5 lo0 sh0) (dn0 i15)) (tt0 - PTT (PFT B5 lo0 sh0) tt0 dn0 i15)))))]) hP hD (fun hP hD => ?_)
          refine lv_aload_n hx hb dX1_pay_59 rfl (lv_at hl 2 rfl) ?_
          refine lv_dup hx hb dX1_pay_60 rfl ?_
          refine va_get (D := D) (ci := 1) (v := .int (nI f1_4_15)) (C := RX1) (T := TX1) (N := 9) hx hb hts hiX1 hown hE.1 hP 0 rfl rfl 4 (by decide) (hts _ (List.mem_cons_of_mem _ wd_739)) (fun _ h9 => h9) rfl dX1_pay_61 ?_
          refine lv_aload_n hx hb dX1_pay_64 rfl (lv_at hl 2 rfl) ?_
          refine va_get (D := D) (ci := 1) (v := .ref t0) (C := RX1) (T := TX1) (N := 9) hx hb hts hiX1 hown hE.1 hP 0 rfl rfl 0 (by decide) (hts _ (List.mem_cons_of_mem _ wd_99)) (fun _ h9 => h9) rfl dX1_pay_65 ?_
          refine lv_iload_n hx hb dX1_pay_68 rfl (lv_at hl 0 rfl) ?_
          refine va_iald hx hb hE.1 hP 7 0 rfl rfl (vp_in_nI (n := dn0 i15) (by omega) (by decide)) dX1_pay_69 ?_
          refine lv_topi (fun v9 ev9 => ?_)
          obtain rfl : v9 = nI (min ((PFT B5 lo0 sh0) (dn0 i15)) (tt0 - PTT (PFT B5 lo0 sh0) tt0 dn0 i15)) := ev9.trans pk_us
          refine lv_iadd hx hb dX1_pay_70 ?_
          refine lv_topi (fun v10 ev10 => ?_)
          obtain rfl : v10 = (nI (f1_4_15 + (min ((PFT B5 lo0 sh0) (dn0 i15)) (tt0 - PTT (PFT B5 lo0 sh0) tt0 dn0 i15)))) := by rw [ev10]; exact nI_add f1_4_15 (min ((PFT B5 lo0 sh0) (dn0 i15)) (tt0 - PTT (PFT B5 lo0 sh0) tt0 dn0 i15))
          refine va_put (D := D) (ci := 1) (v := .int (nI (f1_4_15 + (min ((PFT B5 lo0 sh0) (dn0 i15)) (tt0 - PTT (PFT B5 lo0 sh0) tt0 dn0 i15))))) (ty := .int) (C := RX1) (T := TX1) (N := 9) hx hb hts hiX1 tyX1 tyX1_ok nmX1 hown hE.1 hP hD hS 0 rfl rfl 4 (by decide) (hts _ (List.mem_cons_of_mem _ wd_739)) (fun _ h9 => h9) rfl (by decide +kernel) rfl rfl (Nat.le_of_ble_eq_true rfl) dX1_pay_71 (fun H locs hP hD hS => ?_)
          refine k_re (w := [(oX1 x3 t0 t1 t2 t3 (nI (f1_4_15 + (min ((PFT B5 lo0 sh0) (dn0 i15)) (tt0 - PTT (PFT B5 lo0 sh0) tt0 dn0 i15)))) (nI pm) t6 (nI cn0) t8), (aIc cI t6 8 T6), (oX4 x1 x0 s1 s2 (nI pn) si4 s5 s6 s7 s8 s9 s10 s11 (nI tt0) (nI at0)), (oX0 x0 b0 b1 b2 b3 b4 b5 b6 b7 b8 b9 b10 b11 (nI np) (nI nl) bi14), (aIc cI b5 8 B5), (aIc cI s8 8 S8), (aIc cI s10 8 S10), (aIc cI t0 8 (upd a_t0_15 (Int32.toNatClampNeg (nI (dn0 i15))) (nI (min ((PFT B5 lo0 sh0) (dn0 i15)) (tt0 - PTT (PFT B5 lo0 sh0) tt0 dn0 i15)))))]) hP hD (fun hP hD => ?_)
          refine lv_iinc (v := (nI (i15 + 1))) (lv' := [(2, .int (nI (i15 + 1))), (3, .int (nI (dn0 i15))), (0, .ref x3), (1, .ref x1)]) hx hb dX1_pay_74 hl (k := 1) rfl (nI_1 _) (by decide) rfl (fun ls hl => ?_)
          refine lv_goto (tgt := 15) hx hb dX1_pay_77 (by decide) ?_
          exact ih15 (i15 + 1) (upd a_t0_15 (Int32.toNatClampNeg (nI (dn0 i15))) (nI (min ((PFT B5 lo0 sh0) (dn0 i15)) (tt0 - PTT (PFT B5 lo0 sh0) tt0 dn0 i15)))) (f1_4_15 + (min ((PFT B5 lo0 sh0) (dn0 i15)) (tt0 - PTT (PFT B5 lo0 sh0) tt0 dn0 i15))) (by omega) (by rw [hpt_15]; rfl) (pff_up hdn9 hpf_15) (by omega) (by omega) _ _ _ hP hD hS (lv_sub hl [0, 2, 3] rfl)
  exact J15 _ 0 (fl 8 0 T0) 0 (by omega) rfl (fun k hk => if_pos hk) (by omega) (Nat.lt_succ_self _) _ _ _ hP hD hS (lv_sub hl [0, 1, 2] rfl)

