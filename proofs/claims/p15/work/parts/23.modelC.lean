def sm (f : Nat → Nat) : Nat → Nat
  | 0 => 0
  | n + 1 => sm f n + f n
theorem sm_cong {f g : Nat → Nat} : ∀ {n : Nat}, (∀ k, k < n → f k = g k) → sm f n = sm g n
  | 0, _ => rfl
  | n + 1, h => by
    show sm f n + f n = sm g n + g n
    rw [sm_cong (fun k hk => h k (by omega)), h n (by omega)]
theorem sm_le {f g : Nat → Nat} : ∀ {n : Nat}, (∀ k, k < n → f k ≤ g k) → sm f n ≤ sm g n
  | 0, _ => Nat.le_refl _
  | n + 1, h => Nat.add_le_add (sm_le (fun k hk => h k (by omega))) (h n (by omega))
theorem sm_const (c : Nat) : ∀ n, sm (fun _ => c) n = n * c
  | 0 => by simp [sm]
  | n + 1 => by show sm (fun _ => c) n + c = _; rw [sm_const c n, Nat.succ_mul]
theorem sm_bound {f : Nat → Nat} {c n : Nat} (h : ∀ k, k < n → f k ≤ c) : sm f n ≤ n * c := by
  have := sm_le (g := fun _ => c) h
  rwa [sm_const] at this
theorem sm_zero : ∀ n, sm (fun _ => 0) n = 0
  | 0 => rfl
  | n + 1 => by show sm (fun _ => 0) n + 0 = 0; rw [sm_zero n]
/-- a row of eight holds these numbers -/
def nv (f : Nat → Int32) (c : Nat → Nat) : Prop := ∀ k, k < 8 → f k = nI (c k)
theorem nv_at {f : Nat → Int32} {c : Nat → Nat} (h : nv f c) {p : Nat} (hp : p < 8) : f (Int32.toNatClampNeg (nI p)) = nI (c p) := by
  rw [nI_clamp (by omega)]; exact h p hp
theorem nv_up {f : Nat → Int32} {c : Nat → Nat} (h : nv f c) {p : Nat} (hp : p < 8) (x : Nat) : nv (upd f (Int32.toNatClampNeg (nI p)) (nI x)) (fun k => if k = p then x else c k) := by
  intro k hk
  rw [nI_clamp (by omega)]
  by_cases e : k = p
  · subst e; rw [pk_us]; simp
  · rw [pk_un e]; simp [e]; exact h k hk
theorem sm_step {F : Nat → Nat} {i : Nat} {a v : Int64} (ea : a = lN (sm F i)) (ev : v = a + Int32.toInt64 (nI (F i))) (hF : F i < 2 ^ 31) : v = lN (sm F (i + 1)) := by
  rw [ev, ea, nI_l hF, lN_add]; rfl
theorem dX8_least_0 : decode cX8_least 0 = .ok (.iload_n 0, 1) := by decide +kernel
theorem dX8_least_1 : decode cX8_least 1 = .ok (.iload_n 1, 1) := by decide +kernel
theorem dX8_least_2 : decode cX8_least 2 = .ok (.if_icmp .ge 7, 3) := by decide +kernel
theorem dX8_least_5 : decode cX8_least 5 = .ok (.iload_n 0, 1) := by decide +kernel
theorem dX8_least_6 : decode cX8_least 6 = .ok (.goto 4, 3) := by decide +kernel
theorem dX8_least_9 : decode cX8_least 9 = .ok (.iload_n 1, 1) := by decide +kernel
theorem dX8_least_10 : decode cX8_least 10 = .ok (.ireturn, 1) := by decide +kernel
set_option maxHeartbeats 4000000 in
set_option maxRecDepth 100000 in
theorem m_X8_least (l : Launch) (D : va_G) (cI cJ : ClassId) (sz : Nat) (a0 b0 : Nat) (ha : a0 < 2 ^ 31) (hb0 : b0 < 2 ^ 31) : Met l yX8_least wtX8_least { frames := 0, cells := 0, slots := 0, locals := 0 } (cPc D cI cJ [.int (nI a0), .int (nI b0)] sz []) (cQi D (fun r u => r = (nI (min a0 b0)) ∧ u = []) (va_A [] sz)) 0 0 (va_A [] sz) := by
  refine k_ofW (Qc := cQi D (fun r u => r = (nI (min a0 b0)) ∧ u = [])) (by decide) rfl (Nat.le_of_ble_eq_true rfl) ?_
  intro p e s m below meth c A ls hx hb hr hml hts hown hlk hnm hsz hE hP hD hS hA hl
  have hown : s.vm.findClass RX8 = some m.cls := hown
  have hl : lv_has ls 2 [(0, .int (nI a0)), (1, .int (nI b0))] := hl
  refine lv_iload_n hx hb dX8_least_0 rfl (lv_at hl 0 rfl) ?_
  refine lv_iload_n hx hb dX8_least_1 rfl (lv_at hl 1 rfl) ?_
  refine lv_icmp_ge (tgt := 9) hx hb dX8_least_2 (by decide) (fun c1 => ?_) (fun c1 => ?_)
  · skip
    have nc1 : b0 ≤ a0 := (nI_leI (a := b0) (b := a0) (by omega) (by omega)).mp c1
    refine lv_iload_n hx hb dX8_least_9 rfl (lv_at hl 1 rfl) ?_
    refine k_iret (u := []) hx hb hr hlk hP hD hS dX8_least_10 ?_
    exact ⟨(by rw [Nat.min_eq_right (by omega)]), rfl⟩
  · skip
    have nc1 : ¬ b0 ≤ a0 := fun q9 => c1 ((nI_leI (a := b0) (b := a0) (by omega) (by omega)).mpr q9)
    refine lv_iload_n hx hb dX8_least_5 rfl (lv_at hl 0 rfl) ?_
    refine lv_goto (tgt := 10) hx hb dX8_least_6 (by decide) ?_
    refine k_iret (u := []) hx hb hr hlk hP hD hS dX8_least_10 ?_
    exact ⟨(by rw [Nat.min_eq_left (by omega)]), rfl⟩
theorem dX8_capSum_0 : decode cX8_capSum 0 = .ok (.lconst 0, 1) := by decide +kernel
theorem dX8_capSum_1 : decode cX8_capSum 1 = .ok (.lstore_n 1, 1) := by decide +kernel
theorem dX8_capSum_2 : decode cX8_capSum 2 = .ok (.iconst 0, 1) := by decide +kernel
theorem dX8_capSum_3 : decode cX8_capSum 3 = .ok (.istore_n 3, 1) := by decide +kernel
theorem dX8_capSum_4 : decode cX8_capSum 4 = .ok (.iload_n 3, 1) := by decide +kernel
theorem dX8_capSum_5 : decode cX8_capSum 5 = .ok (.bipush 8, 2) := by decide +kernel
theorem dX8_capSum_7 : decode cX8_capSum 7 = .ok (.if_icmp .ge 19, 3) := by decide +kernel
theorem dX8_capSum_10 : decode cX8_capSum 10 = .ok (.lload_n 1, 1) := by decide +kernel
theorem dX8_capSum_11 : decode cX8_capSum 11 = .ok (.aload_n 0, 1) := by decide +kernel
theorem dX8_capSum_12 : decode cX8_capSum 12 = .ok (.getfield 88, 3) := by decide +kernel
theorem dX8_capSum_15 : decode cX8_capSum 15 = .ok (.iload_n 3, 1) := by decide +kernel
theorem dX8_capSum_16 : decode cX8_capSum 16 = .ok (.iaload, 1) := by decide +kernel
theorem dX8_capSum_17 : decode cX8_capSum 17 = .ok (.i2l, 1) := by decide +kernel
theorem dX8_capSum_18 : decode cX8_capSum 18 = .ok (.ladd, 1) := by decide +kernel
theorem dX8_capSum_19 : decode cX8_capSum 19 = .ok (.lstore_n 1, 1) := by decide +kernel
theorem dX8_capSum_20 : decode cX8_capSum 20 = .ok (.iinc 3 1, 3) := by decide +kernel
theorem dX8_capSum_23 : decode cX8_capSum 23 = .ok (.goto (-19), 3) := by decide +kernel
theorem dX8_capSum_26 : decode cX8_capSum 26 = .ok (.lload_n 1, 1) := by decide +kernel
theorem dX8_capSum_27 : decode cX8_capSum 27 = .ok (.lreturn, 1) := by decide +kernel
set_option maxHeartbeats 4000000 in
set_option maxRecDepth 100000 in
theorem m_X8_capSum (l : Launch) (D : va_G) (cI cJ : ClassId) (sz : Nat) (g g2 g3 g4 g5 g6 g7 g8 g9 g10 g12 g13 g15 g16 g17 g19 g20 g21 g22 g23 g24 g25 g26 g27 g28 g33 g34 g35 g36 g37 g38 g39 g41 g42 g44 g45 mn ml mv : Nat) (gi0 gi14 gi18 gi29 gi30 gi32 gi40 gi43 : Int32) (G35 : Nat → Int32) (c0 : Nat → Nat) (hcv : nv G35 c0) (hcb : ∀ k, k < 8 → c0 k ≤ 1000000) : Met l yX8_capSum wtX8_capSum { frames := 0, cells := 0, slots := 0, locals := 0 } (cPc D cI cJ [.ref g] sz [(oX8 g gi0 (nI mn) g2 g3 g4 g5 g6 g7 g8 g9 g10 (nI ml) g12 g13 gi14 g15 g16 g17 gi18 g19 g20 g21 g22 g23 g24 g25 g26 g27 g28 gi29 gi30 (nI mv) gi32 g33 g34 g35 g36 g37 g38 g39 gi40 g41 g42 gi43 g44 g45), (aIc cI g35 8 G35)]) (cQl D (fun r u => r = (lN (sm c0 8)) ∧ u = [(oX8 g gi0 (nI mn) g2 g3 g4 g5 g6 g7 g8 g9 g10 (nI ml) g12 g13 gi14 g15 g16 g17 gi18 g19 g20 g21 g22 g23 g24 g25 g26 g27 g28 gi29 gi30 (nI mv) gi32 g33 g34 g35 g36 g37 g38 g39 gi40 g41 g42 gi43 g44 g45), (aIc cI g35 8 G35)]) (va_A [(oX8 g gi0 (nI mn) g2 g3 g4 g5 g6 g7 g8 g9 g10 (nI ml) g12 g13 gi14 g15 g16 g17 gi18 g19 g20 g21 g22 g23 g24 g25 g26 g27 g28 gi29 gi30 (nI mv) gi32 g33 g34 g35 g36 g37 g38 g39 gi40 g41 g42 gi43 g44 g45), (aIc cI g35 8 G35)] sz)) 0 0 (va_A [(oX8 g gi0 (nI mn) g2 g3 g4 g5 g6 g7 g8 g9 g10 (nI ml) g12 g13 gi14 g15 g16 g17 gi18 g19 g20 g21 g22 g23 g24 g25 g26 g27 g28 gi29 gi30 (nI mv) gi32 g33 g34 g35 g36 g37 g38 g39 gi40 g41 g42 gi43 g44 g45), (aIc cI g35 8 G35)] sz) := by
  refine k_ofW (Qc := cQl D (fun r u => r = (lN (sm c0 8)) ∧ u = [(oX8 g gi0 (nI mn) g2 g3 g4 g5 g6 g7 g8 g9 g10 (nI ml) g12 g13 gi14 g15 g16 g17 gi18 g19 g20 g21 g22 g23 g24 g25 g26 g27 g28 gi29 gi30 (nI mv) gi32 g33 g34 g35 g36 g37 g38 g39 gi40 g41 g42 gi43 g44 g45), (aIc cI g35 8 G35)])) (by decide) rfl (Nat.le_of_ble_eq_true rfl) ?_
  intro p e s m below meth c A ls hx hb hr hml hts hown hlk hnm hsz hE hP hD hS hA hl
  have hown : s.vm.findClass RX8 = some m.cls := hown
  have hiX8 : ∀ w ∈ u_ws RX8 TX8 46, w ∈ wtX8_capSum := fun w h => List.mem_cons_of_mem _ (iuX8 w h)
  have hl : lv_has ls 4 [(0, .ref g)] := hl
  refine lv_lconst (v := 0) hx hb dX8_capSum_0 (by decide) ?_
  refine lv_lstore_n (lv' := [(1, .long 0), (0, .ref g)]) hx hb dX8_capSum_1 rfl hl (by decide) rfl (fun ls hl => ?_)
  refine lv_iconst (v := 0) hx hb dX8_capSum_2 (by decide) ?_
  refine lv_istore_n (lv' := [(3, .int 0), (1, .long 0), (0, .ref g)]) hx hb dX8_capSum_3 rfl hl (by decide) rfl (fun ls hl => ?_)
  have J4 : ∀ (zz : Nat) (i4 : Nat) (h1_4 : Int64), (i4 ≤ 8) → (h1_4 = lN (sm c0 i4)) → (8 - i4) < zz → ∀ (H : Heap) (locs : List Loc) (ls : Array Slot), va_P D vwCl [(oX8 g gi0 (nI mn) g2 g3 g4 g5 g6 g7 g8 g9 g10 (nI ml) g12 g13 gi14 g15 g16 g17 gi18 g19 g20 g21 g22 g23 g24 g25 g26 g27 g28 gi29 gi30 (nI mv) gi32 g33 g34 g35 g36 g37 g38 g39 gi40 g41 g42 gi43 g44 g45), (aIc cI g35 8 G35)] H → va_D A [(oX8 g gi0 (nI mn) g2 g3 g4 g5 g6 g7 g8 g9 g10 (nI ml) g12 g13 gi14 g15 g16 g17 gi18 g19 g20 g21 g22 g23 g24 g25 g26 g27 g28 gi29 gi30 (nI mv) gi32 g33 g34 g35 g36 g37 g38 g39 gi40 g41 g42 gi43 g44 g45), (aIc cI g35 8 G35)] → va_S A s.heap H locs → lv_has ls 4 [(3, .int (nI i4)), (1, .long h1_4), (0, .ref g)] → W p l e { frames := 0, cells := 0, slots := 0, locals := 0 } s m [.ref g].toArray below meth c H locs 0 0 (MQ below (cQl D (fun r u => r = (lN (sm c0 8)) ∧ u = [(oX8 g gi0 (nI mn) g2 g3 g4 g5 g6 g7 g8 g9 g10 (nI ml) g12 g13 gi14 g15 g16 g17 gi18 g19 g20 g21 g22 g23 g24 g25 g26 g27 g28 gi29 gi30 (nI mv) gi32 g33 g34 g35 g36 g37 g38 g39 gi40 g41 g42 gi43 g44 g45), (aIc cI g35 8 G35)]) A) [.ref g].toArray s 0 0 A) (F0 m 4 ls []) := by
    intro zz
    induction zz with
    | zero => intro i4 h1_4 _ _; exact fun h => absurd h (Nat.not_lt_zero _)
    | succ zz ih4 =>
      intro i4 h1_4 hc3_4 hs_4 hmu4 H locs ls hP hD hS hl
      refine lv_iload_n hx hb dX8_capSum_4 rfl (lv_at hl 0 rfl) ?_
      refine lv_bipush (v := 8) hx hb dX8_capSum_5 (by decide) ?_
      refine lv_icmp_ge (tgt := 26) hx hb dX8_capSum_7 (by decide) (fun c1 => ?_) (fun c1 => ?_)
      · skip
        have nc1 : 8 ≤ i4 := (nI_leI (a := 8) (b := i4) (by omega) (by omega)).mp c1
        refine lv_lload_n hx hb dX8_capSum_26 rfl (lv_at hl 1 rfl) ?_
        refine k_lret (u := [(oX8 g gi0 (nI mn) g2 g3 g4 g5 g6 g7 g8 g9 g10 (nI ml) g12 g13 gi14 g15 g16 g17 gi18 g19 g20 g21 g22 g23 g24 g25 g26 g27 g28 gi29 gi30 (nI mv) gi32 g33 g34 g35 g36 g37 g38 g39 gi40 g41 g42 gi43 g44 g45), (aIc cI g35 8 G35)]) hx hb hr hlk hP hD hS dX8_capSum_27 ?_
        exact ⟨(by obtain rfl : i4 = 8 := (by omega); exact hs_4), rfl⟩
      · skip
        have nc1 : ¬ 8 ≤ i4 := fun q9 => c1 ((nI_leI (a := 8) (b := i4) (by omega) (by omega)).mpr q9)
        refine lv_lload_n hx hb dX8_capSum_10 rfl (lv_at hl 1 rfl) ?_
        refine lv_aload_n hx hb dX8_capSum_11 rfl (lv_at hl 2 rfl) ?_
        refine va_get (D := D) (ci := 8) (v := .ref g35) (C := RX8) (T := TX8) (N := 46) hx hb hts hiX8 hown hE.1 hP 0 rfl rfl 35 (by decide) (hts _ (List.mem_cons_of_mem _ wd_142)) (fun _ h9 => h9) rfl dX8_capSum_12 ?_
        refine lv_iload_n hx hb dX8_capSum_15 rfl (lv_at hl 0 rfl) ?_
        refine va_iald hx hb hE.1 hP 1 0 rfl rfl (vp_in_nI (n := i4) (by omega) (by decide)) dX8_capSum_16 ?_
        refine lv_topi (fun v2 ev2 => ?_)
        have hcb_ := hcb i4 (by omega)
        obtain rfl : v2 = nI (c0 i4) := ev2.trans (nv_at hcv (by omega))
        refine lv_i2l hx hb dX8_capSum_17 rfl ?_
        refine lv_ladd hx hb dX8_capSum_18 ?_
        refine lv_topl (fun v3 ev3 => ?_)
        refine lv_lstore_n (lv' := [(1, .long v3), (3, .int (nI i4)), (0, .ref g)]) hx hb dX8_capSum_19 rfl hl (by decide) rfl (fun ls hl => ?_)
        refine lv_iinc (v := (nI (i4 + 1))) (lv' := [(3, .int (nI (i4 + 1))), (1, .long v3), (0, .ref g)]) hx hb dX8_capSum_20 hl (k := 1) rfl (nI_1 _) (by decide) rfl (fun ls hl => ?_)
        refine lv_goto (tgt := 4) hx hb dX8_capSum_23 (by decide) ?_
        exact ih4 (i4 + 1) v3 (by omega) (sm_step (F := c0) hs_4 ev3 (by first | omega | (have := Nat.min_le_left; omega))) (by omega) _ _ _ hP hD hS (lv_sub hl [0, 1, 2] rfl)
  exact J4 _ 0 0 (by omega) rfl (Nat.lt_succ_self _) _ _ _ hP hD hS (lv_sub hl [0, 1, 2] rfl)
theorem dX8_byHeight_0 : decode cX8_byHeight 0 = .ok (.lconst 0, 1) := by decide +kernel
theorem dX8_byHeight_1 : decode cX8_byHeight 1 = .ok (.lstore_n 2, 1) := by decide +kernel
theorem dX8_byHeight_2 : decode cX8_byHeight 2 = .ok (.iconst 0, 1) := by decide +kernel
theorem dX8_byHeight_3 : decode cX8_byHeight 3 = .ok (.istore 4, 2) := by decide +kernel
theorem dX8_byHeight_5 : decode cX8_byHeight 5 = .ok (.iload 4, 2) := by decide +kernel
theorem dX8_byHeight_7 : decode cX8_byHeight 7 = .ok (.bipush 8, 2) := by decide +kernel
theorem dX8_byHeight_9 : decode cX8_byHeight 9 = .ok (.if_icmp .ge 24, 3) := by decide +kernel
theorem dX8_byHeight_12 : decode cX8_byHeight 12 = .ok (.lload_n 2, 1) := by decide +kernel
theorem dX8_byHeight_13 : decode cX8_byHeight 13 = .ok (.aload_n 0, 1) := by decide +kernel
theorem dX8_byHeight_14 : decode cX8_byHeight 14 = .ok (.getfield 88, 3) := by decide +kernel
theorem dX8_byHeight_17 : decode cX8_byHeight 17 = .ok (.iload 4, 2) := by decide +kernel
theorem dX8_byHeight_19 : decode cX8_byHeight 19 = .ok (.iaload, 1) := by decide +kernel
theorem dX8_byHeight_20 : decode cX8_byHeight 20 = .ok (.iload_n 1, 1) := by decide +kernel
theorem dX8_byHeight_21 : decode cX8_byHeight 21 = .ok (.invokestatic 158, 3) := by decide +kernel
theorem dX8_byHeight_24 : decode cX8_byHeight 24 = .ok (.i2l, 1) := by decide +kernel
theorem dX8_byHeight_25 : decode cX8_byHeight 25 = .ok (.ladd, 1) := by decide +kernel
theorem dX8_byHeight_26 : decode cX8_byHeight 26 = .ok (.lstore_n 2, 1) := by decide +kernel
theorem dX8_byHeight_27 : decode cX8_byHeight 27 = .ok (.iinc 4 1, 3) := by decide +kernel
theorem dX8_byHeight_30 : decode cX8_byHeight 30 = .ok (.goto (-25), 3) := by decide +kernel
theorem dX8_byHeight_33 : decode cX8_byHeight 33 = .ok (.lload_n 2, 1) := by decide +kernel
theorem dX8_byHeight_34 : decode cX8_byHeight 34 = .ok (.lreturn, 1) := by decide +kernel
theorem gX8_byHeight_X8_least : GoodIn wtX8_byHeight (va_wsS RX8 158 yX8_least wtX8_least) := tb_good (tb_s0 wd_430 wd_431 wd_5 wd_432)
set_option maxHeartbeats 4000000 in
set_option maxRecDepth 100000 in
theorem m_X8_byHeight (l : Launch) (D : va_G) (cI cJ : ClassId) (sz : Nat) (g g2 g3 g4 g5 g6 g7 g8 g9 g10 g12 g13 g15 g16 g17 g19 g20 g21 g22 g23 g24 g25 g26 g27 g28 g33 g34 g35 g36 g37 g38 g39 g41 g42 g44 g45 h0 mn ml mv : Nat) (gi0 gi14 gi18 gi29 gi30 gi32 gi40 gi43 : Int32) (G35 : Nat → Int32) (c0 : Nat → Nat) (hcv : nv G35 c0) (hcb : ∀ k, k < 8 → c0 k ≤ 1000000) (hh : h0 < 2 ^ 31) : Met l yX8_byHeight wtX8_byHeight { frames := 1, cells := 0, slots := 0, locals := 21 } (cPc D cI cJ [.ref g, .int (nI h0)] sz [(oX8 g gi0 (nI mn) g2 g3 g4 g5 g6 g7 g8 g9 g10 (nI ml) g12 g13 gi14 g15 g16 g17 gi18 g19 g20 g21 g22 g23 g24 g25 g26 g27 g28 gi29 gi30 (nI mv) gi32 g33 g34 g35 g36 g37 g38 g39 gi40 g41 g42 gi43 g44 g45), (aIc cI g35 8 G35)]) (cQl D (fun r u => r = (lN (sm (fun k => min (c0 k) h0) 8)) ∧ u = [(oX8 g gi0 (nI mn) g2 g3 g4 g5 g6 g7 g8 g9 g10 (nI ml) g12 g13 gi14 g15 g16 g17 gi18 g19 g20 g21 g22 g23 g24 g25 g26 g27 g28 gi29 gi30 (nI mv) gi32 g33 g34 g35 g36 g37 g38 g39 gi40 g41 g42 gi43 g44 g45), (aIc cI g35 8 G35)]) (va_A [(oX8 g gi0 (nI mn) g2 g3 g4 g5 g6 g7 g8 g9 g10 (nI ml) g12 g13 gi14 g15 g16 g17 gi18 g19 g20 g21 g22 g23 g24 g25 g26 g27 g28 gi29 gi30 (nI mv) gi32 g33 g34 g35 g36 g37 g38 g39 gi40 g41 g42 gi43 g44 g45), (aIc cI g35 8 G35)] sz)) 0 0 (va_A [(oX8 g gi0 (nI mn) g2 g3 g4 g5 g6 g7 g8 g9 g10 (nI ml) g12 g13 gi14 g15 g16 g17 gi18 g19 g20 g21 g22 g23 g24 g25 g26 g27 g28 gi29 gi30 (nI mv) gi32 g33 g34 g35 g36 g37 g38 g39 gi40 g41 g42 gi43 g44 g45), (aIc cI g35 8 G35)] sz) := by
  refine k_ofW (Qc := cQl D (fun r u => r = (lN (sm (fun k => min (c0 k) h0) 8)) ∧ u = [(oX8 g gi0 (nI mn) g2 g3 g4 g5 g6 g7 g8 g9 g10 (nI ml) g12 g13 gi14 g15 g16 g17 gi18 g19 g20 g21 g22 g23 g24 g25 g26 g27 g28 gi29 gi30 (nI mv) gi32 g33 g34 g35 g36 g37 g38 g39 gi40 g41 g42 gi43 g44 g45), (aIc cI g35 8 G35)])) (by decide) rfl (Nat.le_of_ble_eq_true rfl) ?_
  intro p e s m below meth c A ls hx hb hr hml hts hown hlk hnm hsz hE hP hD hS hA hl
  have hown : s.vm.findClass RX8 = some m.cls := hown
  have hiX8 : ∀ w ∈ u_ws RX8 TX8 46, w ∈ wtX8_byHeight := fun w h => List.mem_cons_of_mem _ (iuX8 w h)
  have hl : lv_has ls 5 [(0, .ref g), (1, .int (nI h0))] := hl
  refine lv_lconst (v := 0) hx hb dX8_byHeight_0 (by decide) ?_
  refine lv_lstore_n (lv' := [(2, .long 0), (0, .ref g), (1, .int (nI h0))]) hx hb dX8_byHeight_1 rfl hl (by decide) rfl (fun ls hl => ?_)
  refine lv_iconst (v := 0) hx hb dX8_byHeight_2 (by decide) ?_
  refine lv_istore (lv' := [(4, .int 0), (2, .long 0), (0, .ref g), (1, .int (nI h0))]) hx hb dX8_byHeight_3 hl (by decide) rfl (fun ls hl => ?_)
  have J5 : ∀ (zz : Nat) (i5 : Nat) (h2_5 : Int64), (i5 ≤ 8) → (h2_5 = lN (sm (fun k => min (c0 k) h0) i5)) → (8 - i5) < zz → ∀ (H : Heap) (locs : List Loc) (ls : Array Slot), va_P D vwCl [(oX8 g gi0 (nI mn) g2 g3 g4 g5 g6 g7 g8 g9 g10 (nI ml) g12 g13 gi14 g15 g16 g17 gi18 g19 g20 g21 g22 g23 g24 g25 g26 g27 g28 gi29 gi30 (nI mv) gi32 g33 g34 g35 g36 g37 g38 g39 gi40 g41 g42 gi43 g44 g45), (aIc cI g35 8 G35)] H → va_D A [(oX8 g gi0 (nI mn) g2 g3 g4 g5 g6 g7 g8 g9 g10 (nI ml) g12 g13 gi14 g15 g16 g17 gi18 g19 g20 g21 g22 g23 g24 g25 g26 g27 g28 gi29 gi30 (nI mv) gi32 g33 g34 g35 g36 g37 g38 g39 gi40 g41 g42 gi43 g44 g45), (aIc cI g35 8 G35)] → va_S A s.heap H locs → lv_has ls 5 [(4, .int (nI i5)), (2, .long h2_5), (0, .ref g), (1, .int (nI h0))] → W p l e { frames := 1, cells := 0, slots := 0, locals := 21 } s m [.ref g, .int (nI h0)].toArray below meth c H locs 0 0 (MQ below (cQl D (fun r u => r = (lN (sm (fun k => min (c0 k) h0) 8)) ∧ u = [(oX8 g gi0 (nI mn) g2 g3 g4 g5 g6 g7 g8 g9 g10 (nI ml) g12 g13 gi14 g15 g16 g17 gi18 g19 g20 g21 g22 g23 g24 g25 g26 g27 g28 gi29 gi30 (nI mv) gi32 g33 g34 g35 g36 g37 g38 g39 gi40 g41 g42 gi43 g44 g45), (aIc cI g35 8 G35)]) A) [.ref g, .int (nI h0)].toArray s 0 0 A) (F0 m 5 ls []) := by
    intro zz
    induction zz with
    | zero => intro i5 h2_5 _ _; exact fun h => absurd h (Nat.not_lt_zero _)
    | succ zz ih5 =>
      intro i5 h2_5 hc4_5 hs_5 hmu5 H locs ls hP hD hS hl
      refine lv_iload hx hb dX8_byHeight_5 (lv_at hl 0 rfl) ?_
      refine lv_bipush (v := 8) hx hb dX8_byHeight_7 (by decide) ?_
      refine lv_icmp_ge (tgt := 33) hx hb dX8_byHeight_9 (by decide) (fun c1 => ?_) (fun c1 => ?_)
      · skip
        have nc1 : 8 ≤ i5 := (nI_leI (a := 8) (b := i5) (by omega) (by omega)).mp c1
        refine lv_lload_n hx hb dX8_byHeight_33 rfl (lv_at hl 1 rfl) ?_
        refine k_lret (u := [(oX8 g gi0 (nI mn) g2 g3 g4 g5 g6 g7 g8 g9 g10 (nI ml) g12 g13 gi14 g15 g16 g17 gi18 g19 g20 g21 g22 g23 g24 g25 g26 g27 g28 gi29 gi30 (nI mv) gi32 g33 g34 g35 g36 g37 g38 g39 gi40 g41 g42 gi43 g44 g45), (aIc cI g35 8 G35)]) hx hb hr hlk hP hD hS dX8_byHeight_34 ?_
        exact ⟨(by obtain rfl : i5 = 8 := (by omega); exact hs_5), rfl⟩
      · skip
        have nc1 : ¬ 8 ≤ i5 := fun q9 => c1 ((nI_leI (a := 8) (b := i5) (by omega) (by omega)).mpr q9)
        refine lv_lload_n hx hb dX8_byHeight_12 rfl (lv_at hl 1 rfl) ?_
        refine lv_aload_n hx hb dX8_byHeight_13 rfl (lv_at hl 2 rfl) ?_
        refine va_get (D := D) (ci := 8) (v := .ref g35) (C := RX8) (T := TX8) (N := 46) hx hb hts hiX8 hown hE.1 hP 0 rfl rfl 35 (by decide) (hts _ (List.mem_cons_of_mem _ wd_142)) (fun _ h9 => h9) rfl dX8_byHeight_14 ?_
        refine lv_iload hx hb dX8_byHeight_17 (lv_at hl 0 rfl) ?_
        refine va_iald hx hb hE.1 hP 1 0 rfl rfl (vp_in_nI (n := i5) (by omega) (by decide)) dX8_byHeight_19 ?_
        refine lv_topi (fun v2 ev2 => ?_)
        have hcb_ := hcb i5 (by omega)
        obtain rfl : v2 = nI (c0 i5) := ev2.trans (nv_at hcv (by omega))
        refine lv_iload_n hx hb dX8_byHeight_20 rfl (lv_at hl 3 rfl) ?_
        refine k_iS (va_runS (As := [.int (nI (c0 i5)), .int (nI h0)]) (rest := [.long h2_5]) ⟨hx, hb, hml, hown, hts⟩ (m_X8_least l D cI cJ H.size (c0 i5) h0 (by omega) (by omega)) (va_cwS 2 hts gX8_byHeight_X8_least rfl rfl rfl (by decide +kernel) ⟨Nat.le_of_ble_eq_true rfl, Nat.le_of_ble_eq_true rfl⟩) (k_pre hE hP hD [] (by decide +kernel) rfl) rfl rfl hl.1 rfl (lv_room (Nat.le_of_ble_eq_true rfl)) dX8_byHeight_21 ⟨Nat.le_of_ble_eq_true rfl, Nat.le_of_ble_eq_true rfl⟩) hP hD hS hA [] rfl (fun _ _ ⟨_, h9⟩ => h9) (fun r3 H locs hw4 hP hD hS => ?_)
        obtain ⟨rfl, -⟩ := hw4
        refine lv_i2l hx hb dX8_byHeight_24 rfl ?_
        refine lv_ladd hx hb dX8_byHeight_25 ?_
        refine lv_topl (fun v5 ev5 => ?_)
        refine lv_lstore_n (lv' := [(2, .long v5), (4, .int (nI i5)), (0, .ref g), (1, .int (nI h0))]) hx hb dX8_byHeight_26 rfl hl (by decide) rfl (fun ls hl => ?_)
        refine lv_iinc (v := (nI (i5 + 1))) (lv' := [(4, .int (nI (i5 + 1))), (2, .long v5), (0, .ref g), (1, .int (nI h0))]) hx hb dX8_byHeight_27 hl (k := 1) rfl (nI_1 _) (by decide) rfl (fun ls hl => ?_)
        refine lv_goto (tgt := 5) hx hb dX8_byHeight_30 (by decide) ?_
        exact ih5 (i5 + 1) v5 (by omega) (sm_step (F := fun k => min (c0 k) h0) hs_5 ev5 (Nat.lt_of_le_of_lt (Nat.min_le_right _ _) hh)) (by omega) _ _ _ hP hD hS (lv_sub hl [0, 1, 2, 3] rfl)
  exact J5 _ 0 0 (by omega) rfl (Nat.lt_succ_self _) _ _ _ hP hD hS (lv_sub hl [0, 1, 2, 3] rfl)

