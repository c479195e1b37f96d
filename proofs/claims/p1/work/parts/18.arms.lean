/-- the world at the law's loop: the class's object, the reference's, the long row -/
abbrev LWS (cI cJ : ClassId) (x x0 x1 x2 x3 x4 x5 s1 s2 s5 s6 s7 s8 s9 s10 s11 b0 b1 b2 b3 b4 b5 b6 b7 b8 b9 b10 b11 w0 w1 w2 w3 w4 w8 d0 d1 d2 y0 y1 c0 c1 c2 c3 c6 c8 z0 z1 g g2 g3 g4 g5 g6 g7 g8 g9 g10 g12 g13 g15 g16 g17 g19 g20 g21 g22 g23 g24 g25 g26 g27 g28 g33 g34 g35 g36 g37 g38 g39 g41 g42 g44 g45 o : Nat) : va_W := [(x, .inr (7, [.ref x0, .ref x1, .ref x2, .ref x3, .ref x4, .ref x5])), (x5, .inl (cI, 8, .inl (fun _ => 0))), (x1, .inr (4, [.ref x0, .ref s1, .ref s2, .int 0, .int 0, .ref s5, .ref s6, .ref s7, .ref s8, .ref s9, .ref s10, .ref s11, .int 0, .int 0])), (s5, .inl (cI, 8, .inl (fun _ => 0))), (s6, .inl (cI, 8, .inl (fun _ => 0))), (s7, .inl (cI, 8, .inl (fun _ => 0))), (s8, .inl (cI, 8, .inl (fun _ => 0))), (s9, .inl (cI, 8, .inl (fun _ => 0))), (s10, .inl (cI, 8, .inl (fun _ => 0))), (s11, .inl (cI, 8, .inl (fun _ => 0))), (x0, .inr (0, [.ref b0, .ref b1, .ref b2, .ref b3, .ref b4, .ref b5, .ref b6, .ref b7, .ref b8, .ref b9, .ref b10, .ref b11, .int 0, .int 0, .int 0])), (b0, .inl (cI, 8, .inl (fun _ => 0))), (b1, .inl (cI, 8, .inl (fun _ => 0))), (b2, .inl (cI, 8, .inl (fun _ => 0))), (b3, .inl (cI, 8, .inl (fun _ => 0))), (b4, .inl (cI, 8, .inl (fun _ => 0))), (b5, .inl (cI, 8, .inl (fun _ => 0))), (b6, .inl (cI, 8, .inl (fun _ => 0))), (b7, .inl (cI, 8, .inl (fun _ => 0))), (b8, .inl (cI, 64, .inl (fl 64 (-1) (fun _ => 0)))), (b9, .inl (cI, 8, .inl (fun _ => 0))), (b10, .inl (cI, 10, .inl (fun _ => 0))), (b11, .inl (cI, 10, .inl (fun _ => 0))), (s1, .inr (6, [.ref w0, .ref w1, .ref w2, .ref w3, .ref w4, .int 0, .int 0, .int 0, .ref w8])), (w0, .inl (cI, 8, .inl (fun _ => 0))), (w1, .inl (cI, 8, .inl (fun _ => 0))), (w2, .inl (cI, 8, .inl (fun _ => 0))), (w3, .inl (cI, 8, .inl (fun _ => 0))), (w4, .inl (cI, 8, .inl (fun _ => 0))), (w8, .inl (cI, 8, .inl (fun _ => 0))), (s2, .inr (2, [.ref d0, .ref d1, .ref d2])), (d0, .inl (cI, 8, .inl (fun _ => 0))), (d1, .inl (cI, 8, .inl (fun _ => 0))), (d2, .inl (cJ, 8, .inr (.inl (fun _ => 0)))), (x2, .inr (5, [.ref y0, .ref y1])), (y0, .inl (cI, 8, .inl (fun _ => 0))), (y1, .inl (cI, 8, .inl (fun _ => 0))), (x3, .inr (1, [.ref c0, .ref c1, .ref c2, .ref c3, .int 0, .int 0, .ref c6, .int 0, .ref c8])), (c0, .inl (cI, 8, .inl (fun _ => 0))), (c1, .inl (cI, 9, .inl (fun _ => 0))), (c2, .inl (cI, 9, .inl (fun _ => 0))), (c3, .inl (cI, 9, .inl (fun _ => 0))), (c6, .inl (cI, 8, .inl (fun _ => 0))), (c8, .inl (cI, 9, .inl (fun _ => 0))), (x4, .inr (3, [.ref z0, .ref z1])), (z0, .inl (cI, 32, .inl (fl 32 (-1) (fun _ => 0)))), (z1, .inl (cI, 32, .inl (fun _ => 0))), (g, .inr (8, [.int 0, .int 0, .ref g2, .ref g3, .ref g4, .ref g5, .ref g6, .ref g7, .ref g8, .ref g9, .ref g10, .int 0, .ref g12, .ref g13, .int 0, .ref g15, .ref g16, .ref g17, .int 0, .ref g19, .ref g20, .ref g21, .ref g22, .ref g23, .ref g24, .ref g25, .ref g26, .ref g27, .ref g28, .int 0, .int 0, .int 0, .int 0, .ref g33, .ref g34, .ref g35, .ref g36, .ref g37, .ref g38, .ref g39, .int 0, .ref g41, .ref g42, .int 0, .ref g44, .ref g45])), (g2, .inl (cI, 8, .inl (fun _ => 0))), (g3, .inl (cI, 8, .inl (fun _ => 0))), (g4, .inl (cI, 8, .inl (fun _ => 0))), (g5, .inl (cI, 8, .inl (fun _ => 0))), (g6, .inl (cI, 8, .inl (fun _ => 0))), (g7, .inl (cI, 8, .inl (fun _ => 0))), (g8, .inl (cI, 8, .inl (fun _ => 0))), (g9, .inl (cI, 8, .inl (fun _ => 0))), (g10, .inl (cI, 64, .inl (fun _ => 0))), (g12, .inl (cI, 10, .inl (fun _ => 0))), (g13, .inl (cI, 10, .inl (fun _ => 0))), (g15, .inl (cI, 8, .inl (fun _ => 0))), (g16, .inl (cI, 32, .inl (fun _ => 0))), (g17, .inl (cI, 32, .inl (fun _ => 0))), (g19, .inl (cI, 8, .inl (fun _ => 0))), (g20, .inl (cI, 8, .inl (fun _ => 0))), (g21, .inl (cI, 8, .inl (fun _ => 0))), (g22, .inl (cI, 8, .inl (fun _ => 0))), (g23, .inl (cI, 8, .inl (fun _ => 0))), (g24, .inl (cI, 8, .inl (fun _ => 0))), (g25, .inl (cI, 8, .inl (fun _ => 0))), (g26, .inl (cI, 8, .inl (fun _ => 0))), (g27, .inl (cI, 8, .inl (fun _ => 0))), (g28, .inl (cI, 8, .inl (fun _ => 0))), (g33, .inl (cI, 8, .inl (fun _ => 0))), (g34, .inl (cI, 8, .inl (fun _ => 0))), (g35, .inl (cI, 8, .inl (fun _ => 0))), (g36, .inl (cI, 8, .inl (fun _ => 0))), (g37, .inl (cJ, 8, .inr (.inl (fun _ => 0)))), (g38, .inl (cI, 8, .inl (fun _ => 0))), (g39, .inl (cI, 8, .inl (fun _ => 0))), (g41, .inl (cI, 9, .inl (fun _ => 0))), (g42, .inl (cI, 192, .inl (fun _ => 0))), (g44, .inl (cI, 8, .inl (fun _ => 0))), (g45, .inl (cI, 8, .inl (fun _ => 0))), (o, .inl (cJ, 1, .inr (.inl (fun _ => 0))))]
/-- what holds along the law -/
def LC (p : Program) (l : Launch) (s : State) (m : MethodId) (c : Code) (b : Nat) (xs : Nat → Int32) (D : va_G) (cI cJ : ClassId) : Prop :=
  p.tables.exec = Jvm.exec ∧ c.code = code ∧ c.maxLocals = 7 ∧ s.vm.findClass RL = some m.cls ∧ (∀ w ∈ lw_tbl, w.before #[Value.ref b] s = true) ∧ eK D cI cJ s ∧ va_X b 6 xs s s.heap ∧ b < s.heap.size ∧ xw (fun q : Nat => s.heap.size ≤ q) s s.heap ∧ l.stackTraces = false
set_option maxHeartbeats 4000000 in
set_option maxRecDepth 100000 in
theorem arm_0 {p : Program} {l : Launch} {e : Env} {s : State} {m : MethodId} {below : List Frame} {meth : Method} {c : Code} {b : Nat} {xs : Nat → Int32} {D : va_G} {cI cJ : ClassId} {Q : State → Prop} (C : LC p l s m c b xs D cI cJ) {x x0 x1 x2 x3 x4 x5 s1 s2 s5 s6 s7 s8 s9 s10 s11 b0 b1 b2 b3 b4 b5 b6 b7 b8 b9 b10 b11 w0 w1 w2 w3 w4 w8 d0 d1 d2 y0 y1 c0 c1 c2 c3 c6 c8 z0 z1 g g2 g3 g4 g5 g6 g7 g8 g9 g10 g12 g13 g15 g16 g17 g19 g20 g21 g22 g23 g24 g25 g26 g27 g28 g33 g34 g35 g36 g37 g38 g39 g41 g42 g44 g45 o : Nat} {H : Heap} {locs : List Loc} (hP : va_P D vwCl (LWS cI cJ x x0 x1 x2 x3 x4 x5 s1 s2 s5 s6 s7 s8 s9 s10 s11 b0 b1 b2 b3 b4 b5 b6 b7 b8 b9 b10 b11 w0 w1 w2 w3 w4 w8 d0 d1 d2 y0 y1 c0 c1 c2 c3 c6 c8 z0 z1 g g2 g3 g4 g5 g6 g7 g8 g9 g10 g12 g13 g15 g16 g17 g19 g20 g21 g22 g23 g24 g25 g26 g27 g28 g33 g34 g35 g36 g37 g38 g39 g41 g42 g44 g45 o) H) (hD : va_D (fun q : Nat => s.heap.size ≤ q) (LWS cI cJ x x0 x1 x2 x3 x4 x5 s1 s2 s5 s6 s7 s8 s9 s10 s11 b0 b1 b2 b3 b4 b5 b6 b7 b8 b9 b10 b11 w0 w1 w2 w3 w4 w8 d0 d1 d2 y0 y1 c0 c1 c2 c3 c6 c8 z0 z1 g g2 g3 g4 g5 g6 g7 g8 g9 g10 g12 g13 g15 g16 g17 g19 g20 g21 g22 g23 g24 g25 g26 g27 g28 g33 g34 g35 g36 g37 g38 g39 g41 g42 g44 g45 o)) (hS : va_S (fun q : Nat => s.heap.size ≤ q) s.heap H locs) {ls : Array Slot} (hl : lv_has ls 7 [(4, .int 0), (3, .ref o), (2, .ref g), (1, .ref x), (0, .ref b)])
    (kend : ∀ (H1 : Heap) (locs1 : List Loc) (ls1 : Array Slot), va_S (fun q : Nat => s.heap.size ≤ q) s.heap H1 locs1 → lv_has ls1 7 [(4, .int 0), (3, .ref o), (2, .ref g), (1, .ref x), (0, .ref b)] → W p l e room_1 s m #[Value.ref b] below meth c H1 locs1 90 1144 Q (F0 m 1651 ls1 [])) : W p l e room_1 s m #[Value.ref b] below meth c H locs 84 1104 Q (F0 m 180 ls []) := by
  obtain ⟨hx, hb, hml, hown, hts, hE, hX, hbl, hXw, hl9⟩ := C
  have hA : ∀ q : Nat, s.heap.size ≤ q → (fun q : Nat => s.heap.size ≤ q) q := fun _ h => h
  have hbA : ¬ (fun q : Nat => s.heap.size ≤ q) b := Nat.not_le.mpr hbl
  have hP : va_P D vwCl [(x, .inr (7, [.ref x0, .ref x1, .ref x2, .ref x3, .ref x4, .ref x5])), (x0, .inr (0, [.ref b0, .ref b1, .ref b2, .ref b3, .ref b4, .ref b5, .ref b6, .ref b7, .ref b8, .ref b9, .ref b10, .ref b11, .int 0, .int 0, .int 0])), (b0, .inl (cI, 8, .inl (fun _ => 0))), (b1, .inl (cI, 8, .inl (fun _ => 0))), (b2, .inl (cI, 8, .inl (fun _ => 0))), (b3, .inl (cI, 8, .inl (fun _ => 0))), (b4, .inl (cI, 8, .inl (fun _ => 0))), (g, .inr (8, [.int 0, .int 0, .ref g2, .ref g3, .ref g4, .ref g5, .ref g6, .ref g7, .ref g8, .ref g9, .ref g10, .int 0, .ref g12, .ref g13, .int 0, .ref g15, .ref g16, .ref g17, .int 0, .ref g19, .ref g20, .ref g21, .ref g22, .ref g23, .ref g24, .ref g25, .ref g26, .ref g27, .ref g28, .int 0, .int 0, .int 0, .int 0, .ref g33, .ref g34, .ref g35, .ref g36, .ref g37, .ref g38, .ref g39, .int 0, .ref g41, .ref g42, .int 0, .ref g44, .ref g45])), (g2, .inl (cI, 8, .inl (fun _ => 0))), (g3, .inl (cI, 8, .inl (fun _ => 0))), (g4, .inl (cI, 8, .inl (fun _ => 0))), (g5, .inl (cI, 8, .inl (fun _ => 0))), (g6, .inl (cI, 8, .inl (fun _ => 0)))] H := k_sub hP [0, 10, 11, 12, 13, 14, 15, 47, 48, 49, 50, 51, 52] rfl
  have hD : va_D (fun q : Nat => s.heap.size ≤ q) [(x, .inr (7, [.ref x0, .ref x1, .ref x2, .ref x3, .ref x4, .ref x5])), (x0, .inr (0, [.ref b0, .ref b1, .ref b2, .ref b3, .ref b4, .ref b5, .ref b6, .ref b7, .ref b8, .ref b9, .ref b10, .ref b11, .int 0, .int 0, .int 0])), (b0, .inl (cI, 8, .inl (fun _ => 0))), (b1, .inl (cI, 8, .inl (fun _ => 0))), (b2, .inl (cI, 8, .inl (fun _ => 0))), (b3, .inl (cI, 8, .inl (fun _ => 0))), (b4, .inl (cI, 8, .inl (fun _ => 0))), (g, .inr (8, [.int 0, .int 0, .ref g2, .ref g3, .ref g4, .ref g5, .ref g6, .ref g7, .ref g8, .ref g9, .ref g10, .int 0, .ref g12, .ref g13, .int 0, .ref g15, .ref g16, .ref g17, .int 0, .ref g19, .ref g20, .ref g21, .ref g22, .ref g23, .ref g24, .ref g25, .ref g26, .ref g27, .ref g28, .int 0, .int 0, .int 0, .int 0, .ref g33, .ref g34, .ref g35, .ref g36, .ref g37, .ref g38, .ref g39, .int 0, .ref g41, .ref g42, .int 0, .ref g44, .ref g45])), (g2, .inl (cI, 8, .inl (fun _ => 0))), (g3, .inl (cI, 8, .inl (fun _ => 0))), (g4, .inl (cI, 8, .inl (fun _ => 0))), (g5, .inl (cI, 8, .inl (fun _ => 0))), (g6, .inl (cI, 8, .inl (fun _ => 0)))] := hD.sub [0, 10, 11, 12, 13, 14, 15, 47, 48, 49, 50, 51, 52] (by decide) rfl
  refine lv_aload_n hx hb dL_law_180 rfl (lv_at hl 3 rfl) ?_
  refine lv_aload_n hx hb dL_law_181 rfl (lv_at hl 4 rfl) ?_
  refine lv_iload hx hb dL_law_182 (lv_at hl 0 rfl) ?_
  refine lv_iconst (v := 1) hx hb dL_law_184 (by decide) ?_
  refine lv_iadd hx hb dL_law_185 ?_
  refine lv_topi (fun v1 ev1 => ?_)
  obtain rfl : v1 = 1 := by rw [ev1]; decide
  refine va_sld hx hb hX hbl hbA hS (by unfold vp_in; decide) dL_law_186 ?_
  refine W.eq (g2 := F0 m 187 ls [.int (xs 1), .ref x]) rfl ?_
  refine lv_aload_n hx hb dL_law_187 rfl (lv_at hl 4 rfl) ?_
  refine lv_iload hx hb dL_law_188 (lv_at hl 0 rfl) ?_
  refine lv_iconst (v := 2) hx hb dL_law_190 (by decide) ?_
  refine lv_iadd hx hb dL_law_191 ?_
  refine lv_topi (fun v2 ev2 => ?_)
  obtain rfl : v2 = 2 := by rw [ev2]; decide
  refine va_sld hx hb hX hbl hbA hS (by unfold vp_in; decide) dL_law_192 ?_
  refine W.eq (g2 := F0 m 193 ls [.int (xs 2), .int (xs 1), .ref x]) rfl ?_
  refine lv_aload_n hx hb dL_law_193 rfl (lv_at hl 4 rfl) ?_
  refine lv_iload hx hb dL_law_194 (lv_at hl 0 rfl) ?_
  refine lv_iconst (v := 3) hx hb dL_law_196 (by decide) ?_
  refine lv_iadd hx hb dL_law_197 ?_
  refine lv_topi (fun v3 ev3 => ?_)
  obtain rfl : v3 = 3 := by rw [ev3]; decide
  refine va_sld hx hb hX hbl hbA hS (by unfold vp_in; decide) dL_law_198 ?_
  refine W.eq (g2 := F0 m 199 ls [.int (xs 3), .int (xs 2), .int (xs 1), .ref x]) rfl ?_
  refine lv_aload_n hx hb dL_law_199 rfl (lv_at hl 4 rfl) ?_
  refine lv_iload hx hb dL_law_200 (lv_at hl 0 rfl) ?_
  refine lv_iconst (v := 4) hx hb dL_law_202 (by decide) ?_
  refine lv_iadd hx hb dL_law_203 ?_
  refine lv_topi (fun v4 ev4 => ?_)
  obtain rfl : v4 = 4 := by rw [ev4]; decide
  refine va_sld hx hb hX hbl hbA hS (by unfold vp_in; decide) dL_law_204 ?_
  refine W.eq (g2 := F0 m 205 ls [.int (xs 4), .int (xs 3), .int (xs 2), .int (xs 1), .ref x]) rfl ?_
  refine lv_aload_n hx hb dL_law_205 rfl (lv_at hl 4 rfl) ?_
  refine lv_iload hx hb dL_law_206 (lv_at hl 0 rfl) ?_
  refine lv_iconst (v := 5) hx hb dL_law_208 (by decide) ?_
  refine lv_iadd hx hb dL_law_209 ?_
  refine lv_topi (fun v5 ev5 => ?_)
  obtain rfl : v5 = 5 := by rw [ev5]; decide
  refine va_sld hx hb hX hbl hbA hS (by unfold vp_in; decide) dL_law_210 ?_
  refine W.eq (g2 := F0 m 211 ls [.int (xs 5), .int (xs 4), .int (xs 3), .int (xs 2), .int (xs 1), .ref x]) rfl ?_
  refine k_i (va_runV (As := [.int (xs 1), .int (xs 2), .int (xs 3), .int (xs 4), .int (xs 5)]) (rest := []) ⟨hx, hb, hml, hown, hts⟩ (f_X7_policy l D cI cJ H.size x x0 x1 x2 x3 x4 x5 b0 b1 b2 b3 b4 b5 b6 b7 b8 b9 b10 b11 (xs 1) (xs 2) (xs 3) (xs 4) (xs 5)) (cwV 5 hts hL_law_X7_policy rfl rfl rfl (by decide +kernel) ⟨Nat.le_of_ble_eq_true rfl, Nat.le_of_ble_eq_true rfl⟩) (k_preV hE hP hD [0, 1, 2, 3, 4, 5, 6] (by decide) rfl 0 rfl rfl) rfl rfl hl.1 rfl (lv_room (Nat.le_of_ble_eq_true rfl)) dL_law_211 ⟨Nat.le_of_ble_eq_true rfl, Nat.le_of_ble_eq_true rfl⟩) hP hD hS hA [0, 1, 2, 3, 4, 5, 6] [7, 8, 9, 10, 11, 12] rfl (wr := [(g, .inr (8, [.int 0, .int 0, .ref g2, .ref g3, .ref g4, .ref g5, .ref g6, .ref g7, .ref g8, .ref g9, .ref g10, .int 0, .ref g12, .ref g13, .int 0, .ref g15, .ref g16, .ref g17, .int 0, .ref g19, .ref g20, .ref g21, .ref g22, .ref g23, .ref g24, .ref g25, .ref g26, .ref g27, .ref g28, .int 0, .int 0, .int 0, .int 0, .ref g33, .ref g34, .ref g35, .ref g36, .ref g37, .ref g38, .ref g39, .int 0, .ref g41, .ref g42, .int 0, .ref g44, .ref g45])), (g2, .inl (cI, 8, .inl (fun _ => 0))), (g3, .inl (cI, 8, .inl (fun _ => 0))), (g4, .inl (cI, 8, .inl (fun _ => 0))), (g5, .inl (cI, 8, .inl (fun _ => 0))), (g6, .inl (cI, 8, .inl (fun _ => 0)))]) rfl (by decide) (by decide) (fun r6 u H locs hw7 hP hD hS => ?_)
  obtain ⟨hw7, rfl⟩ := hw7
  have hP : va_P D vwCl [(g, .inr (8, [.int 0, .int 0, .ref g2, .ref g3, .ref g4, .ref g5, .ref g6, .ref g7, .ref g8, .ref g9, .ref g10, .int 0, .ref g12, .ref g13, .int 0, .ref g15, .ref g16, .ref g17, .int 0, .ref g19, .ref g20, .ref g21, .ref g22, .ref g23, .ref g24, .ref g25, .ref g26, .ref g27, .ref g28, .int 0, .int 0, .int 0, .int 0, .ref g33, .ref g34, .ref g35, .ref g36, .ref g37, .ref g38, .ref g39, .int 0, .ref g41, .ref g42, .int 0, .ref g44, .ref g45])), (g2, .inl (cI, 8, .inl (fun _ => 0))), (g3, .inl (cI, 8, .inl (fun _ => 0))), (g4, .inl (cI, 8, .inl (fun _ => 0))), (g5, .inl (cI, 8, .inl (fun _ => 0))), (g6, .inl (cI, 8, .inl (fun _ => 0)))] H := hP
  have hD : va_D (fun q : Nat => s.heap.size ≤ q) [(g, .inr (8, [.int 0, .int 0, .ref g2, .ref g3, .ref g4, .ref g5, .ref g6, .ref g7, .ref g8, .ref g9, .ref g10, .int 0, .ref g12, .ref g13, .int 0, .ref g15, .ref g16, .ref g17, .int 0, .ref g19, .ref g20, .ref g21, .ref g22, .ref g23, .ref g24, .ref g25, .ref g26, .ref g27, .ref g28, .int 0, .int 0, .int 0, .int 0, .ref g33, .ref g34, .ref g35, .ref g36, .ref g37, .ref g38, .ref g39, .int 0, .ref g41, .ref g42, .int 0, .ref g44, .ref g45])), (g2, .inl (cI, 8, .inl (fun _ => 0))), (g3, .inl (cI, 8, .inl (fun _ => 0))), (g4, .inl (cI, 8, .inl (fun _ => 0))), (g5, .inl (cI, 8, .inl (fun _ => 0))), (g6, .inl (cI, 8, .inl (fun _ => 0)))] := hD
  refine lv_aload_n hx hb dL_law_214 rfl (lv_at hl 2 rfl) ?_
  refine lv_aload_n hx hb dL_law_215 rfl (lv_at hl 4 rfl) ?_
  refine lv_iload hx hb dL_law_216 (lv_at hl 0 rfl) ?_
  refine lv_iconst (v := 1) hx hb dL_law_218 (by decide) ?_
  refine lv_iadd hx hb dL_law_219 ?_
  refine lv_topi (fun v8 ev8 => ?_)
  obtain rfl : v8 = 1 := by rw [ev8]; decide
  refine va_sld hx hb hX hbl hbA hS (by unfold vp_in; decide) dL_law_220 ?_
  refine W.eq (g2 := F0 m 221 ls [.int (xs 1), .ref g, .int r6]) rfl ?_
  refine lv_aload_n hx hb dL_law_221 rfl (lv_at hl 4 rfl) ?_
  refine lv_iload hx hb dL_law_222 (lv_at hl 0 rfl) ?_
  refine lv_iconst (v := 2) hx hb dL_law_224 (by decide) ?_
  refine lv_iadd hx hb dL_law_225 ?_
  refine lv_topi (fun v9 ev9 => ?_)
  obtain rfl : v9 = 2 := by rw [ev9]; decide
  refine va_sld hx hb hX hbl hbA hS (by unfold vp_in; decide) dL_law_226 ?_
  refine W.eq (g2 := F0 m 227 ls [.int (xs 2), .int (xs 1), .ref g, .int r6]) rfl ?_
  refine lv_aload_n hx hb dL_law_227 rfl (lv_at hl 4 rfl) ?_
  refine lv_iload hx hb dL_law_228 (lv_at hl 0 rfl) ?_
  refine lv_iconst (v := 3) hx hb dL_law_230 (by decide) ?_
  refine lv_iadd hx hb dL_law_231 ?_
  refine lv_topi (fun v10 ev10 => ?_)
  obtain rfl : v10 = 3 := by rw [ev10]; decide
  refine va_sld hx hb hX hbl hbA hS (by unfold vp_in; decide) dL_law_232 ?_
  refine W.eq (g2 := F0 m 233 ls [.int (xs 3), .int (xs 2), .int (xs 1), .ref g, .int r6]) rfl ?_
  refine lv_aload_n hx hb dL_law_233 rfl (lv_at hl 4 rfl) ?_
  refine lv_iload hx hb dL_law_234 (lv_at hl 0 rfl) ?_
  refine lv_iconst (v := 4) hx hb dL_law_236 (by decide) ?_
  refine lv_iadd hx hb dL_law_237 ?_
  refine lv_topi (fun v11 ev11 => ?_)
  obtain rfl : v11 = 4 := by rw [ev11]; decide
  refine va_sld hx hb hX hbl hbA hS (by unfold vp_in; decide) dL_law_238 ?_
  refine W.eq (g2 := F0 m 239 ls [.int (xs 4), .int (xs 3), .int (xs 2), .int (xs 1), .ref g, .int r6]) rfl ?_
  refine lv_aload_n hx hb dL_law_239 rfl (lv_at hl 4 rfl) ?_
  refine lv_iload hx hb dL_law_240 (lv_at hl 0 rfl) ?_
  refine lv_iconst (v := 5) hx hb dL_law_242 (by decide) ?_
  refine lv_iadd hx hb dL_law_243 ?_
  refine lv_topi (fun v12 ev12 => ?_)
  obtain rfl : v12 = 5 := by rw [ev12]; decide
  refine va_sld hx hb hX hbl hbA hS (by unfold vp_in; decide) dL_law_244 ?_
  refine W.eq (g2 := F0 m 245 ls [.int (xs 5), .int (xs 4), .int (xs 3), .int (xs 2), .int (xs 1), .ref g, .int r6]) rfl ?_
  refine k_i (va_runV (As := [.int (xs 1), .int (xs 2), .int (xs 3), .int (xs 4), .int (xs 5)]) (rest := [.int r6]) ⟨hx, hb, hml, hown, hts⟩ (f_X8_policy l D cI cJ H.size g g2 g3 g4 g5 g6 g7 g8 g9 g10 g12 g13 g15 g16 g17 g19 g20 g21 g22 g23 g24 g25 g26 g27 g28 g33 g34 g35 g36 g37 g38 g39 g41 g42 g44 g45 (xs 1) (xs 2) (xs 3) (xs 4) (xs 5)) (cwV 5 hts hL_law_X8_policy rfl rfl rfl (by decide +kernel) ⟨Nat.le_of_ble_eq_true rfl, Nat.le_of_ble_eq_true rfl⟩) (k_preV hE hP hD [0, 1, 2, 3, 4, 5] (by decide) rfl 0 rfl rfl) rfl rfl hl.1 rfl (lv_room (Nat.le_of_ble_eq_true rfl)) dL_law_245 ⟨Nat.le_of_ble_eq_true rfl, Nat.le_of_ble_eq_true rfl⟩) hP hD hS hA [0, 1, 2, 3, 4, 5] [] rfl (wr := []) rfl (by decide) (by decide) (fun r13 u H locs hw14 hP hD hS => ?_)
  obtain ⟨hw14, rfl⟩ := hw14
  have hP : va_P D vwCl [] H := hP
  have hD : va_D (fun q : Nat => s.heap.size ≤ q) [] := hD
  refine lv_icmp_eq (tgt := 1651) hx hb dL_law_248 (by decide) (fun _ => ?_) (fun c15 => absurd (hw7.trans hw14.symm) c15)
  refine W.widen (k := 90) (n := 1144) (Nat.le_of_ble_eq_true rfl) (Nat.le_of_ble_eq_true rfl) ?_
  exact kend _ _ _ hS (lv_sub hl [0, 1, 2, 3, 4] rfl)
set_option maxHeartbeats 4000000 in
set_option maxRecDepth 100000 in
theorem arm_1 {p : Program} {l : Launch} {e : Env} {s : State} {m : MethodId} {below : List Frame} {meth : Method} {c : Code} {b : Nat} {xs : Nat → Int32} {D : va_G} {cI cJ : ClassId} {Q : State → Prop} (C : LC p l s m c b xs D cI cJ) {x x0 x1 x2 x3 x4 x5 s1 s2 s5 s6 s7 s8 s9 s10 s11 b0 b1 b2 b3 b4 b5 b6 b7 b8 b9 b10 b11 w0 w1 w2 w3 w4 w8 d0 d1 d2 y0 y1 c0 c1 c2 c3 c6 c8 z0 z1 g g2 g3 g4 g5 g6 g7 g8 g9 g10 g12 g13 g15 g16 g17 g19 g20 g21 g22 g23 g24 g25 g26 g27 g28 g33 g34 g35 g36 g37 g38 g39 g41 g42 g44 g45 o : Nat} {H : Heap} {locs : List Loc} (hP : va_P D vwCl (LWS cI cJ x x0 x1 x2 x3 x4 x5 s1 s2 s5 s6 s7 s8 s9 s10 s11 b0 b1 b2 b3 b4 b5 b6 b7 b8 b9 b10 b11 w0 w1 w2 w3 w4 w8 d0 d1 d2 y0 y1 c0 c1 c2 c3 c6 c8 z0 z1 g g2 g3 g4 g5 g6 g7 g8 g9 g10 g12 g13 g15 g16 g17 g19 g20 g21 g22 g23 g24 g25 g26 g27 g28 g33 g34 g35 g36 g37 g38 g39 g41 g42 g44 g45 o) H) (hD : va_D (fun q : Nat => s.heap.size ≤ q) (LWS cI cJ x x0 x1 x2 x3 x4 x5 s1 s2 s5 s6 s7 s8 s9 s10 s11 b0 b1 b2 b3 b4 b5 b6 b7 b8 b9 b10 b11 w0 w1 w2 w3 w4 w8 d0 d1 d2 y0 y1 c0 c1 c2 c3 c6 c8 z0 z1 g g2 g3 g4 g5 g6 g7 g8 g9 g10 g12 g13 g15 g16 g17 g19 g20 g21 g22 g23 g24 g25 g26 g27 g28 g33 g34 g35 g36 g37 g38 g39 g41 g42 g44 g45 o)) (hS : va_S (fun q : Nat => s.heap.size ≤ q) s.heap H locs) {ls : Array Slot} (hl : lv_has ls 7 [(4, .int 0), (3, .ref o), (2, .ref g), (1, .ref x), (0, .ref b)])
    (kend : ∀ (H1 : Heap) (locs1 : List Loc) (ls1 : Array Slot), va_S (fun q : Nat => s.heap.size ≤ q) s.heap H1 locs1 → lv_has ls1 7 [(4, .int 0), (3, .ref o), (2, .ref g), (1, .ref x), (0, .ref b)] → W p l e room_1 s m #[Value.ref b] below meth c H1 locs1 90 1144 Q (F0 m 1651 ls1 [])) : W p l e room_1 s m #[Value.ref b] below meth c H locs 84 1104 Q (F0 m 253 ls []) := by
  obtain ⟨hx, hb, hml, hown, hts, hE, hX, hbl, hXw, hl9⟩ := C
  have hA : ∀ q : Nat, s.heap.size ≤ q → (fun q : Nat => s.heap.size ≤ q) q := fun _ h => h
  have hbA : ¬ (fun q : Nat => s.heap.size ≤ q) b := Nat.not_le.mpr hbl
  have hP : va_P D vwCl [(x, .inr (7, [.ref x0, .ref x1, .ref x2, .ref x3, .ref x4, .ref x5])), (x0, .inr (0, [.ref b0, .ref b1, .ref b2, .ref b3, .ref b4, .ref b5, .ref b6, .ref b7, .ref b8, .ref b9, .ref b10, .ref b11, .int 0, .int 0, .int 0])), (g, .inr (8, [.int 0, .int 0, .ref g2, .ref g3, .ref g4, .ref g5, .ref g6, .ref g7, .ref g8, .ref g9, .ref g10, .int 0, .ref g12, .ref g13, .int 0, .ref g15, .ref g16, .ref g17, .int 0, .ref g19, .ref g20, .ref g21, .ref g22, .ref g23, .ref g24, .ref g25, .ref g26, .ref g27, .ref g28, .int 0, .int 0, .int 0, .int 0, .ref g33, .ref g34, .ref g35, .ref g36, .ref g37, .ref g38, .ref g39, .int 0, .ref g41, .ref g42, .int 0, .ref g44, .ref g45]))] H := k_sub hP [0, 10, 47] rfl
  have hD : va_D (fun q : Nat => s.heap.size ≤ q) [(x, .inr (7, [.ref x0, .ref x1, .ref x2, .ref x3, .ref x4, .ref x5])), (x0, .inr (0, [.ref b0, .ref b1, .ref b2, .ref b3, .ref b4, .ref b5, .ref b6, .ref b7, .ref b8, .ref b9, .ref b10, .ref b11, .int 0, .int 0, .int 0])), (g, .inr (8, [.int 0, .int 0, .ref g2, .ref g3, .ref g4, .ref g5, .ref g6, .ref g7, .ref g8, .ref g9, .ref g10, .int 0, .ref g12, .ref g13, .int 0, .ref g15, .ref g16, .ref g17, .int 0, .ref g19, .ref g20, .ref g21, .ref g22, .ref g23, .ref g24, .ref g25, .ref g26, .ref g27, .ref g28, .int 0, .int 0, .int 0, .int 0, .ref g33, .ref g34, .ref g35, .ref g36, .ref g37, .ref g38, .ref g39, .int 0, .ref g41, .ref g42, .int 0, .ref g44, .ref g45]))] := hD.sub [0, 10, 47] (by decide) rfl
  refine lv_aload_n hx hb dL_law_253 rfl (lv_at hl 3 rfl) ?_
  refine lv_aload_n hx hb dL_law_254 rfl (lv_at hl 4 rfl) ?_
  refine lv_iload hx hb dL_law_255 (lv_at hl 0 rfl) ?_
  refine lv_iconst (v := 1) hx hb dL_law_257 (by decide) ?_
  refine lv_iadd hx hb dL_law_258 ?_
  refine lv_topi (fun v1 ev1 => ?_)
  obtain rfl : v1 = 1 := by rw [ev1]; decide
  refine va_sld hx hb hX hbl hbA hS (by unfold vp_in; decide) dL_law_259 ?_
  refine W.eq (g2 := F0 m 260 ls [.int (xs 1), .ref x]) rfl ?_
  refine lv_aload_n hx hb dL_law_260 rfl (lv_at hl 4 rfl) ?_
  refine lv_iload hx hb dL_law_261 (lv_at hl 0 rfl) ?_
  refine lv_iconst (v := 2) hx hb dL_law_263 (by decide) ?_
  refine lv_iadd hx hb dL_law_264 ?_
  refine lv_topi (fun v2 ev2 => ?_)
  obtain rfl : v2 = 2 := by rw [ev2]; decide
  refine va_sld hx hb hX hbl hbA hS (by unfold vp_in; decide) dL_law_265 ?_
  refine W.eq (g2 := F0 m 266 ls [.int (xs 2), .int (xs 1), .ref x]) rfl ?_
  refine lv_aload_n hx hb dL_law_266 rfl (lv_at hl 4 rfl) ?_
  refine lv_iload hx hb dL_law_267 (lv_at hl 0 rfl) ?_
  refine lv_iconst (v := 3) hx hb dL_law_269 (by decide) ?_
  refine lv_iadd hx hb dL_law_270 ?_
  refine lv_topi (fun v3 ev3 => ?_)
  obtain rfl : v3 = 3 := by rw [ev3]; decide
  refine va_sld hx hb hX hbl hbA hS (by unfold vp_in; decide) dL_law_271 ?_
  refine W.eq (g2 := F0 m 272 ls [.int (xs 3), .int (xs 2), .int (xs 1), .ref x]) rfl ?_
  refine k_i (va_runV (As := [.int (xs 1), .int (xs 2), .int (xs 3)]) (rest := []) ⟨hx, hb, hml, hown, hts⟩ (f_X7_clause l D cI cJ H.size x x0 x1 x2 x3 x4 x5 b0 b1 b2 b3 b4 b5 b6 b7 b8 b9 b10 b11 (xs 1) (xs 2) (xs 3)) (cwV 3 hts hL_law_X7_clause rfl rfl rfl (by decide +kernel) ⟨Nat.le_of_ble_eq_true rfl, Nat.le_of_ble_eq_true rfl⟩) (k_preV hE hP hD [0, 1] (by decide) rfl 0 rfl rfl) rfl rfl hl.1 rfl (lv_room (Nat.le_of_ble_eq_true rfl)) dL_law_272 ⟨Nat.le_of_ble_eq_true rfl, Nat.le_of_ble_eq_true rfl⟩) hP hD hS hA [0, 1] [2] rfl (wr := [(g, .inr (8, [.int 0, .int 0, .ref g2, .ref g3, .ref g4, .ref g5, .ref g6, .ref g7, .ref g8, .ref g9, .ref g10, .int 0, .ref g12, .ref g13, .int 0, .ref g15, .ref g16, .ref g17, .int 0, .ref g19, .ref g20, .ref g21, .ref g22, .ref g23, .ref g24, .ref g25, .ref g26, .ref g27, .ref g28, .int 0, .int 0, .int 0, .int 0, .ref g33, .ref g34, .ref g35, .ref g36, .ref g37, .ref g38, .ref g39, .int 0, .ref g41, .ref g42, .int 0, .ref g44, .ref g45]))]) rfl (by decide) (by decide) (fun r4 u H locs hw5 hP hD hS => ?_)
  obtain ⟨rfl, rfl⟩ := hw5
  have hP : va_P D vwCl [(g, .inr (8, [.int 0, .int 0, .ref g2, .ref g3, .ref g4, .ref g5, .ref g6, .ref g7, .ref g8, .ref g9, .ref g10, .int 0, .ref g12, .ref g13, .int 0, .ref g15, .ref g16, .ref g17, .int 0, .ref g19, .ref g20, .ref g21, .ref g22, .ref g23, .ref g24, .ref g25, .ref g26, .ref g27, .ref g28, .int 0, .int 0, .int 0, .int 0, .ref g33, .ref g34, .ref g35, .ref g36, .ref g37, .ref g38, .ref g39, .int 0, .ref g41, .ref g42, .int 0, .ref g44, .ref g45]))] H := hP
  have hD : va_D (fun q : Nat => s.heap.size ≤ q) [(g, .inr (8, [.int 0, .int 0, .ref g2, .ref g3, .ref g4, .ref g5, .ref g6, .ref g7, .ref g8, .ref g9, .ref g10, .int 0, .ref g12, .ref g13, .int 0, .ref g15, .ref g16, .ref g17, .int 0, .ref g19, .ref g20, .ref g21, .ref g22, .ref g23, .ref g24, .ref g25, .ref g26, .ref g27, .ref g28, .int 0, .int 0, .int 0, .int 0, .ref g33, .ref g34, .ref g35, .ref g36, .ref g37, .ref g38, .ref g39, .int 0, .ref g41, .ref g42, .int 0, .ref g44, .ref g45]))] := hD
  refine lv_aload_n hx hb dL_law_275 rfl (lv_at hl 2 rfl) ?_
  refine lv_aload_n hx hb dL_law_276 rfl (lv_at hl 4 rfl) ?_
  refine lv_iload hx hb dL_law_277 (lv_at hl 0 rfl) ?_
  refine lv_iconst (v := 1) hx hb dL_law_279 (by decide) ?_
  refine lv_iadd hx hb dL_law_280 ?_
  refine lv_topi (fun v6 ev6 => ?_)
  obtain rfl : v6 = 1 := by rw [ev6]; decide
  refine va_sld hx hb hX hbl hbA hS (by unfold vp_in; decide) dL_law_281 ?_
  refine W.eq (g2 := F0 m 282 ls [.int (xs 1), .ref g, .int 0]) rfl ?_
  refine lv_aload_n hx hb dL_law_282 rfl (lv_at hl 4 rfl) ?_
  refine lv_iload hx hb dL_law_283 (lv_at hl 0 rfl) ?_
  refine lv_iconst (v := 2) hx hb dL_law_285 (by decide) ?_
  refine lv_iadd hx hb dL_law_286 ?_
  refine lv_topi (fun v7 ev7 => ?_)
  obtain rfl : v7 = 2 := by rw [ev7]; decide
  refine va_sld hx hb hX hbl hbA hS (by unfold vp_in; decide) dL_law_287 ?_
  refine W.eq (g2 := F0 m 288 ls [.int (xs 2), .int (xs 1), .ref g, .int 0]) rfl ?_
  refine lv_aload_n hx hb dL_law_288 rfl (lv_at hl 4 rfl) ?_
  refine lv_iload hx hb dL_law_289 (lv_at hl 0 rfl) ?_
  refine lv_iconst (v := 3) hx hb dL_law_291 (by decide) ?_
  refine lv_iadd hx hb dL_law_292 ?_
  refine lv_topi (fun v8 ev8 => ?_)
  obtain rfl : v8 = 3 := by rw [ev8]; decide
  refine va_sld hx hb hX hbl hbA hS (by unfold vp_in; decide) dL_law_293 ?_
  refine W.eq (g2 := F0 m 294 ls [.int (xs 3), .int (xs 2), .int (xs 1), .ref g, .int 0]) rfl ?_
  refine k_i (va_runV (As := [.int (xs 1), .int (xs 2), .int (xs 3)]) (rest := [.int 0]) ⟨hx, hb, hml, hown, hts⟩ (f_X8_clause l D cI cJ H.size g g2 g3 g4 g5 g6 g7 g8 g9 g10 g12 g13 g15 g16 g17 g19 g20 g21 g22 g23 g24 g25 g26 g27 g28 g33 g34 g35 g36 g37 g38 g39 g41 g42 g44 g45 (xs 1) (xs 2) (xs 3)) (cwV 3 hts hL_law_X8_clause rfl rfl rfl (by decide +kernel) ⟨Nat.le_of_ble_eq_true rfl, Nat.le_of_ble_eq_true rfl⟩) (k_preV hE hP hD [0] (by decide) rfl 0 rfl rfl) rfl rfl hl.1 rfl (lv_room (Nat.le_of_ble_eq_true rfl)) dL_law_294 ⟨Nat.le_of_ble_eq_true rfl, Nat.le_of_ble_eq_true rfl⟩) hP hD hS hA [0] [] rfl (wr := []) rfl (by decide) (by decide) (fun r9 u H locs hw10 hP hD hS => ?_)
  obtain ⟨rfl, rfl⟩ := hw10
  have hP : va_P D vwCl [] H := hP
  have hD : va_D (fun q : Nat => s.heap.size ≤ q) [] := hD
  refine lv_icmp_eq (tgt := 1651) hx hb dL_law_297 (by decide) (fun _ => ?_) (fun c11 => absurd (by decide) c11)
  refine W.widen (k := 90) (n := 1144) (Nat.le_of_ble_eq_true rfl) (Nat.le_of_ble_eq_true rfl) ?_
  exact kend _ _ _ hS (lv_sub hl [0, 1, 2, 3, 4] rfl)
set_option maxHeartbeats 4000000 in
set_option maxRecDepth 100000 in
theorem arm_2 {p : Program} {l : Launch} {e : Env} {s : State} {m : MethodId} {below : List Frame} {meth : Method} {c : Code} {b : Nat} {xs : Nat → Int32} {D : va_G} {cI cJ : ClassId} {Q : State → Prop} (C : LC p l s m c b xs D cI cJ) {x x0 x1 x2 x3 x4 x5 s1 s2 s5 s6 s7 s8 s9 s10 s11 b0 b1 b2 b3 b4 b5 b6 b7 b8 b9 b10 b11 w0 w1 w2 w3 w4 w8 d0 d1 d2 y0 y1 c0 c1 c2 c3 c6 c8 z0 z1 g g2 g3 g4 g5 g6 g7 g8 g9 g10 g12 g13 g15 g16 g17 g19 g20 g21 g22 g23 g24 g25 g26 g27 g28 g33 g34 g35 g36 g37 g38 g39 g41 g42 g44 g45 o : Nat} {H : Heap} {locs : List Loc} (hP : va_P D vwCl (LWS cI cJ x x0 x1 x2 x3 x4 x5 s1 s2 s5 s6 s7 s8 s9 s10 s11 b0 b1 b2 b3 b4 b5 b6 b7 b8 b9 b10 b11 w0 w1 w2 w3 w4 w8 d0 d1 d2 y0 y1 c0 c1 c2 c3 c6 c8 z0 z1 g g2 g3 g4 g5 g6 g7 g8 g9 g10 g12 g13 g15 g16 g17 g19 g20 g21 g22 g23 g24 g25 g26 g27 g28 g33 g34 g35 g36 g37 g38 g39 g41 g42 g44 g45 o) H) (hD : va_D (fun q : Nat => s.heap.size ≤ q) (LWS cI cJ x x0 x1 x2 x3 x4 x5 s1 s2 s5 s6 s7 s8 s9 s10 s11 b0 b1 b2 b3 b4 b5 b6 b7 b8 b9 b10 b11 w0 w1 w2 w3 w4 w8 d0 d1 d2 y0 y1 c0 c1 c2 c3 c6 c8 z0 z1 g g2 g3 g4 g5 g6 g7 g8 g9 g10 g12 g13 g15 g16 g17 g19 g20 g21 g22 g23 g24 g25 g26 g27 g28 g33 g34 g35 g36 g37 g38 g39 g41 g42 g44 g45 o)) (hS : va_S (fun q : Nat => s.heap.size ≤ q) s.heap H locs) {ls : Array Slot} (hl : lv_has ls 7 [(4, .int 0), (3, .ref o), (2, .ref g), (1, .ref x), (0, .ref b)])
    (kend : ∀ (H1 : Heap) (locs1 : List Loc) (ls1 : Array Slot), va_S (fun q : Nat => s.heap.size ≤ q) s.heap H1 locs1 → lv_has ls1 7 [(4, .int 0), (3, .ref o), (2, .ref g), (1, .ref x), (0, .ref b)] → W p l e room_1 s m #[Value.ref b] below meth c H1 locs1 90 1144 Q (F0 m 1651 ls1 [])) : W p l e room_1 s m #[Value.ref b] below meth c H locs 84 1104 Q (F0 m 302 ls []) := by
  obtain ⟨hx, hb, hml, hown, hts, hE, hX, hbl, hXw, hl9⟩ := C
  have hA : ∀ q : Nat, s.heap.size ≤ q → (fun q : Nat => s.heap.size ≤ q) q := fun _ h => h
  have hbA : ¬ (fun q : Nat => s.heap.size ≤ q) b := Nat.not_le.mpr hbl
  have hP : va_P D vwCl [(x, .inr (7, [.ref x0, .ref x1, .ref x2, .ref x3, .ref x4, .ref x5])), (x0, .inr (0, [.ref b0, .ref b1, .ref b2, .ref b3, .ref b4, .ref b5, .ref b6, .ref b7, .ref b8, .ref b9, .ref b10, .ref b11, .int 0, .int 0, .int 0])), (g, .inr (8, [.int 0, .int 0, .ref g2, .ref g3, .ref g4, .ref g5, .ref g6, .ref g7, .ref g8, .ref g9, .ref g10, .int 0, .ref g12, .ref g13, .int 0, .ref g15, .ref g16, .ref g17, .int 0, .ref g19, .ref g20, .ref g21, .ref g22, .ref g23, .ref g24, .ref g25, .ref g26, .ref g27, .ref g28, .int 0, .int 0, .int 0, .int 0, .ref g33, .ref g34, .ref g35, .ref g36, .ref g37, .ref g38, .ref g39, .int 0, .ref g41, .ref g42, .int 0, .ref g44, .ref g45]))] H := k_sub hP [0, 10, 47] rfl
  have hD : va_D (fun q : Nat => s.heap.size ≤ q) [(x, .inr (7, [.ref x0, .ref x1, .ref x2, .ref x3, .ref x4, .ref x5])), (x0, .inr (0, [.ref b0, .ref b1, .ref b2, .ref b3, .ref b4, .ref b5, .ref b6, .ref b7, .ref b8, .ref b9, .ref b10, .ref b11, .int 0, .int 0, .int 0])), (g, .inr (8, [.int 0, .int 0, .ref g2, .ref g3, .ref g4, .ref g5, .ref g6, .ref g7, .ref g8, .ref g9, .ref g10, .int 0, .ref g12, .ref g13, .int 0, .ref g15, .ref g16, .ref g17, .int 0, .ref g19, .ref g20, .ref g21, .ref g22, .ref g23, .ref g24, .ref g25, .ref g26, .ref g27, .ref g28, .int 0, .int 0, .int 0, .int 0, .ref g33, .ref g34, .ref g35, .ref g36, .ref g37, .ref g38, .ref g39, .int 0, .ref g41, .ref g42, .int 0, .ref g44, .ref g45]))] := hD.sub [0, 10, 47] (by decide) rfl
  refine lv_aload_n hx hb dL_law_302 rfl (lv_at hl 3 rfl) ?_
  refine lv_aload_n hx hb dL_law_303 rfl (lv_at hl 4 rfl) ?_
  refine lv_iload hx hb dL_law_304 (lv_at hl 0 rfl) ?_
  refine lv_iconst (v := 1) hx hb dL_law_306 (by decide) ?_
  refine lv_iadd hx hb dL_law_307 ?_
  refine lv_topi (fun v1 ev1 => ?_)
  obtain rfl : v1 = 1 := by rw [ev1]; decide
  refine va_sld hx hb hX hbl hbA hS (by unfold vp_in; decide) dL_law_308 ?_
  refine W.eq (g2 := F0 m 309 ls [.int (xs 1), .ref x]) rfl ?_
  refine lv_aload_n hx hb dL_law_309 rfl (lv_at hl 4 rfl) ?_
  refine lv_iload hx hb dL_law_310 (lv_at hl 0 rfl) ?_
  refine lv_iconst (v := 2) hx hb dL_law_312 (by decide) ?_
  refine lv_iadd hx hb dL_law_313 ?_
  refine lv_topi (fun v2 ev2 => ?_)
  obtain rfl : v2 = 2 := by rw [ev2]; decide
  refine va_sld hx hb hX hbl hbA hS (by unfold vp_in; decide) dL_law_314 ?_
  refine W.eq (g2 := F0 m 315 ls [.int (xs 2), .int (xs 1), .ref x]) rfl ?_
  refine k_i (va_runV (As := [.int (xs 1), .int (xs 2)]) (rest := []) ⟨hx, hb, hml, hown, hts⟩ (f_X7_limit l D cI cJ H.size x x0 x1 x2 x3 x4 x5 b0 b1 b2 b3 b4 b5 b6 b7 b8 b9 b10 b11 (xs 1) (xs 2)) (cwV 2 hts hL_law_X7_limit rfl rfl rfl (by decide +kernel) ⟨Nat.le_of_ble_eq_true rfl, Nat.le_of_ble_eq_true rfl⟩) (k_preV hE hP hD [0, 1] (by decide) rfl 0 rfl rfl) rfl rfl hl.1 rfl (lv_room (Nat.le_of_ble_eq_true rfl)) dL_law_315 ⟨Nat.le_of_ble_eq_true rfl, Nat.le_of_ble_eq_true rfl⟩) hP hD hS hA [0, 1] [2] rfl (wr := [(g, .inr (8, [.int 0, .int 0, .ref g2, .ref g3, .ref g4, .ref g5, .ref g6, .ref g7, .ref g8, .ref g9, .ref g10, .int 0, .ref g12, .ref g13, .int 0, .ref g15, .ref g16, .ref g17, .int 0, .ref g19, .ref g20, .ref g21, .ref g22, .ref g23, .ref g24, .ref g25, .ref g26, .ref g27, .ref g28, .int 0, .int 0, .int 0, .int 0, .ref g33, .ref g34, .ref g35, .ref g36, .ref g37, .ref g38, .ref g39, .int 0, .ref g41, .ref g42, .int 0, .ref g44, .ref g45]))]) rfl (by decide) (by decide) (fun r3 u H locs hw4 hP hD hS => ?_)
  obtain ⟨rfl, rfl⟩ := hw4
  have hP : va_P D vwCl [(g, .inr (8, [.int 0, .int 0, .ref g2, .ref g3, .ref g4, .ref g5, .ref g6, .ref g7, .ref g8, .ref g9, .ref g10, .int 0, .ref g12, .ref g13, .int 0, .ref g15, .ref g16, .ref g17, .int 0, .ref g19, .ref g20, .ref g21, .ref g22, .ref g23, .ref g24, .ref g25, .ref g26, .ref g27, .ref g28, .int 0, .int 0, .int 0, .int 0, .ref g33, .ref g34, .ref g35, .ref g36, .ref g37, .ref g38, .ref g39, .int 0, .ref g41, .ref g42, .int 0, .ref g44, .ref g45]))] H := hP
  have hD : va_D (fun q : Nat => s.heap.size ≤ q) [(g, .inr (8, [.int 0, .int 0, .ref g2, .ref g3, .ref g4, .ref g5, .ref g6, .ref g7, .ref g8, .ref g9, .ref g10, .int 0, .ref g12, .ref g13, .int 0, .ref g15, .ref g16, .ref g17, .int 0, .ref g19, .ref g20, .ref g21, .ref g22, .ref g23, .ref g24, .ref g25, .ref g26, .ref g27, .ref g28, .int 0, .int 0, .int 0, .int 0, .ref g33, .ref g34, .ref g35, .ref g36, .ref g37, .ref g38, .ref g39, .int 0, .ref g41, .ref g42, .int 0, .ref g44, .ref g45]))] := hD
  refine lv_aload_n hx hb dL_law_318 rfl (lv_at hl 2 rfl) ?_
  refine lv_aload_n hx hb dL_law_319 rfl (lv_at hl 4 rfl) ?_
  refine lv_iload hx hb dL_law_320 (lv_at hl 0 rfl) ?_
  refine lv_iconst (v := 1) hx hb dL_law_322 (by decide) ?_
  refine lv_iadd hx hb dL_law_323 ?_
  refine lv_topi (fun v5 ev5 => ?_)
  obtain rfl : v5 = 1 := by rw [ev5]; decide
  refine va_sld hx hb hX hbl hbA hS (by unfold vp_in; decide) dL_law_324 ?_
  refine W.eq (g2 := F0 m 325 ls [.int (xs 1), .ref g, .int 0]) rfl ?_
  refine lv_aload_n hx hb dL_law_325 rfl (lv_at hl 4 rfl) ?_
  refine lv_iload hx hb dL_law_326 (lv_at hl 0 rfl) ?_
  refine lv_iconst (v := 2) hx hb dL_law_328 (by decide) ?_
  refine lv_iadd hx hb dL_law_329 ?_
  refine lv_topi (fun v6 ev6 => ?_)
  obtain rfl : v6 = 2 := by rw [ev6]; decide
  refine va_sld hx hb hX hbl hbA hS (by unfold vp_in; decide) dL_law_330 ?_
  refine W.eq (g2 := F0 m 331 ls [.int (xs 2), .int (xs 1), .ref g, .int 0]) rfl ?_
  refine k_i (va_runV (As := [.int (xs 1), .int (xs 2)]) (rest := [.int 0]) ⟨hx, hb, hml, hown, hts⟩ (f_X8_limit l D cI cJ H.size g g2 g3 g4 g5 g6 g7 g8 g9 g10 g12 g13 g15 g16 g17 g19 g20 g21 g22 g23 g24 g25 g26 g27 g28 g33 g34 g35 g36 g37 g38 g39 g41 g42 g44 g45 (xs 1) (xs 2)) (cwV 2 hts hL_law_X8_limit rfl rfl rfl (by decide +kernel) ⟨Nat.le_of_ble_eq_true rfl, Nat.le_of_ble_eq_true rfl⟩) (k_preV hE hP hD [0] (by decide) rfl 0 rfl rfl) rfl rfl hl.1 rfl (lv_room (Nat.le_of_ble_eq_true rfl)) dL_law_331 ⟨Nat.le_of_ble_eq_true rfl, Nat.le_of_ble_eq_true rfl⟩) hP hD hS hA [0] [] rfl (wr := []) rfl (by decide) (by decide) (fun r7 u H locs hw8 hP hD hS => ?_)
  obtain ⟨rfl, rfl⟩ := hw8
  have hP : va_P D vwCl [] H := hP
  have hD : va_D (fun q : Nat => s.heap.size ≤ q) [] := hD
  refine lv_icmp_eq (tgt := 1651) hx hb dL_law_334 (by decide) (fun _ => ?_) (fun c9 => absurd (by decide) c9)
  refine W.widen (k := 90) (n := 1144) (Nat.le_of_ble_eq_true rfl) (Nat.le_of_ble_eq_true rfl) ?_
  exact kend _ _ _ hS (lv_sub hl [0, 1, 2, 3, 4] rfl)
set_option maxHeartbeats 4000000 in
set_option maxRecDepth 100000 in
theorem arm_3 {p : Program} {l : Launch} {e : Env} {s : State} {m : MethodId} {below : List Frame} {meth : Method} {c : Code} {b : Nat} {xs : Nat → Int32} {D : va_G} {cI cJ : ClassId} {Q : State → Prop} (C : LC p l s m c b xs D cI cJ) {x x0 x1 x2 x3 x4 x5 s1 s2 s5 s6 s7 s8 s9 s10 s11 b0 b1 b2 b3 b4 b5 b6 b7 b8 b9 b10 b11 w0 w1 w2 w3 w4 w8 d0 d1 d2 y0 y1 c0 c1 c2 c3 c6 c8 z0 z1 g g2 g3 g4 g5 g6 g7 g8 g9 g10 g12 g13 g15 g16 g17 g19 g20 g21 g22 g23 g24 g25 g26 g27 g28 g33 g34 g35 g36 g37 g38 g39 g41 g42 g44 g45 o : Nat} {H : Heap} {locs : List Loc} (hP : va_P D vwCl (LWS cI cJ x x0 x1 x2 x3 x4 x5 s1 s2 s5 s6 s7 s8 s9 s10 s11 b0 b1 b2 b3 b4 b5 b6 b7 b8 b9 b10 b11 w0 w1 w2 w3 w4 w8 d0 d1 d2 y0 y1 c0 c1 c2 c3 c6 c8 z0 z1 g g2 g3 g4 g5 g6 g7 g8 g9 g10 g12 g13 g15 g16 g17 g19 g20 g21 g22 g23 g24 g25 g26 g27 g28 g33 g34 g35 g36 g37 g38 g39 g41 g42 g44 g45 o) H) (hD : va_D (fun q : Nat => s.heap.size ≤ q) (LWS cI cJ x x0 x1 x2 x3 x4 x5 s1 s2 s5 s6 s7 s8 s9 s10 s11 b0 b1 b2 b3 b4 b5 b6 b7 b8 b9 b10 b11 w0 w1 w2 w3 w4 w8 d0 d1 d2 y0 y1 c0 c1 c2 c3 c6 c8 z0 z1 g g2 g3 g4 g5 g6 g7 g8 g9 g10 g12 g13 g15 g16 g17 g19 g20 g21 g22 g23 g24 g25 g26 g27 g28 g33 g34 g35 g36 g37 g38 g39 g41 g42 g44 g45 o)) (hS : va_S (fun q : Nat => s.heap.size ≤ q) s.heap H locs) {ls : Array Slot} (hl : lv_has ls 7 [(4, .int 0), (3, .ref o), (2, .ref g), (1, .ref x), (0, .ref b)])
    (kend : ∀ (H1 : Heap) (locs1 : List Loc) (ls1 : Array Slot), va_S (fun q : Nat => s.heap.size ≤ q) s.heap H1 locs1 → lv_has ls1 7 [(4, .int 0), (3, .ref o), (2, .ref g), (1, .ref x), (0, .ref b)] → W p l e room_1 s m #[Value.ref b] below meth c H1 locs1 90 1144 Q (F0 m 1651 ls1 [])) : W p l e room_1 s m #[Value.ref b] below meth c H locs 84 1104 Q (F0 m 339 ls []) := by
  obtain ⟨hx, hb, hml, hown, hts, hE, hX, hbl, hXw, hl9⟩ := C
  have hA : ∀ q : Nat, s.heap.size ≤ q → (fun q : Nat => s.heap.size ≤ q) q := fun _ h => h
  have hbA : ¬ (fun q : Nat => s.heap.size ≤ q) b := Nat.not_le.mpr hbl
  have hP : va_P D vwCl [(x, .inr (7, [.ref x0, .ref x1, .ref x2, .ref x3, .ref x4, .ref x5])), (x0, .inr (0, [.ref b0, .ref b1, .ref b2, .ref b3, .ref b4, .ref b5, .ref b6, .ref b7, .ref b8, .ref b9, .ref b10, .ref b11, .int 0, .int 0, .int 0])), (g, .inr (8, [.int 0, .int 0, .ref g2, .ref g3, .ref g4, .ref g5, .ref g6, .ref g7, .ref g8, .ref g9, .ref g10, .int 0, .ref g12, .ref g13, .int 0, .ref g15, .ref g16, .ref g17, .int 0, .ref g19, .ref g20, .ref g21, .ref g22, .ref g23, .ref g24, .ref g25, .ref g26, .ref g27, .ref g28, .int 0, .int 0, .int 0, .int 0, .ref g33, .ref g34, .ref g35, .ref g36, .ref g37, .ref g38, .ref g39, .int 0, .ref g41, .ref g42, .int 0, .ref g44, .ref g45]))] H := k_sub hP [0, 10, 47] rfl
  have hD : va_D (fun q : Nat => s.heap.size ≤ q) [(x, .inr (7, [.ref x0, .ref x1, .ref x2, .ref x3, .ref x4, .ref x5])), (x0, .inr (0, [.ref b0, .ref b1, .ref b2, .ref b3, .ref b4, .ref b5, .ref b6, .ref b7, .ref b8, .ref b9, .ref b10, .ref b11, .int 0, .int 0, .int 0])), (g, .inr (8, [.int 0, .int 0, .ref g2, .ref g3, .ref g4, .ref g5, .ref g6, .ref g7, .ref g8, .ref g9, .ref g10, .int 0, .ref g12, .ref g13, .int 0, .ref g15, .ref g16, .ref g17, .int 0, .ref g19, .ref g20, .ref g21, .ref g22, .ref g23, .ref g24, .ref g25, .ref g26, .ref g27, .ref g28, .int 0, .int 0, .int 0, .int 0, .ref g33, .ref g34, .ref g35, .ref g36, .ref g37, .ref g38, .ref g39, .int 0, .ref g41, .ref g42, .int 0, .ref g44, .ref g45]))] := hD.sub [0, 10, 47] (by decide) rfl
  refine lv_aload_n hx hb dL_law_339 rfl (lv_at hl 3 rfl) ?_
  refine lv_aload_n hx hb dL_law_340 rfl (lv_at hl 4 rfl) ?_
  refine lv_iload hx hb dL_law_341 (lv_at hl 0 rfl) ?_
  refine lv_iconst (v := 1) hx hb dL_law_343 (by decide) ?_
  refine lv_iadd hx hb dL_law_344 ?_
  refine lv_topi (fun v1 ev1 => ?_)
  obtain rfl : v1 = 1 := by rw [ev1]; decide
  refine va_sld hx hb hX hbl hbA hS (by unfold vp_in; decide) dL_law_345 ?_
  refine W.eq (g2 := F0 m 346 ls [.int (xs 1), .ref x]) rfl ?_
  refine lv_aload_n hx hb dL_law_346 rfl (lv_at hl 4 rfl) ?_
  refine lv_iload hx hb dL_law_347 (lv_at hl 0 rfl) ?_
  refine lv_iconst (v := 2) hx hb dL_law_349 (by decide) ?_
  refine lv_iadd hx hb dL_law_350 ?_
  refine lv_topi (fun v2 ev2 => ?_)
  obtain rfl : v2 = 2 := by rw [ev2]; decide
  refine va_sld hx hb hX hbl hbA hS (by unfold vp_in; decide) dL_law_351 ?_
  refine W.eq (g2 := F0 m 352 ls [.int (xs 2), .int (xs 1), .ref x]) rfl ?_
  refine lv_aload_n hx hb dL_law_352 rfl (lv_at hl 4 rfl) ?_
  refine lv_iload hx hb dL_law_353 (lv_at hl 0 rfl) ?_
  refine lv_iconst (v := 3) hx hb dL_law_355 (by decide) ?_
  refine lv_iadd hx hb dL_law_356 ?_
  refine lv_topi (fun v3 ev3 => ?_)
  obtain rfl : v3 = 3 := by rw [ev3]; decide
  refine va_sld hx hb hX hbl hbA hS (by unfold vp_in; decide) dL_law_357 ?_
  refine W.eq (g2 := F0 m 358 ls [.int (xs 3), .int (xs 2), .int (xs 1), .ref x]) rfl ?_
  refine k_i (va_runV (As := [.int (xs 1), .int (xs 2), .int (xs 3)]) (rest := []) ⟨hx, hb, hml, hown, hts⟩ (f_X7_sub l D cI cJ H.size x x0 x1 x2 x3 x4 x5 b0 b1 b2 b3 b4 b5 b6 b7 b8 b9 b10 b11 (xs 1) (xs 2) (xs 3)) (cwV 3 hts hL_law_X7_sub rfl rfl rfl (by decide +kernel) ⟨Nat.le_of_ble_eq_true rfl, Nat.le_of_ble_eq_true rfl⟩) (k_preV hE hP hD [0, 1] (by decide) rfl 0 rfl rfl) rfl rfl hl.1 rfl (lv_room (Nat.le_of_ble_eq_true rfl)) dL_law_358 ⟨Nat.le_of_ble_eq_true rfl, Nat.le_of_ble_eq_true rfl⟩) hP hD hS hA [0, 1] [2] rfl (wr := [(g, .inr (8, [.int 0, .int 0, .ref g2, .ref g3, .ref g4, .ref g5, .ref g6, .ref g7, .ref g8, .ref g9, .ref g10, .int 0, .ref g12, .ref g13, .int 0, .ref g15, .ref g16, .ref g17, .int 0, .ref g19, .ref g20, .ref g21, .ref g22, .ref g23, .ref g24, .ref g25, .ref g26, .ref g27, .ref g28, .int 0, .int 0, .int 0, .int 0, .ref g33, .ref g34, .ref g35, .ref g36, .ref g37, .ref g38, .ref g39, .int 0, .ref g41, .ref g42, .int 0, .ref g44, .ref g45]))]) rfl (by decide) (by decide) (fun r4 u H locs hw5 hP hD hS => ?_)
  obtain ⟨rfl, rfl⟩ := hw5
  have hP : va_P D vwCl [(g, .inr (8, [.int 0, .int 0, .ref g2, .ref g3, .ref g4, .ref g5, .ref g6, .ref g7, .ref g8, .ref g9, .ref g10, .int 0, .ref g12, .ref g13, .int 0, .ref g15, .ref g16, .ref g17, .int 0, .ref g19, .ref g20, .ref g21, .ref g22, .ref g23, .ref g24, .ref g25, .ref g26, .ref g27, .ref g28, .int 0, .int 0, .int 0, .int 0, .ref g33, .ref g34, .ref g35, .ref g36, .ref g37, .ref g38, .ref g39, .int 0, .ref g41, .ref g42, .int 0, .ref g44, .ref g45]))] H := hP
  have hD : va_D (fun q : Nat => s.heap.size ≤ q) [(g, .inr (8, [.int 0, .int 0, .ref g2, .ref g3, .ref g4, .ref g5, .ref g6, .ref g7, .ref g8, .ref g9, .ref g10, .int 0, .ref g12, .ref g13, .int 0, .ref g15, .ref g16, .ref g17, .int 0, .ref g19, .ref g20, .ref g21, .ref g22, .ref g23, .ref g24, .ref g25, .ref g26, .ref g27, .ref g28, .int 0, .int 0, .int 0, .int 0, .ref g33, .ref g34, .ref g35, .ref g36, .ref g37, .ref g38, .ref g39, .int 0, .ref g41, .ref g42, .int 0, .ref g44, .ref g45]))] := hD
  refine lv_aload_n hx hb dL_law_361 rfl (lv_at hl 2 rfl) ?_
  refine lv_aload_n hx hb dL_law_362 rfl (lv_at hl 4 rfl) ?_
  refine lv_iload hx hb dL_law_363 (lv_at hl 0 rfl) ?_
  refine lv_iconst (v := 1) hx hb dL_law_365 (by decide) ?_
  refine lv_iadd hx hb dL_law_366 ?_
  refine lv_topi (fun v6 ev6 => ?_)
  obtain rfl : v6 = 1 := by rw [ev6]; decide
  refine va_sld hx hb hX hbl hbA hS (by unfold vp_in; decide) dL_law_367 ?_
  refine W.eq (g2 := F0 m 368 ls [.int (xs 1), .ref g, .int 0]) rfl ?_
  refine lv_aload_n hx hb dL_law_368 rfl (lv_at hl 4 rfl) ?_
  refine lv_iload hx hb dL_law_369 (lv_at hl 0 rfl) ?_
  refine lv_iconst (v := 2) hx hb dL_law_371 (by decide) ?_
  refine lv_iadd hx hb dL_law_372 ?_
  refine lv_topi (fun v7 ev7 => ?_)
  obtain rfl : v7 = 2 := by rw [ev7]; decide
  refine va_sld hx hb hX hbl hbA hS (by unfold vp_in; decide) dL_law_373 ?_
  refine W.eq (g2 := F0 m 374 ls [.int (xs 2), .int (xs 1), .ref g, .int 0]) rfl ?_
  refine lv_aload_n hx hb dL_law_374 rfl (lv_at hl 4 rfl) ?_
  refine lv_iload hx hb dL_law_375 (lv_at hl 0 rfl) ?_
  refine lv_iconst (v := 3) hx hb dL_law_377 (by decide) ?_
  refine lv_iadd hx hb dL_law_378 ?_
  refine lv_topi (fun v8 ev8 => ?_)
  obtain rfl : v8 = 3 := by rw [ev8]; decide
  refine va_sld hx hb hX hbl hbA hS (by unfold vp_in; decide) dL_law_379 ?_
  refine W.eq (g2 := F0 m 380 ls [.int (xs 3), .int (xs 2), .int (xs 1), .ref g, .int 0]) rfl ?_
  refine k_i (va_runV (As := [.int (xs 1), .int (xs 2), .int (xs 3)]) (rest := [.int 0]) ⟨hx, hb, hml, hown, hts⟩ (f_X8_sub l D cI cJ H.size g g2 g3 g4 g5 g6 g7 g8 g9 g10 g12 g13 g15 g16 g17 g19 g20 g21 g22 g23 g24 g25 g26 g27 g28 g33 g34 g35 g36 g37 g38 g39 g41 g42 g44 g45 (xs 1) (xs 2) (xs 3)) (cwV 3 hts hL_law_X8_sub rfl rfl rfl (by decide +kernel) ⟨Nat.le_of_ble_eq_true rfl, Nat.le_of_ble_eq_true rfl⟩) (k_preV hE hP hD [0] (by decide) rfl 0 rfl rfl) rfl rfl hl.1 rfl (lv_room (Nat.le_of_ble_eq_true rfl)) dL_law_380 ⟨Nat.le_of_ble_eq_true rfl, Nat.le_of_ble_eq_true rfl⟩) hP hD hS hA [0] [] rfl (wr := []) rfl (by decide) (by decide) (fun r9 u H locs hw10 hP hD hS => ?_)
  obtain ⟨rfl, rfl⟩ := hw10
  have hP : va_P D vwCl [] H := hP
  have hD : va_D (fun q : Nat => s.heap.size ≤ q) [] := hD
  refine lv_icmp_eq (tgt := 1651) hx hb dL_law_383 (by decide) (fun _ => ?_) (fun c11 => absurd (by decide) c11)
  refine W.widen (k := 90) (n := 1144) (Nat.le_of_ble_eq_true rfl) (Nat.le_of_ble_eq_true rfl) ?_
  exact kend _ _ _ hS (lv_sub hl [0, 1, 2, 3, 4] rfl)
set_option maxHeartbeats 4000000 in
set_option maxRecDepth 100000 in
theorem arm_4 {p : Program} {l : Launch} {e : Env} {s : State} {m : MethodId} {below : List Frame} {meth : Method} {c : Code} {b : Nat} {xs : Nat → Int32} {D : va_G} {cI cJ : ClassId} {Q : State → Prop} (C : LC p l s m c b xs D cI cJ) {x x0 x1 x2 x3 x4 x5 s1 s2 s5 s6 s7 s8 s9 s10 s11 b0 b1 b2 b3 b4 b5 b6 b7 b8 b9 b10 b11 w0 w1 w2 w3 w4 w8 d0 d1 d2 y0 y1 c0 c1 c2 c3 c6 c8 z0 z1 g g2 g3 g4 g5 g6 g7 g8 g9 g10 g12 g13 g15 g16 g17 g19 g20 g21 g22 g23 g24 g25 g26 g27 g28 g33 g34 g35 g36 g37 g38 g39 g41 g42 g44 g45 o : Nat} {H : Heap} {locs : List Loc} (hP : va_P D vwCl (LWS cI cJ x x0 x1 x2 x3 x4 x5 s1 s2 s5 s6 s7 s8 s9 s10 s11 b0 b1 b2 b3 b4 b5 b6 b7 b8 b9 b10 b11 w0 w1 w2 w3 w4 w8 d0 d1 d2 y0 y1 c0 c1 c2 c3 c6 c8 z0 z1 g g2 g3 g4 g5 g6 g7 g8 g9 g10 g12 g13 g15 g16 g17 g19 g20 g21 g22 g23 g24 g25 g26 g27 g28 g33 g34 g35 g36 g37 g38 g39 g41 g42 g44 g45 o) H) (hD : va_D (fun q : Nat => s.heap.size ≤ q) (LWS cI cJ x x0 x1 x2 x3 x4 x5 s1 s2 s5 s6 s7 s8 s9 s10 s11 b0 b1 b2 b3 b4 b5 b6 b7 b8 b9 b10 b11 w0 w1 w2 w3 w4 w8 d0 d1 d2 y0 y1 c0 c1 c2 c3 c6 c8 z0 z1 g g2 g3 g4 g5 g6 g7 g8 g9 g10 g12 g13 g15 g16 g17 g19 g20 g21 g22 g23 g24 g25 g26 g27 g28 g33 g34 g35 g36 g37 g38 g39 g41 g42 g44 g45 o)) (hS : va_S (fun q : Nat => s.heap.size ≤ q) s.heap H locs) {ls : Array Slot} (hl : lv_has ls 7 [(4, .int 0), (3, .ref o), (2, .ref g), (1, .ref x), (0, .ref b)])
    (kend : ∀ (H1 : Heap) (locs1 : List Loc) (ls1 : Array Slot), va_S (fun q : Nat => s.heap.size ≤ q) s.heap H1 locs1 → lv_has ls1 7 [(4, .int 0), (3, .ref o), (2, .ref g), (1, .ref x), (0, .ref b)] → W p l e room_1 s m #[Value.ref b] below meth c H1 locs1 90 1144 Q (F0 m 1651 ls1 [])) : W p l e room_1 s m #[Value.ref b] below meth c H locs 84 1104 Q (F0 m 388 ls []) := by
  obtain ⟨hx, hb, hml, hown, hts, hE, hX, hbl, hXw, hl9⟩ := C
  have hA : ∀ q : Nat, s.heap.size ≤ q → (fun q : Nat => s.heap.size ≤ q) q := fun _ h => h
  have hbA : ¬ (fun q : Nat => s.heap.size ≤ q) b := Nat.not_le.mpr hbl
  have hP : va_P D vwCl [(x, .inr (7, [.ref x0, .ref x1, .ref x2, .ref x3, .ref x4, .ref x5])), (x0, .inr (0, [.ref b0, .ref b1, .ref b2, .ref b3, .ref b4, .ref b5, .ref b6, .ref b7, .ref b8, .ref b9, .ref b10, .ref b11, .int 0, .int 0, .int 0])), (b9, .inl (cI, 8, .inl (fun _ => 0))), (g, .inr (8, [.int 0, .int 0, .ref g2, .ref g3, .ref g4, .ref g5, .ref g6, .ref g7, .ref g8, .ref g9, .ref g10, .int 0, .ref g12, .ref g13, .int 0, .ref g15, .ref g16, .ref g17, .int 0, .ref g19, .ref g20, .ref g21, .ref g22, .ref g23, .ref g24, .ref g25, .ref g26, .ref g27, .ref g28, .int 0, .int 0, .int 0, .int 0, .ref g33, .ref g34, .ref g35, .ref g36, .ref g37, .ref g38, .ref g39, .int 0, .ref g41, .ref g42, .int 0, .ref g44, .ref g45])), (g15, .inl (cI, 8, .inl (fun _ => 0)))] H := k_sub hP [0, 10, 20, 47, 59] rfl
  have hD : va_D (fun q : Nat => s.heap.size ≤ q) [(x, .inr (7, [.ref x0, .ref x1, .ref x2, .ref x3, .ref x4, .ref x5])), (x0, .inr (0, [.ref b0, .ref b1, .ref b2, .ref b3, .ref b4, .ref b5, .ref b6, .ref b7, .ref b8, .ref b9, .ref b10, .ref b11, .int 0, .int 0, .int 0])), (b9, .inl (cI, 8, .inl (fun _ => 0))), (g, .inr (8, [.int 0, .int 0, .ref g2, .ref g3, .ref g4, .ref g5, .ref g6, .ref g7, .ref g8, .ref g9, .ref g10, .int 0, .ref g12, .ref g13, .int 0, .ref g15, .ref g16, .ref g17, .int 0, .ref g19, .ref g20, .ref g21, .ref g22, .ref g23, .ref g24, .ref g25, .ref g26, .ref g27, .ref g28, .int 0, .int 0, .int 0, .int 0, .ref g33, .ref g34, .ref g35, .ref g36, .ref g37, .ref g38, .ref g39, .int 0, .ref g41, .ref g42, .int 0, .ref g44, .ref g45])), (g15, .inl (cI, 8, .inl (fun _ => 0)))] := hD.sub [0, 10, 20, 47, 59] (by decide) rfl
  refine lv_aload_n hx hb dL_law_388 rfl (lv_at hl 3 rfl) ?_
  refine lv_aload_n hx hb dL_law_389 rfl (lv_at hl 4 rfl) ?_
  refine lv_iload hx hb dL_law_390 (lv_at hl 0 rfl) ?_
  refine lv_iconst (v := 1) hx hb dL_law_392 (by decide) ?_
  refine lv_iadd hx hb dL_law_393 ?_
  refine lv_topi (fun v1 ev1 => ?_)
  obtain rfl : v1 = 1 := by rw [ev1]; decide
  refine va_sld hx hb hX hbl hbA hS (by unfold vp_in; decide) dL_law_394 ?_
  refine W.eq (g2 := F0 m 395 ls [.int (xs 1), .ref x]) rfl ?_
  refine lv_if_eq (tgt := 402) hx hb dL_law_395 (by decide) (fun c2 => ?_) (fun c2 => ?_)
  · skip
    refine lv_iconst (v := 0) hx hb dL_law_402 (by decide) ?_
    refine lv_aload_n hx hb dL_law_403 rfl (lv_at hl 4 rfl) ?_
    refine lv_iload hx hb dL_law_404 (lv_at hl 0 rfl) ?_
    refine lv_iconst (v := 2) hx hb dL_law_406 (by decide) ?_
    refine lv_iadd hx hb dL_law_407 ?_
    refine lv_topi (fun v3 ev3 => ?_)
    obtain rfl : v3 = 2 := by rw [ev3]; decide
    refine va_sld hx hb hX hbl hbA hS (by unfold vp_in; decide) dL_law_408 ?_
    refine W.eq (g2 := F0 m 409 ls [.int (xs 2), .int 0, .ref x]) rfl ?_
    refine lv_aload_n hx hb dL_law_409 rfl (lv_at hl 4 rfl) ?_
    refine lv_iload hx hb dL_law_410 (lv_at hl 0 rfl) ?_
    refine lv_iconst (v := 3) hx hb dL_law_412 (by decide) ?_
    refine lv_iadd hx hb dL_law_413 ?_
    refine lv_topi (fun v4 ev4 => ?_)
    obtain rfl : v4 = 3 := by rw [ev4]; decide
    refine va_sld hx hb hX hbl hbA hS (by unfold vp_in; decide) dL_law_414 ?_
    refine W.eq (g2 := F0 m 415 ls [.int (xs 3), .int (xs 2), .int 0, .ref x]) rfl ?_
    refine k_i (va_runV (As := [.int 0, .int (xs 2), .int (xs 3)]) (rest := []) ⟨hx, hb, hml, hown, hts⟩ (f_X7_value l D cI cJ H.size x x0 x1 x2 x3 x4 x5 b0 b1 b2 b3 b4 b5 b6 b7 b8 b9 b10 b11 0 (xs 2) (xs 3)) (cwV 3 hts hL_law_X7_value rfl rfl rfl (by decide +kernel) ⟨Nat.le_of_ble_eq_true rfl, Nat.le_of_ble_eq_true rfl⟩) (k_preV hE hP hD [0, 1, 2] (by decide) rfl 0 rfl rfl) rfl rfl hl.1 rfl (lv_room (Nat.le_of_ble_eq_true rfl)) dL_law_415 ⟨Nat.le_of_ble_eq_true rfl, Nat.le_of_ble_eq_true rfl⟩) hP hD hS hA [0, 1, 2] [3, 4] rfl (wr := [(g, .inr (8, [.int 0, .int 0, .ref g2, .ref g3, .ref g4, .ref g5, .ref g6, .ref g7, .ref g8, .ref g9, .ref g10, .int 0, .ref g12, .ref g13, .int 0, .ref g15, .ref g16, .ref g17, .int 0, .ref g19, .ref g20, .ref g21, .ref g22, .ref g23, .ref g24, .ref g25, .ref g26, .ref g27, .ref g28, .int 0, .int 0, .int 0, .int 0, .ref g33, .ref g34, .ref g35, .ref g36, .ref g37, .ref g38, .ref g39, .int 0, .ref g41, .ref g42, .int 0, .ref g44, .ref g45])), (g15, .inl (cI, 8, .inl (fun _ => 0)))]) rfl (by decide) (by decide) (fun r5 u H locs hw6 hP hD hS => ?_)
    obtain ⟨hw6, rfl⟩ := hw6
    have hP : va_P D vwCl [(g, .inr (8, [.int 0, .int 0, .ref g2, .ref g3, .ref g4, .ref g5, .ref g6, .ref g7, .ref g8, .ref g9, .ref g10, .int 0, .ref g12, .ref g13, .int 0, .ref g15, .ref g16, .ref g17, .int 0, .ref g19, .ref g20, .ref g21, .ref g22, .ref g23, .ref g24, .ref g25, .ref g26, .ref g27, .ref g28, .int 0, .int 0, .int 0, .int 0, .ref g33, .ref g34, .ref g35, .ref g36, .ref g37, .ref g38, .ref g39, .int 0, .ref g41, .ref g42, .int 0, .ref g44, .ref g45])), (g15, .inl (cI, 8, .inl (fun _ => 0)))] H := hP
    have hD : va_D (fun q : Nat => s.heap.size ≤ q) [(g, .inr (8, [.int 0, .int 0, .ref g2, .ref g3, .ref g4, .ref g5, .ref g6, .ref g7, .ref g8, .ref g9, .ref g10, .int 0, .ref g12, .ref g13, .int 0, .ref g15, .ref g16, .ref g17, .int 0, .ref g19, .ref g20, .ref g21, .ref g22, .ref g23, .ref g24, .ref g25, .ref g26, .ref g27, .ref g28, .int 0, .int 0, .int 0, .int 0, .ref g33, .ref g34, .ref g35, .ref g36, .ref g37, .ref g38, .ref g39, .int 0, .ref g41, .ref g42, .int 0, .ref g44, .ref g45])), (g15, .inl (cI, 8, .inl (fun _ => 0)))] := hD
    refine lv_aload_n hx hb dL_law_418 rfl (lv_at hl 2 rfl) ?_
    refine lv_aload_n hx hb dL_law_419 rfl (lv_at hl 4 rfl) ?_
    refine lv_iload hx hb dL_law_420 (lv_at hl 0 rfl) ?_
    refine lv_iconst (v := 1) hx hb dL_law_422 (by decide) ?_
    refine lv_iadd hx hb dL_law_423 ?_
    refine lv_topi (fun v7 ev7 => ?_)
    obtain rfl : v7 = 1 := by rw [ev7]; decide
    refine va_sld hx hb hX hbl hbA hS (by unfold vp_in; decide) dL_law_424 ?_
    refine W.eq (g2 := F0 m 425 ls [.int (xs 1), .ref g, .int r5]) rfl ?_
    refine lv_if_eq (tgt := 432) hx hb dL_law_425 (by decide) (fun _ => ?_) (fun c8 => absurd c2 c8)
    refine lv_iconst (v := 0) hx hb dL_law_432 (by decide) ?_
    refine lv_aload_n hx hb dL_law_433 rfl (lv_at hl 4 rfl) ?_
    refine lv_iload hx hb dL_law_434 (lv_at hl 0 rfl) ?_
    refine lv_iconst (v := 2) hx hb dL_law_436 (by decide) ?_
    refine lv_iadd hx hb dL_law_437 ?_
    refine lv_topi (fun v9 ev9 => ?_)
    obtain rfl : v9 = 2 := by rw [ev9]; decide
    refine va_sld hx hb hX hbl hbA hS (by unfold vp_in; decide) dL_law_438 ?_
    refine W.eq (g2 := F0 m 439 ls [.int (xs 2), .int 0, .ref g, .int r5]) rfl ?_
    refine lv_aload_n hx hb dL_law_439 rfl (lv_at hl 4 rfl) ?_
    refine lv_iload hx hb dL_law_440 (lv_at hl 0 rfl) ?_
    refine lv_iconst (v := 3) hx hb dL_law_442 (by decide) ?_
    refine lv_iadd hx hb dL_law_443 ?_
    refine lv_topi (fun v10 ev10 => ?_)
    obtain rfl : v10 = 3 := by rw [ev10]; decide
    refine va_sld hx hb hX hbl hbA hS (by unfold vp_in; decide) dL_law_444 ?_
    refine W.eq (g2 := F0 m 445 ls [.int (xs 3), .int (xs 2), .int 0, .ref g, .int r5]) rfl ?_
    refine k_i (va_runV (As := [.int 0, .int (xs 2), .int (xs 3)]) (rest := [.int r5]) ⟨hx, hb, hml, hown, hts⟩ (f_X8_value l D cI cJ H.size g g2 g3 g4 g5 g6 g7 g8 g9 g10 g12 g13 g15 g16 g17 g19 g20 g21 g22 g23 g24 g25 g26 g27 g28 g33 g34 g35 g36 g37 g38 g39 g41 g42 g44 g45 0 (xs 2) (xs 3)) (cwV 3 hts hL_law_X8_value rfl rfl rfl (by decide +kernel) ⟨Nat.le_of_ble_eq_true rfl, Nat.le_of_ble_eq_true rfl⟩) (k_preV hE hP hD [0, 1] (by decide) rfl 0 rfl rfl) rfl rfl hl.1 rfl (lv_room (Nat.le_of_ble_eq_true rfl)) dL_law_445 ⟨Nat.le_of_ble_eq_true rfl, Nat.le_of_ble_eq_true rfl⟩) hP hD hS hA [0, 1] [] rfl (wr := []) rfl (by decide) (by decide) (fun r11 u H locs hw12 hP hD hS => ?_)
    obtain ⟨hw12, rfl⟩ := hw12
    have hP : va_P D vwCl [] H := hP
    have hD : va_D (fun q : Nat => s.heap.size ≤ q) [] := hD
    refine lv_icmp_eq (tgt := 1651) hx hb dL_law_448 (by decide) (fun _ => ?_) (fun c13 => absurd (hw6.trans hw12.symm) c13)
    refine W.widen (k := 90) (n := 1144) (Nat.le_of_ble_eq_true rfl) (Nat.le_of_ble_eq_true rfl) ?_
    exact kend _ _ _ hS (lv_sub hl [0, 1, 2, 3, 4] rfl)
  · skip
    refine lv_iconst (v := 1) hx hb dL_law_398 (by decide) ?_
    refine lv_goto (tgt := 403) hx hb dL_law_399 (by decide) ?_
    refine lv_aload_n hx hb dL_law_403 rfl (lv_at hl 4 rfl) ?_
    refine lv_iload hx hb dL_law_404 (lv_at hl 0 rfl) ?_
    refine lv_iconst (v := 2) hx hb dL_law_406 (by decide) ?_
    refine lv_iadd hx hb dL_law_407 ?_
    refine lv_topi (fun v14 ev14 => ?_)
    obtain rfl : v14 = 2 := by rw [ev14]; decide
    refine va_sld hx hb hX hbl hbA hS (by unfold vp_in; decide) dL_law_408 ?_
    refine W.eq (g2 := F0 m 409 ls [.int (xs 2), .int 1, .ref x]) rfl ?_
    refine lv_aload_n hx hb dL_law_409 rfl (lv_at hl 4 rfl) ?_
    refine lv_iload hx hb dL_law_410 (lv_at hl 0 rfl) ?_
    refine lv_iconst (v := 3) hx hb dL_law_412 (by decide) ?_
    refine lv_iadd hx hb dL_law_413 ?_
    refine lv_topi (fun v15 ev15 => ?_)
    obtain rfl : v15 = 3 := by rw [ev15]; decide
    refine va_sld hx hb hX hbl hbA hS (by unfold vp_in; decide) dL_law_414 ?_
    refine W.eq (g2 := F0 m 415 ls [.int (xs 3), .int (xs 2), .int 1, .ref x]) rfl ?_
    refine k_i (va_runV (As := [.int 1, .int (xs 2), .int (xs 3)]) (rest := []) ⟨hx, hb, hml, hown, hts⟩ (f_X7_value l D cI cJ H.size x x0 x1 x2 x3 x4 x5 b0 b1 b2 b3 b4 b5 b6 b7 b8 b9 b10 b11 1 (xs 2) (xs 3)) (cwV 3 hts hL_law_X7_value rfl rfl rfl (by decide +kernel) ⟨Nat.le_of_ble_eq_true rfl, Nat.le_of_ble_eq_true rfl⟩) (k_preV hE hP hD [0, 1, 2] (by decide) rfl 0 rfl rfl) rfl rfl hl.1 rfl (lv_room (Nat.le_of_ble_eq_true rfl)) dL_law_415 ⟨Nat.le_of_ble_eq_true rfl, Nat.le_of_ble_eq_true rfl⟩) hP hD hS hA [0, 1, 2] [3, 4] rfl (wr := [(g, .inr (8, [.int 0, .int 0, .ref g2, .ref g3, .ref g4, .ref g5, .ref g6, .ref g7, .ref g8, .ref g9, .ref g10, .int 0, .ref g12, .ref g13, .int 0, .ref g15, .ref g16, .ref g17, .int 0, .ref g19, .ref g20, .ref g21, .ref g22, .ref g23, .ref g24, .ref g25, .ref g26, .ref g27, .ref g28, .int 0, .int 0, .int 0, .int 0, .ref g33, .ref g34, .ref g35, .ref g36, .ref g37, .ref g38, .ref g39, .int 0, .ref g41, .ref g42, .int 0, .ref g44, .ref g45])), (g15, .inl (cI, 8, .inl (fun _ => 0)))]) rfl (by decide) (by decide) (fun r16 u H locs hw17 hP hD hS => ?_)
    obtain ⟨hw17, rfl⟩ := hw17
    have hP : va_P D vwCl [(g, .inr (8, [.int 0, .int 0, .ref g2, .ref g3, .ref g4, .ref g5, .ref g6, .ref g7, .ref g8, .ref g9, .ref g10, .int 0, .ref g12, .ref g13, .int 0, .ref g15, .ref g16, .ref g17, .int 0, .ref g19, .ref g20, .ref g21, .ref g22, .ref g23, .ref g24, .ref g25, .ref g26, .ref g27, .ref g28, .int 0, .int 0, .int 0, .int 0, .ref g33, .ref g34, .ref g35, .ref g36, .ref g37, .ref g38, .ref g39, .int 0, .ref g41, .ref g42, .int 0, .ref g44, .ref g45])), (g15, .inl (cI, 8, .inl (fun _ => 0)))] H := hP
    have hD : va_D (fun q : Nat => s.heap.size ≤ q) [(g, .inr (8, [.int 0, .int 0, .ref g2, .ref g3, .ref g4, .ref g5, .ref g6, .ref g7, .ref g8, .ref g9, .ref g10, .int 0, .ref g12, .ref g13, .int 0, .ref g15, .ref g16, .ref g17, .int 0, .ref g19, .ref g20, .ref g21, .ref g22, .ref g23, .ref g24, .ref g25, .ref g26, .ref g27, .ref g28, .int 0, .int 0, .int 0, .int 0, .ref g33, .ref g34, .ref g35, .ref g36, .ref g37, .ref g38, .ref g39, .int 0, .ref g41, .ref g42, .int 0, .ref g44, .ref g45])), (g15, .inl (cI, 8, .inl (fun _ => 0)))] := hD
    refine lv_aload_n hx hb dL_law_418 rfl (lv_at hl 2 rfl) ?_
    refine lv_aload_n hx hb dL_law_419 rfl (lv_at hl 4 rfl) ?_
    refine lv_iload hx hb dL_law_420 (lv_at hl 0 rfl) ?_
    refine lv_iconst (v := 1) hx hb dL_law_422 (by decide) ?_
    refine lv_iadd hx hb dL_law_423 ?_
    refine lv_topi (fun v18 ev18 => ?_)
    obtain rfl : v18 = 1 := by rw [ev18]; decide
    refine va_sld hx hb hX hbl hbA hS (by unfold vp_in; decide) dL_law_424 ?_
    refine W.eq (g2 := F0 m 425 ls [.int (xs 1), .ref g, .int r16]) rfl ?_
    refine lv_if_eq (tgt := 432) hx hb dL_law_425 (by decide) (fun c19 => absurd c19 c2) (fun _ => ?_)
    refine lv_iconst (v := 1) hx hb dL_law_428 (by decide) ?_
    refine lv_goto (tgt := 433) hx hb dL_law_429 (by decide) ?_
    refine lv_aload_n hx hb dL_law_433 rfl (lv_at hl 4 rfl) ?_
    refine lv_iload hx hb dL_law_434 (lv_at hl 0 rfl) ?_
    refine lv_iconst (v := 2) hx hb dL_law_436 (by decide) ?_
    refine lv_iadd hx hb dL_law_437 ?_
    refine lv_topi (fun v20 ev20 => ?_)
    obtain rfl : v20 = 2 := by rw [ev20]; decide
    refine va_sld hx hb hX hbl hbA hS (by unfold vp_in; decide) dL_law_438 ?_
    refine W.eq (g2 := F0 m 439 ls [.int (xs 2), .int 1, .ref g, .int r16]) rfl ?_
    refine lv_aload_n hx hb dL_law_439 rfl (lv_at hl 4 rfl) ?_
    refine lv_iload hx hb dL_law_440 (lv_at hl 0 rfl) ?_
    refine lv_iconst (v := 3) hx hb dL_law_442 (by decide) ?_
    refine lv_iadd hx hb dL_law_443 ?_
    refine lv_topi (fun v21 ev21 => ?_)
    obtain rfl : v21 = 3 := by rw [ev21]; decide
    refine va_sld hx hb hX hbl hbA hS (by unfold vp_in; decide) dL_law_444 ?_
    refine W.eq (g2 := F0 m 445 ls [.int (xs 3), .int (xs 2), .int 1, .ref g, .int r16]) rfl ?_
    refine k_i (va_runV (As := [.int 1, .int (xs 2), .int (xs 3)]) (rest := [.int r16]) ⟨hx, hb, hml, hown, hts⟩ (f_X8_value l D cI cJ H.size g g2 g3 g4 g5 g6 g7 g8 g9 g10 g12 g13 g15 g16 g17 g19 g20 g21 g22 g23 g24 g25 g26 g27 g28 g33 g34 g35 g36 g37 g38 g39 g41 g42 g44 g45 1 (xs 2) (xs 3)) (cwV 3 hts hL_law_X8_value rfl rfl rfl (by decide +kernel) ⟨Nat.le_of_ble_eq_true rfl, Nat.le_of_ble_eq_true rfl⟩) (k_preV hE hP hD [0, 1] (by decide) rfl 0 rfl rfl) rfl rfl hl.1 rfl (lv_room (Nat.le_of_ble_eq_true rfl)) dL_law_445 ⟨Nat.le_of_ble_eq_true rfl, Nat.le_of_ble_eq_true rfl⟩) hP hD hS hA [0, 1] [] rfl (wr := []) rfl (by decide) (by decide) (fun r22 u H locs hw23 hP hD hS => ?_)
    obtain ⟨hw23, rfl⟩ := hw23
    have hP : va_P D vwCl [] H := hP
    have hD : va_D (fun q : Nat => s.heap.size ≤ q) [] := hD
    refine lv_icmp_eq (tgt := 1651) hx hb dL_law_448 (by decide) (fun _ => ?_) (fun c24 => absurd (hw17.trans hw23.symm) c24)
    refine W.widen (k := 90) (n := 1144) (Nat.le_of_ble_eq_true rfl) (Nat.le_of_ble_eq_true rfl) ?_
    exact kend _ _ _ hS (lv_sub hl [0, 1, 2, 3, 4] rfl)
set_option maxHeartbeats 4000000 in
set_option maxRecDepth 100000 in
theorem arm_5 {p : Program} {l : Launch} {e : Env} {s : State} {m : MethodId} {below : List Frame} {meth : Method} {c : Code} {b : Nat} {xs : Nat → Int32} {D : va_G} {cI cJ : ClassId} {Q : State → Prop} (C : LC p l s m c b xs D cI cJ) {x x0 x1 x2 x3 x4 x5 s1 s2 s5 s6 s7 s8 s9 s10 s11 b0 b1 b2 b3 b4 b5 b6 b7 b8 b9 b10 b11 w0 w1 w2 w3 w4 w8 d0 d1 d2 y0 y1 c0 c1 c2 c3 c6 c8 z0 z1 g g2 g3 g4 g5 g6 g7 g8 g9 g10 g12 g13 g15 g16 g17 g19 g20 g21 g22 g23 g24 g25 g26 g27 g28 g33 g34 g35 g36 g37 g38 g39 g41 g42 g44 g45 o : Nat} {H : Heap} {locs : List Loc} (hP : va_P D vwCl (LWS cI cJ x x0 x1 x2 x3 x4 x5 s1 s2 s5 s6 s7 s8 s9 s10 s11 b0 b1 b2 b3 b4 b5 b6 b7 b8 b9 b10 b11 w0 w1 w2 w3 w4 w8 d0 d1 d2 y0 y1 c0 c1 c2 c3 c6 c8 z0 z1 g g2 g3 g4 g5 g6 g7 g8 g9 g10 g12 g13 g15 g16 g17 g19 g20 g21 g22 g23 g24 g25 g26 g27 g28 g33 g34 g35 g36 g37 g38 g39 g41 g42 g44 g45 o) H) (hD : va_D (fun q : Nat => s.heap.size ≤ q) (LWS cI cJ x x0 x1 x2 x3 x4 x5 s1 s2 s5 s6 s7 s8 s9 s10 s11 b0 b1 b2 b3 b4 b5 b6 b7 b8 b9 b10 b11 w0 w1 w2 w3 w4 w8 d0 d1 d2 y0 y1 c0 c1 c2 c3 c6 c8 z0 z1 g g2 g3 g4 g5 g6 g7 g8 g9 g10 g12 g13 g15 g16 g17 g19 g20 g21 g22 g23 g24 g25 g26 g27 g28 g33 g34 g35 g36 g37 g38 g39 g41 g42 g44 g45 o)) (hS : va_S (fun q : Nat => s.heap.size ≤ q) s.heap H locs) {ls : Array Slot} (hl : lv_has ls 7 [(4, .int 0), (3, .ref o), (2, .ref g), (1, .ref x), (0, .ref b)])
    (kend : ∀ (H1 : Heap) (locs1 : List Loc) (ls1 : Array Slot), va_S (fun q : Nat => s.heap.size ≤ q) s.heap H1 locs1 → lv_has ls1 7 [(4, .int 0), (3, .ref o), (2, .ref g), (1, .ref x), (0, .ref b)] → W p l e room_1 s m #[Value.ref b] below meth c H1 locs1 90 1144 Q (F0 m 1651 ls1 [])) : W p l e room_1 s m #[Value.ref b] below meth c H locs 84 1104 Q (F0 m 453 ls []) := by
  obtain ⟨hx, hb, hml, hown, hts, hE, hX, hbl, hXw, hl9⟩ := C
  have hA : ∀ q : Nat, s.heap.size ≤ q → (fun q : Nat => s.heap.size ≤ q) q := fun _ h => h
  have hbA : ¬ (fun q : Nat => s.heap.size ≤ q) b := Nat.not_le.mpr hbl
  have hP : va_P D vwCl [(x, .inr (7, [.ref x0, .ref x1, .ref x2, .ref x3, .ref x4, .ref x5])), (x0, .inr (0, [.ref b0, .ref b1, .ref b2, .ref b3, .ref b4, .ref b5, .ref b6, .ref b7, .ref b8, .ref b9, .ref b10, .ref b11, .int 0, .int 0, .int 0])), (b10, .inl (cI, 10, .inl (fun _ => 0))), (b11, .inl (cI, 10, .inl (fun _ => 0))), (g, .inr (8, [.int 0, .int 0, .ref g2, .ref g3, .ref g4, .ref g5, .ref g6, .ref g7, .ref g8, .ref g9, .ref g10, .int 0, .ref g12, .ref g13, .int 0, .ref g15, .ref g16, .ref g17, .int 0, .ref g19, .ref g20, .ref g21, .ref g22, .ref g23, .ref g24, .ref g25, .ref g26, .ref g27, .ref g28, .int 0, .int 0, .int 0, .int 0, .ref g33, .ref g34, .ref g35, .ref g36, .ref g37, .ref g38, .ref g39, .int 0, .ref g41, .ref g42, .int 0, .ref g44, .ref g45])), (g12, .inl (cI, 10, .inl (fun _ => 0))), (g13, .inl (cI, 10, .inl (fun _ => 0)))] H := k_sub hP [0, 10, 21, 22, 47, 57, 58] rfl
  have hD : va_D (fun q : Nat => s.heap.size ≤ q) [(x, .inr (7, [.ref x0, .ref x1, .ref x2, .ref x3, .ref x4, .ref x5])), (x0, .inr (0, [.ref b0, .ref b1, .ref b2, .ref b3, .ref b4, .ref b5, .ref b6, .ref b7, .ref b8, .ref b9, .ref b10, .ref b11, .int 0, .int 0, .int 0])), (b10, .inl (cI, 10, .inl (fun _ => 0))), (b11, .inl (cI, 10, .inl (fun _ => 0))), (g, .inr (8, [.int 0, .int 0, .ref g2, .ref g3, .ref g4, .ref g5, .ref g6, .ref g7, .ref g8, .ref g9, .ref g10, .int 0, .ref g12, .ref g13, .int 0, .ref g15, .ref g16, .ref g17, .int 0, .ref g19, .ref g20, .ref g21, .ref g22, .ref g23, .ref g24, .ref g25, .ref g26, .ref g27, .ref g28, .int 0, .int 0, .int 0, .int 0, .ref g33, .ref g34, .ref g35, .ref g36, .ref g37, .ref g38, .ref g39, .int 0, .ref g41, .ref g42, .int 0, .ref g44, .ref g45])), (g12, .inl (cI, 10, .inl (fun _ => 0))), (g13, .inl (cI, 10, .inl (fun _ => 0)))] := hD.sub [0, 10, 21, 22, 47, 57, 58] (by decide) rfl
  refine lv_aload_n hx hb dL_law_453 rfl (lv_at hl 3 rfl) ?_
  refine lv_aload_n hx hb dL_law_454 rfl (lv_at hl 4 rfl) ?_
  refine lv_iload hx hb dL_law_455 (lv_at hl 0 rfl) ?_
  refine lv_iconst (v := 1) hx hb dL_law_457 (by decide) ?_
  refine lv_iadd hx hb dL_law_458 ?_
  refine lv_topi (fun v1 ev1 => ?_)
  obtain rfl : v1 = 1 := by rw [ev1]; decide
  refine va_sld hx hb hX hbl hbA hS (by unfold vp_in; decide) dL_law_459 ?_
  refine W.eq (g2 := F0 m 460 ls [.int (xs 1), .ref x]) rfl ?_
  refine lv_aload_n hx hb dL_law_460 rfl (lv_at hl 4 rfl) ?_
  refine lv_iload hx hb dL_law_461 (lv_at hl 0 rfl) ?_
  refine lv_iconst (v := 2) hx hb dL_law_463 (by decide) ?_
  refine lv_iadd hx hb dL_law_464 ?_
  refine lv_topi (fun v2 ev2 => ?_)
  obtain rfl : v2 = 2 := by rw [ev2]; decide
  refine va_sld hx hb hX hbl hbA hS (by unfold vp_in; decide) dL_law_465 ?_
  refine W.eq (g2 := F0 m 466 ls [.int (xs 2), .int (xs 1), .ref x]) rfl ?_
  refine k_i (va_runV (As := [.int (xs 1), .int (xs 2)]) (rest := []) ⟨hx, hb, hml, hown, hts⟩ (f_X7_loss l D cI cJ H.size x x0 x1 x2 x3 x4 x5 b0 b1 b2 b3 b4 b5 b6 b7 b8 b9 b10 b11 (xs 1) (xs 2)) (cwV 2 hts hL_law_X7_loss rfl rfl rfl (by decide +kernel) ⟨Nat.le_of_ble_eq_true rfl, Nat.le_of_ble_eq_true rfl⟩) (k_preV hE hP hD [0, 1, 2, 3] (by decide) rfl 0 rfl rfl) rfl rfl hl.1 rfl (lv_room (Nat.le_of_ble_eq_true rfl)) dL_law_466 ⟨Nat.le_of_ble_eq_true rfl, Nat.le_of_ble_eq_true rfl⟩) hP hD hS hA [0, 1, 2, 3] [4, 5, 6] rfl (wr := [(g, .inr (8, [.int 0, .int 0, .ref g2, .ref g3, .ref g4, .ref g5, .ref g6, .ref g7, .ref g8, .ref g9, .ref g10, .int 0, .ref g12, .ref g13, .int 0, .ref g15, .ref g16, .ref g17, .int 0, .ref g19, .ref g20, .ref g21, .ref g22, .ref g23, .ref g24, .ref g25, .ref g26, .ref g27, .ref g28, .int 0, .int 0, .int 0, .int 0, .ref g33, .ref g34, .ref g35, .ref g36, .ref g37, .ref g38, .ref g39, .int 0, .ref g41, .ref g42, .int 0, .ref g44, .ref g45])), (g12, .inl (cI, 10, .inl (fun _ => 0))), (g13, .inl (cI, 10, .inl (fun _ => 0)))]) rfl (by decide) (by decide) (fun r3 u H locs hw4 hP hD hS => ?_)
  obtain ⟨hw4, rfl⟩ := hw4
  have hP : va_P D vwCl [(g, .inr (8, [.int 0, .int 0, .ref g2, .ref g3, .ref g4, .ref g5, .ref g6, .ref g7, .ref g8, .ref g9, .ref g10, .int 0, .ref g12, .ref g13, .int 0, .ref g15, .ref g16, .ref g17, .int 0, .ref g19, .ref g20, .ref g21, .ref g22, .ref g23, .ref g24, .ref g25, .ref g26, .ref g27, .ref g28, .int 0, .int 0, .int 0, .int 0, .ref g33, .ref g34, .ref g35, .ref g36, .ref g37, .ref g38, .ref g39, .int 0, .ref g41, .ref g42, .int 0, .ref g44, .ref g45])), (g12, .inl (cI, 10, .inl (fun _ => 0))), (g13, .inl (cI, 10, .inl (fun _ => 0)))] H := hP
  have hD : va_D (fun q : Nat => s.heap.size ≤ q) [(g, .inr (8, [.int 0, .int 0, .ref g2, .ref g3, .ref g4, .ref g5, .ref g6, .ref g7, .ref g8, .ref g9, .ref g10, .int 0, .ref g12, .ref g13, .int 0, .ref g15, .ref g16, .ref g17, .int 0, .ref g19, .ref g20, .ref g21, .ref g22, .ref g23, .ref g24, .ref g25, .ref g26, .ref g27, .ref g28, .int 0, .int 0, .int 0, .int 0, .ref g33, .ref g34, .ref g35, .ref g36, .ref g37, .ref g38, .ref g39, .int 0, .ref g41, .ref g42, .int 0, .ref g44, .ref g45])), (g12, .inl (cI, 10, .inl (fun _ => 0))), (g13, .inl (cI, 10, .inl (fun _ => 0)))] := hD
  refine lv_aload_n hx hb dL_law_469 rfl (lv_at hl 2 rfl) ?_
  refine lv_aload_n hx hb dL_law_470 rfl (lv_at hl 4 rfl) ?_
  refine lv_iload hx hb dL_law_471 (lv_at hl 0 rfl) ?_
  refine lv_iconst (v := 1) hx hb dL_law_473 (by decide) ?_
  refine lv_iadd hx hb dL_law_474 ?_
  refine lv_topi (fun v5 ev5 => ?_)
  obtain rfl : v5 = 1 := by rw [ev5]; decide
  refine va_sld hx hb hX hbl hbA hS (by unfold vp_in; decide) dL_law_475 ?_
  refine W.eq (g2 := F0 m 476 ls [.int (xs 1), .ref g, .int r3]) rfl ?_
  refine lv_aload_n hx hb dL_law_476 rfl (lv_at hl 4 rfl) ?_
  refine lv_iload hx hb dL_law_477 (lv_at hl 0 rfl) ?_
  refine lv_iconst (v := 2) hx hb dL_law_479 (by decide) ?_
  refine lv_iadd hx hb dL_law_480 ?_
  refine lv_topi (fun v6 ev6 => ?_)
  obtain rfl : v6 = 2 := by rw [ev6]; decide
  refine va_sld hx hb hX hbl hbA hS (by unfold vp_in; decide) dL_law_481 ?_
  refine W.eq (g2 := F0 m 482 ls [.int (xs 2), .int (xs 1), .ref g, .int r3]) rfl ?_
  refine k_i (va_runV (As := [.int (xs 1), .int (xs 2)]) (rest := [.int r3]) ⟨hx, hb, hml, hown, hts⟩ (f_X8_loss l D cI cJ H.size g g2 g3 g4 g5 g6 g7 g8 g9 g10 g12 g13 g15 g16 g17 g19 g20 g21 g22 g23 g24 g25 g26 g27 g28 g33 g34 g35 g36 g37 g38 g39 g41 g42 g44 g45 (xs 1) (xs 2)) (cwV 2 hts hL_law_X8_loss rfl rfl rfl (by decide +kernel) ⟨Nat.le_of_ble_eq_true rfl, Nat.le_of_ble_eq_true rfl⟩) (k_preV hE hP hD [0, 1, 2] (by decide) rfl 0 rfl rfl) rfl rfl hl.1 rfl (lv_room (Nat.le_of_ble_eq_true rfl)) dL_law_482 ⟨Nat.le_of_ble_eq_true rfl, Nat.le_of_ble_eq_true rfl⟩) hP hD hS hA [0, 1, 2] [] rfl (wr := []) rfl (by decide) (by decide) (fun r7 u H locs hw8 hP hD hS => ?_)
  obtain ⟨hw8, rfl⟩ := hw8
  have hP : va_P D vwCl [] H := hP
  have hD : va_D (fun q : Nat => s.heap.size ≤ q) [] := hD
  refine lv_icmp_eq (tgt := 1651) hx hb dL_law_485 (by decide) (fun _ => ?_) (fun c9 => absurd (hw4.trans hw8.symm) c9)
  refine W.widen (k := 90) (n := 1144) (Nat.le_of_ble_eq_true rfl) (Nat.le_of_ble_eq_true rfl) ?_
  exact kend _ _ _ hS (lv_sub hl [0, 1, 2, 3, 4] rfl)
set_option maxHeartbeats 4000000 in
set_option maxRecDepth 100000 in
theorem arm_6 {p : Program} {l : Launch} {e : Env} {s : State} {m : MethodId} {below : List Frame} {meth : Method} {c : Code} {b : Nat} {xs : Nat → Int32} {D : va_G} {cI cJ : ClassId} {Q : State → Prop} (C : LC p l s m c b xs D cI cJ) {x x0 x1 x2 x3 x4 x5 s1 s2 s5 s6 s7 s8 s9 s10 s11 b0 b1 b2 b3 b4 b5 b6 b7 b8 b9 b10 b11 w0 w1 w2 w3 w4 w8 d0 d1 d2 y0 y1 c0 c1 c2 c3 c6 c8 z0 z1 g g2 g3 g4 g5 g6 g7 g8 g9 g10 g12 g13 g15 g16 g17 g19 g20 g21 g22 g23 g24 g25 g26 g27 g28 g33 g34 g35 g36 g37 g38 g39 g41 g42 g44 g45 o : Nat} {H : Heap} {locs : List Loc} (hP : va_P D vwCl (LWS cI cJ x x0 x1 x2 x3 x4 x5 s1 s2 s5 s6 s7 s8 s9 s10 s11 b0 b1 b2 b3 b4 b5 b6 b7 b8 b9 b10 b11 w0 w1 w2 w3 w4 w8 d0 d1 d2 y0 y1 c0 c1 c2 c3 c6 c8 z0 z1 g g2 g3 g4 g5 g6 g7 g8 g9 g10 g12 g13 g15 g16 g17 g19 g20 g21 g22 g23 g24 g25 g26 g27 g28 g33 g34 g35 g36 g37 g38 g39 g41 g42 g44 g45 o) H) (hD : va_D (fun q : Nat => s.heap.size ≤ q) (LWS cI cJ x x0 x1 x2 x3 x4 x5 s1 s2 s5 s6 s7 s8 s9 s10 s11 b0 b1 b2 b3 b4 b5 b6 b7 b8 b9 b10 b11 w0 w1 w2 w3 w4 w8 d0 d1 d2 y0 y1 c0 c1 c2 c3 c6 c8 z0 z1 g g2 g3 g4 g5 g6 g7 g8 g9 g10 g12 g13 g15 g16 g17 g19 g20 g21 g22 g23 g24 g25 g26 g27 g28 g33 g34 g35 g36 g37 g38 g39 g41 g42 g44 g45 o)) (hS : va_S (fun q : Nat => s.heap.size ≤ q) s.heap H locs) {ls : Array Slot} (hl : lv_has ls 7 [(4, .int 0), (3, .ref o), (2, .ref g), (1, .ref x), (0, .ref b)])
    (kend : ∀ (H1 : Heap) (locs1 : List Loc) (ls1 : Array Slot), va_S (fun q : Nat => s.heap.size ≤ q) s.heap H1 locs1 → lv_has ls1 7 [(4, .int 0), (3, .ref o), (2, .ref g), (1, .ref x), (0, .ref b)] → W p l e room_1 s m #[Value.ref b] below meth c H1 locs1 90 1144 Q (F0 m 1651 ls1 [])) : W p l e room_1 s m #[Value.ref b] below meth c H locs 84 1104 Q (F0 m 490 ls []) := by
  obtain ⟨hx, hb, hml, hown, hts, hE, hX, hbl, hXw, hl9⟩ := C
  have hA : ∀ q : Nat, s.heap.size ≤ q → (fun q : Nat => s.heap.size ≤ q) q := fun _ h => h
  have hbA : ¬ (fun q : Nat => s.heap.size ≤ q) b := Nat.not_le.mpr hbl
  have hP : va_P D vwCl [(x, .inr (7, [.ref x0, .ref x1, .ref x2, .ref x3, .ref x4, .ref x5])), (x0, .inr (0, [.ref b0, .ref b1, .ref b2, .ref b3, .ref b4, .ref b5, .ref b6, .ref b7, .ref b8, .ref b9, .ref b10, .ref b11, .int 0, .int 0, .int 0])), (g, .inr (8, [.int 0, .int 0, .ref g2, .ref g3, .ref g4, .ref g5, .ref g6, .ref g7, .ref g8, .ref g9, .ref g10, .int 0, .ref g12, .ref g13, .int 0, .ref g15, .ref g16, .ref g17, .int 0, .ref g19, .ref g20, .ref g21, .ref g22, .ref g23, .ref g24, .ref g25, .ref g26, .ref g27, .ref g28, .int 0, .int 0, .int 0, .int 0, .ref g33, .ref g34, .ref g35, .ref g36, .ref g37, .ref g38, .ref g39, .int 0, .ref g41, .ref g42, .int 0, .ref g44, .ref g45]))] H := k_sub hP [0, 10, 47] rfl
  have hD : va_D (fun q : Nat => s.heap.size ≤ q) [(x, .inr (7, [.ref x0, .ref x1, .ref x2, .ref x3, .ref x4, .ref x5])), (x0, .inr (0, [.ref b0, .ref b1, .ref b2, .ref b3, .ref b4, .ref b5, .ref b6, .ref b7, .ref b8, .ref b9, .ref b10, .ref b11, .int 0, .int 0, .int 0])), (g, .inr (8, [.int 0, .int 0, .ref g2, .ref g3, .ref g4, .ref g5, .ref g6, .ref g7, .ref g8, .ref g9, .ref g10, .int 0, .ref g12, .ref g13, .int 0, .ref g15, .ref g16, .ref g17, .int 0, .ref g19, .ref g20, .ref g21, .ref g22, .ref g23, .ref g24, .ref g25, .ref g26, .ref g27, .ref g28, .int 0, .int 0, .int 0, .int 0, .ref g33, .ref g34, .ref g35, .ref g36, .ref g37, .ref g38, .ref g39, .int 0, .ref g41, .ref g42, .int 0, .ref g44, .ref g45]))] := hD.sub [0, 10, 47] (by decide) rfl
  refine lv_aload_n hx hb dL_law_490 rfl (lv_at hl 3 rfl) ?_
  refine k_i (va_runV (As := []) (rest := []) ⟨hx, hb, hml, hown, hts⟩ (f_X7_revoke l D cI cJ H.size x x0 x1 x2 x3 x4 x5 b0 b1 b2 b3 b4 b5 b6 b7 b8 b9 b10 b11) (cwV 0 hts hL_law_X7_revoke rfl rfl rfl (by decide +kernel) ⟨Nat.le_of_ble_eq_true rfl, Nat.le_of_ble_eq_true rfl⟩) (k_preV hE hP hD [0, 1] (by decide) rfl 0 rfl rfl) rfl rfl hl.1 rfl (lv_room (Nat.le_of_ble_eq_true rfl)) dL_law_491 ⟨Nat.le_of_ble_eq_true rfl, Nat.le_of_ble_eq_true rfl⟩) hP hD hS hA [0, 1] [2] rfl (wr := [(g, .inr (8, [.int 0, .int 0, .ref g2, .ref g3, .ref g4, .ref g5, .ref g6, .ref g7, .ref g8, .ref g9, .ref g10, .int 0, .ref g12, .ref g13, .int 0, .ref g15, .ref g16, .ref g17, .int 0, .ref g19, .ref g20, .ref g21, .ref g22, .ref g23, .ref g24, .ref g25, .ref g26, .ref g27, .ref g28, .int 0, .int 0, .int 0, .int 0, .ref g33, .ref g34, .ref g35, .ref g36, .ref g37, .ref g38, .ref g39, .int 0, .ref g41, .ref g42, .int 0, .ref g44, .ref g45]))]) rfl (by decide) (by decide) (fun r1 u H locs hw2 hP hD hS => ?_)
  obtain ⟨rfl, rfl⟩ := hw2
  have hP : va_P D vwCl [(g, .inr (8, [.int 0, .int 0, .ref g2, .ref g3, .ref g4, .ref g5, .ref g6, .ref g7, .ref g8, .ref g9, .ref g10, .int 0, .ref g12, .ref g13, .int 0, .ref g15, .ref g16, .ref g17, .int 0, .ref g19, .ref g20, .ref g21, .ref g22, .ref g23, .ref g24, .ref g25, .ref g26, .ref g27, .ref g28, .int 0, .int 0, .int 0, .int 0, .ref g33, .ref g34, .ref g35, .ref g36, .ref g37, .ref g38, .ref g39, .int 0, .ref g41, .ref g42, .int 0, .ref g44, .ref g45]))] H := hP
  have hD : va_D (fun q : Nat => s.heap.size ≤ q) [(g, .inr (8, [.int 0, .int 0, .ref g2, .ref g3, .ref g4, .ref g5, .ref g6, .ref g7, .ref g8, .ref g9, .ref g10, .int 0, .ref g12, .ref g13, .int 0, .ref g15, .ref g16, .ref g17, .int 0, .ref g19, .ref g20, .ref g21, .ref g22, .ref g23, .ref g24, .ref g25, .ref g26, .ref g27, .ref g28, .int 0, .int 0, .int 0, .int 0, .ref g33, .ref g34, .ref g35, .ref g36, .ref g37, .ref g38, .ref g39, .int 0, .ref g41, .ref g42, .int 0, .ref g44, .ref g45]))] := hD
  refine lv_aload_n hx hb dL_law_494 rfl (lv_at hl 2 rfl) ?_
  refine k_i (va_runV (As := []) (rest := [.int (-1)]) ⟨hx, hb, hml, hown, hts⟩ (f_X8_revoke l D cI cJ H.size g g2 g3 g4 g5 g6 g7 g8 g9 g10 g12 g13 g15 g16 g17 g19 g20 g21 g22 g23 g24 g25 g26 g27 g28 g33 g34 g35 g36 g37 g38 g39 g41 g42 g44 g45) (cwV 0 hts hL_law_X8_revoke rfl rfl rfl (by decide +kernel) ⟨Nat.le_of_ble_eq_true rfl, Nat.le_of_ble_eq_true rfl⟩) (k_preV hE hP hD [0] (by decide) rfl 0 rfl rfl) rfl rfl hl.1 rfl (lv_room (Nat.le_of_ble_eq_true rfl)) dL_law_495 ⟨Nat.le_of_ble_eq_true rfl, Nat.le_of_ble_eq_true rfl⟩) hP hD hS hA [0] [] rfl (wr := []) rfl (by decide) (by decide) (fun r3 u H locs hw4 hP hD hS => ?_)
  obtain ⟨rfl, rfl⟩ := hw4
  have hP : va_P D vwCl [] H := hP
  have hD : va_D (fun q : Nat => s.heap.size ≤ q) [] := hD
  refine lv_icmp_eq (tgt := 1651) hx hb dL_law_498 (by decide) (fun _ => ?_) (fun c5 => absurd (by decide) c5)
  refine W.widen (k := 90) (n := 1144) (Nat.le_of_ble_eq_true rfl) (Nat.le_of_ble_eq_true rfl) ?_
  exact kend _ _ _ hS (lv_sub hl [0, 1, 2, 3, 4] rfl)
set_option maxHeartbeats 4000000 in
set_option maxRecDepth 100000 in
theorem arm_7 {p : Program} {l : Launch} {e : Env} {s : State} {m : MethodId} {below : List Frame} {meth : Method} {c : Code} {b : Nat} {xs : Nat → Int32} {D : va_G} {cI cJ : ClassId} {Q : State → Prop} (C : LC p l s m c b xs D cI cJ) {x x0 x1 x2 x3 x4 x5 s1 s2 s5 s6 s7 s8 s9 s10 s11 b0 b1 b2 b3 b4 b5 b6 b7 b8 b9 b10 b11 w0 w1 w2 w3 w4 w8 d0 d1 d2 y0 y1 c0 c1 c2 c3 c6 c8 z0 z1 g g2 g3 g4 g5 g6 g7 g8 g9 g10 g12 g13 g15 g16 g17 g19 g20 g21 g22 g23 g24 g25 g26 g27 g28 g33 g34 g35 g36 g37 g38 g39 g41 g42 g44 g45 o : Nat} {H : Heap} {locs : List Loc} (hP : va_P D vwCl (LWS cI cJ x x0 x1 x2 x3 x4 x5 s1 s2 s5 s6 s7 s8 s9 s10 s11 b0 b1 b2 b3 b4 b5 b6 b7 b8 b9 b10 b11 w0 w1 w2 w3 w4 w8 d0 d1 d2 y0 y1 c0 c1 c2 c3 c6 c8 z0 z1 g g2 g3 g4 g5 g6 g7 g8 g9 g10 g12 g13 g15 g16 g17 g19 g20 g21 g22 g23 g24 g25 g26 g27 g28 g33 g34 g35 g36 g37 g38 g39 g41 g42 g44 g45 o) H) (hD : va_D (fun q : Nat => s.heap.size ≤ q) (LWS cI cJ x x0 x1 x2 x3 x4 x5 s1 s2 s5 s6 s7 s8 s9 s10 s11 b0 b1 b2 b3 b4 b5 b6 b7 b8 b9 b10 b11 w0 w1 w2 w3 w4 w8 d0 d1 d2 y0 y1 c0 c1 c2 c3 c6 c8 z0 z1 g g2 g3 g4 g5 g6 g7 g8 g9 g10 g12 g13 g15 g16 g17 g19 g20 g21 g22 g23 g24 g25 g26 g27 g28 g33 g34 g35 g36 g37 g38 g39 g41 g42 g44 g45 o)) (hS : va_S (fun q : Nat => s.heap.size ≤ q) s.heap H locs) {ls : Array Slot} (hl : lv_has ls 7 [(4, .int 0), (3, .ref o), (2, .ref g), (1, .ref x), (0, .ref b)])
    (kend : ∀ (H1 : Heap) (locs1 : List Loc) (ls1 : Array Slot), va_S (fun q : Nat => s.heap.size ≤ q) s.heap H1 locs1 → lv_has ls1 7 [(4, .int 0), (3, .ref o), (2, .ref g), (1, .ref x), (0, .ref b)] → W p l e room_1 s m #[Value.ref b] below meth c H1 locs1 90 1144 Q (F0 m 1651 ls1 [])) : W p l e room_1 s m #[Value.ref b] below meth c H locs 84 1104 Q (F0 m 503 ls []) := by
  obtain ⟨hx, hb, hml, hown, hts, hE, hX, hbl, hXw, hl9⟩ := C
  have hA : ∀ q : Nat, s.heap.size ≤ q → (fun q : Nat => s.heap.size ≤ q) q := fun _ h => h
  have hbA : ¬ (fun q : Nat => s.heap.size ≤ q) b := Nat.not_le.mpr hbl
  have hP : va_P D vwCl [(x, .inr (7, [.ref x0, .ref x1, .ref x2, .ref x3, .ref x4, .ref x5])), (x0, .inr (0, [.ref b0, .ref b1, .ref b2, .ref b3, .ref b4, .ref b5, .ref b6, .ref b7, .ref b8, .ref b9, .ref b10, .ref b11, .int 0, .int 0, .int 0])), (g, .inr (8, [.int 0, .int 0, .ref g2, .ref g3, .ref g4, .ref g5, .ref g6, .ref g7, .ref g8, .ref g9, .ref g10, .int 0, .ref g12, .ref g13, .int 0, .ref g15, .ref g16, .ref g17, .int 0, .ref g19, .ref g20, .ref g21, .ref g22, .ref g23, .ref g24, .ref g25, .ref g26, .ref g27, .ref g28, .int 0, .int 0, .int 0, .int 0, .ref g33, .ref g34, .ref g35, .ref g36, .ref g37, .ref g38, .ref g39, .int 0, .ref g41, .ref g42, .int 0, .ref g44, .ref g45]))] H := k_sub hP [0, 10, 47] rfl
  have hD : va_D (fun q : Nat => s.heap.size ≤ q) [(x, .inr (7, [.ref x0, .ref x1, .ref x2, .ref x3, .ref x4, .ref x5])), (x0, .inr (0, [.ref b0, .ref b1, .ref b2, .ref b3, .ref b4, .ref b5, .ref b6, .ref b7, .ref b8, .ref b9, .ref b10, .ref b11, .int 0, .int 0, .int 0])), (g, .inr (8, [.int 0, .int 0, .ref g2, .ref g3, .ref g4, .ref g5, .ref g6, .ref g7, .ref g8, .ref g9, .ref g10, .int 0, .ref g12, .ref g13, .int 0, .ref g15, .ref g16, .ref g17, .int 0, .ref g19, .ref g20, .ref g21, .ref g22, .ref g23, .ref g24, .ref g25, .ref g26, .ref g27, .ref g28, .int 0, .int 0, .int 0, .int 0, .ref g33, .ref g34, .ref g35, .ref g36, .ref g37, .ref g38, .ref g39, .int 0, .ref g41, .ref g42, .int 0, .ref g44, .ref g45]))] := hD.sub [0, 10, 47] (by decide) rfl
  refine lv_aload_n hx hb dL_law_503 rfl (lv_at hl 3 rfl) ?_
  refine k_i (va_runV (As := []) (rest := []) ⟨hx, hb, hml, hown, hts⟩ (f_X7_rule l D cI cJ H.size x x0 x1 x2 x3 x4 x5 b0 b1 b2 b3 b4 b5 b6 b7 b8 b9 b10 b11) (cwV 0 hts hL_law_X7_rule rfl rfl rfl (by decide +kernel) ⟨Nat.le_of_ble_eq_true rfl, Nat.le_of_ble_eq_true rfl⟩) (k_preV hE hP hD [0, 1] (by decide) rfl 0 rfl rfl) rfl rfl hl.1 rfl (lv_room (Nat.le_of_ble_eq_true rfl)) dL_law_504 ⟨Nat.le_of_ble_eq_true rfl, Nat.le_of_ble_eq_true rfl⟩) hP hD hS hA [0, 1] [2] rfl (wr := [(g, .inr (8, [.int 0, .int 0, .ref g2, .ref g3, .ref g4, .ref g5, .ref g6, .ref g7, .ref g8, .ref g9, .ref g10, .int 0, .ref g12, .ref g13, .int 0, .ref g15, .ref g16, .ref g17, .int 0, .ref g19, .ref g20, .ref g21, .ref g22, .ref g23, .ref g24, .ref g25, .ref g26, .ref g27, .ref g28, .int 0, .int 0, .int 0, .int 0, .ref g33, .ref g34, .ref g35, .ref g36, .ref g37, .ref g38, .ref g39, .int 0, .ref g41, .ref g42, .int 0, .ref g44, .ref g45]))]) rfl (by decide) (by decide) (fun r1 u H locs hw2 hP hD hS => ?_)
  obtain ⟨rfl, rfl⟩ := hw2
  have hP : va_P D vwCl [(g, .inr (8, [.int 0, .int 0, .ref g2, .ref g3, .ref g4, .ref g5, .ref g6, .ref g7, .ref g8, .ref g9, .ref g10, .int 0, .ref g12, .ref g13, .int 0, .ref g15, .ref g16, .ref g17, .int 0, .ref g19, .ref g20, .ref g21, .ref g22, .ref g23, .ref g24, .ref g25, .ref g26, .ref g27, .ref g28, .int 0, .int 0, .int 0, .int 0, .ref g33, .ref g34, .ref g35, .ref g36, .ref g37, .ref g38, .ref g39, .int 0, .ref g41, .ref g42, .int 0, .ref g44, .ref g45]))] H := hP
  have hD : va_D (fun q : Nat => s.heap.size ≤ q) [(g, .inr (8, [.int 0, .int 0, .ref g2, .ref g3, .ref g4, .ref g5, .ref g6, .ref g7, .ref g8, .ref g9, .ref g10, .int 0, .ref g12, .ref g13, .int 0, .ref g15, .ref g16, .ref g17, .int 0, .ref g19, .ref g20, .ref g21, .ref g22, .ref g23, .ref g24, .ref g25, .ref g26, .ref g27, .ref g28, .int 0, .int 0, .int 0, .int 0, .ref g33, .ref g34, .ref g35, .ref g36, .ref g37, .ref g38, .ref g39, .int 0, .ref g41, .ref g42, .int 0, .ref g44, .ref g45]))] := hD
  refine lv_aload_n hx hb dL_law_507 rfl (lv_at hl 2 rfl) ?_
  refine k_i (va_runV (As := []) (rest := [.int 1]) ⟨hx, hb, hml, hown, hts⟩ (f_X8_rule l D cI cJ H.size g g2 g3 g4 g5 g6 g7 g8 g9 g10 g12 g13 g15 g16 g17 g19 g20 g21 g22 g23 g24 g25 g26 g27 g28 g33 g34 g35 g36 g37 g38 g39 g41 g42 g44 g45) (cwV 0 hts hL_law_X8_rule rfl rfl rfl (by decide +kernel) ⟨Nat.le_of_ble_eq_true rfl, Nat.le_of_ble_eq_true rfl⟩) (k_preV hE hP hD [0] (by decide) rfl 0 rfl rfl) rfl rfl hl.1 rfl (lv_room (Nat.le_of_ble_eq_true rfl)) dL_law_508 ⟨Nat.le_of_ble_eq_true rfl, Nat.le_of_ble_eq_true rfl⟩) hP hD hS hA [0] [] rfl (wr := []) rfl (by decide) (by decide) (fun r3 u H locs hw4 hP hD hS => ?_)
  obtain ⟨rfl, rfl⟩ := hw4
  have hP : va_P D vwCl [] H := hP
  have hD : va_D (fun q : Nat => s.heap.size ≤ q) [] := hD
  refine lv_icmp_eq (tgt := 1651) hx hb dL_law_511 (by decide) (fun _ => ?_) (fun c5 => absurd (by decide) c5)
  refine W.widen (k := 90) (n := 1144) (Nat.le_of_ble_eq_true rfl) (Nat.le_of_ble_eq_true rfl) ?_
  exact kend _ _ _ hS (lv_sub hl [0, 1, 2, 3, 4] rfl)
set_option maxHeartbeats 4000000 in
set_option maxRecDepth 100000 in
theorem arm_8 {p : Program} {l : Launch} {e : Env} {s : State} {m : MethodId} {below : List Frame} {meth : Method} {c : Code} {b : Nat} {xs : Nat → Int32} {D : va_G} {cI cJ : ClassId} {Q : State → Prop} (C : LC p l s m c b xs D cI cJ) {x x0 x1 x2 x3 x4 x5 s1 s2 s5 s6 s7 s8 s9 s10 s11 b0 b1 b2 b3 b4 b5 b6 b7 b8 b9 b10 b11 w0 w1 w2 w3 w4 w8 d0 d1 d2 y0 y1 c0 c1 c2 c3 c6 c8 z0 z1 g g2 g3 g4 g5 g6 g7 g8 g9 g10 g12 g13 g15 g16 g17 g19 g20 g21 g22 g23 g24 g25 g26 g27 g28 g33 g34 g35 g36 g37 g38 g39 g41 g42 g44 g45 o : Nat} {H : Heap} {locs : List Loc} (hP : va_P D vwCl (LWS cI cJ x x0 x1 x2 x3 x4 x5 s1 s2 s5 s6 s7 s8 s9 s10 s11 b0 b1 b2 b3 b4 b5 b6 b7 b8 b9 b10 b11 w0 w1 w2 w3 w4 w8 d0 d1 d2 y0 y1 c0 c1 c2 c3 c6 c8 z0 z1 g g2 g3 g4 g5 g6 g7 g8 g9 g10 g12 g13 g15 g16 g17 g19 g20 g21 g22 g23 g24 g25 g26 g27 g28 g33 g34 g35 g36 g37 g38 g39 g41 g42 g44 g45 o) H) (hD : va_D (fun q : Nat => s.heap.size ≤ q) (LWS cI cJ x x0 x1 x2 x3 x4 x5 s1 s2 s5 s6 s7 s8 s9 s10 s11 b0 b1 b2 b3 b4 b5 b6 b7 b8 b9 b10 b11 w0 w1 w2 w3 w4 w8 d0 d1 d2 y0 y1 c0 c1 c2 c3 c6 c8 z0 z1 g g2 g3 g4 g5 g6 g7 g8 g9 g10 g12 g13 g15 g16 g17 g19 g20 g21 g22 g23 g24 g25 g26 g27 g28 g33 g34 g35 g36 g37 g38 g39 g41 g42 g44 g45 o)) (hS : va_S (fun q : Nat => s.heap.size ≤ q) s.heap H locs) {ls : Array Slot} (hl : lv_has ls 7 [(4, .int 0), (3, .ref o), (2, .ref g), (1, .ref x), (0, .ref b)])
    (kend : ∀ (H1 : Heap) (locs1 : List Loc) (ls1 : Array Slot), va_S (fun q : Nat => s.heap.size ≤ q) s.heap H1 locs1 → lv_has ls1 7 [(4, .int 0), (3, .ref o), (2, .ref g), (1, .ref x), (0, .ref b)] → W p l e room_1 s m #[Value.ref b] below meth c H1 locs1 90 1144 Q (F0 m 1651 ls1 [])) : W p l e room_1 s m #[Value.ref b] below meth c H locs 84 1104 Q (F0 m 516 ls []) := by
  obtain ⟨hx, hb, hml, hown, hts, hE, hX, hbl, hXw, hl9⟩ := C
  have hA : ∀ q : Nat, s.heap.size ≤ q → (fun q : Nat => s.heap.size ≤ q) q := fun _ h => h
  have hbA : ¬ (fun q : Nat => s.heap.size ≤ q) b := Nat.not_le.mpr hbl
  have hP : va_P D vwCl [(x, .inr (7, [.ref x0, .ref x1, .ref x2, .ref x3, .ref x4, .ref x5])), (x1, .inr (4, [.ref x0, .ref s1, .ref s2, .int 0, .int 0, .ref s5, .ref s6, .ref s7, .ref s8, .ref s9, .ref s10, .ref s11, .int 0, .int 0])), (s5, .inl (cI, 8, .inl (fun _ => 0))), (s7, .inl (cI, 8, .inl (fun _ => 0))), (x0, .inr (0, [.ref b0, .ref b1, .ref b2, .ref b3, .ref b4, .ref b5, .ref b6, .ref b7, .ref b8, .ref b9, .ref b10, .ref b11, .int 0, .int 0, .int 0])), (b1, .inl (cI, 8, .inl (fun _ => 0))), (b5, .inl (cI, 8, .inl (fun _ => 0))), (s1, .inr (6, [.ref w0, .ref w1, .ref w2, .ref w3, .ref w4, .int 0, .int 0, .int 0, .ref w8])), (w0, .inl (cI, 8, .inl (fun _ => 0))), (g, .inr (8, [.int 0, .int 0, .ref g2, .ref g3, .ref g4, .ref g5, .ref g6, .ref g7, .ref g8, .ref g9, .ref g10, .int 0, .ref g12, .ref g13, .int 0, .ref g15, .ref g16, .ref g17, .int 0, .ref g19, .ref g20, .ref g21, .ref g22, .ref g23, .ref g24, .ref g25, .ref g26, .ref g27, .ref g28, .int 0, .int 0, .int 0, .int 0, .ref g33, .ref g34, .ref g35, .ref g36, .ref g37, .ref g38, .ref g39, .int 0, .ref g41, .ref g42, .int 0, .ref g44, .ref g45])), (g28, .inl (cI, 8, .inl (fun _ => 0)))] H := k_sub hP [0, 2, 3, 5, 10, 12, 16, 23, 24, 47, 71] rfl
  have hD : va_D (fun q : Nat => s.heap.size ≤ q) [(x, .inr (7, [.ref x0, .ref x1, .ref x2, .ref x3, .ref x4, .ref x5])), (x1, .inr (4, [.ref x0, .ref s1, .ref s2, .int 0, .int 0, .ref s5, .ref s6, .ref s7, .ref s8, .ref s9, .ref s10, .ref s11, .int 0, .int 0])), (s5, .inl (cI, 8, .inl (fun _ => 0))), (s7, .inl (cI, 8, .inl (fun _ => 0))), (x0, .inr (0, [.ref b0, .ref b1, .ref b2, .ref b3, .ref b4, .ref b5, .ref b6, .ref b7, .ref b8, .ref b9, .ref b10, .ref b11, .int 0, .int 0, .int 0])), (b1, .inl (cI, 8, .inl (fun _ => 0))), (b5, .inl (cI, 8, .inl (fun _ => 0))), (s1, .inr (6, [.ref w0, .ref w1, .ref w2, .ref w3, .ref w4, .int 0, .int 0, .int 0, .ref w8])), (w0, .inl (cI, 8, .inl (fun _ => 0))), (g, .inr (8, [.int 0, .int 0, .ref g2, .ref g3, .ref g4, .ref g5, .ref g6, .ref g7, .ref g8, .ref g9, .ref g10, .int 0, .ref g12, .ref g13, .int 0, .ref g15, .ref g16, .ref g17, .int 0, .ref g19, .ref g20, .ref g21, .ref g22, .ref g23, .ref g24, .ref g25, .ref g26, .ref g27, .ref g28, .int 0, .int 0, .int 0, .int 0, .ref g33, .ref g34, .ref g35, .ref g36, .ref g37, .ref g38, .ref g39, .int 0, .ref g41, .ref g42, .int 0, .ref g44, .ref g45])), (g28, .inl (cI, 8, .inl (fun _ => 0)))] := hD.sub [0, 2, 3, 5, 10, 12, 16, 23, 24, 47, 71] (by decide) rfl
  refine lv_aload_n hx hb dL_law_516 rfl (lv_at hl 3 rfl) ?_
  refine lv_aload_n hx hb dL_law_517 rfl (lv_at hl 4 rfl) ?_
  refine lv_iload hx hb dL_law_518 (lv_at hl 0 rfl) ?_
  refine lv_iconst (v := 1) hx hb dL_law_520 (by decide) ?_
  refine lv_iadd hx hb dL_law_521 ?_
  refine lv_topi (fun v1 ev1 => ?_)
  obtain rfl : v1 = 1 := by rw [ev1]; decide
  refine va_sld hx hb hX hbl hbA hS (by unfold vp_in; decide) dL_law_522 ?_
  refine W.eq (g2 := F0 m 523 ls [.int (xs 1), .ref x]) rfl ?_
  refine k_i (va_runV (As := [.int (xs 1)]) (rest := []) ⟨hx, hb, hml, hown, hts⟩ (f_X7_count l D cI cJ H.size x x0 x1 x2 x3 x4 x5 b0 b1 b2 b3 b4 b5 b6 b7 b8 b9 b10 b11 s1 s2 s5 s6 s7 s8 s9 s10 s11 w0 w1 w2 w3 w4 w8 (xs 1)) (cwV 1 hts hL_law_X7_count rfl rfl rfl (by decide +kernel) ⟨Nat.le_of_ble_eq_true rfl, Nat.le_of_ble_eq_true rfl⟩) (k_preV hE hP hD [0, 4, 1, 7, 6, 8, 5, 2, 3] (by decide) rfl 0 rfl rfl) rfl rfl hl.1 rfl (lv_room (Nat.le_of_ble_eq_true rfl)) dL_law_523 ⟨Nat.le_of_ble_eq_true rfl, Nat.le_of_ble_eq_true rfl⟩) hP hD hS hA [0, 4, 1, 7, 6, 8, 5, 2, 3] [9, 10] rfl (wr := [(g, .inr (8, [.int 0, .int 0, .ref g2, .ref g3, .ref g4, .ref g5, .ref g6, .ref g7, .ref g8, .ref g9, .ref g10, .int 0, .ref g12, .ref g13, .int 0, .ref g15, .ref g16, .ref g17, .int 0, .ref g19, .ref g20, .ref g21, .ref g22, .ref g23, .ref g24, .ref g25, .ref g26, .ref g27, .ref g28, .int 0, .int 0, .int 0, .int 0, .ref g33, .ref g34, .ref g35, .ref g36, .ref g37, .ref g38, .ref g39, .int 0, .ref g41, .ref g42, .int 0, .ref g44, .ref g45])), (g28, .inl (cI, 8, .inl (fun _ => 0)))]) rfl (by decide) (by decide) (fun r2 u H locs hw3 hP hD hS => ?_)
  obtain ⟨hw3, rfl⟩ := hw3
  have hP : va_P D vwCl [(g, .inr (8, [.int 0, .int 0, .ref g2, .ref g3, .ref g4, .ref g5, .ref g6, .ref g7, .ref g8, .ref g9, .ref g10, .int 0, .ref g12, .ref g13, .int 0, .ref g15, .ref g16, .ref g17, .int 0, .ref g19, .ref g20, .ref g21, .ref g22, .ref g23, .ref g24, .ref g25, .ref g26, .ref g27, .ref g28, .int 0, .int 0, .int 0, .int 0, .ref g33, .ref g34, .ref g35, .ref g36, .ref g37, .ref g38, .ref g39, .int 0, .ref g41, .ref g42, .int 0, .ref g44, .ref g45])), (g28, .inl (cI, 8, .inl (fun _ => 0)))] H := hP
  have hD : va_D (fun q : Nat => s.heap.size ≤ q) [(g, .inr (8, [.int 0, .int 0, .ref g2, .ref g3, .ref g4, .ref g5, .ref g6, .ref g7, .ref g8, .ref g9, .ref g10, .int 0, .ref g12, .ref g13, .int 0, .ref g15, .ref g16, .ref g17, .int 0, .ref g19, .ref g20, .ref g21, .ref g22, .ref g23, .ref g24, .ref g25, .ref g26, .ref g27, .ref g28, .int 0, .int 0, .int 0, .int 0, .ref g33, .ref g34, .ref g35, .ref g36, .ref g37, .ref g38, .ref g39, .int 0, .ref g41, .ref g42, .int 0, .ref g44, .ref g45])), (g28, .inl (cI, 8, .inl (fun _ => 0)))] := hD
  refine lv_aload_n hx hb dL_law_526 rfl (lv_at hl 2 rfl) ?_
  refine lv_aload_n hx hb dL_law_527 rfl (lv_at hl 4 rfl) ?_
  refine lv_iload hx hb dL_law_528 (lv_at hl 0 rfl) ?_
  refine lv_iconst (v := 1) hx hb dL_law_530 (by decide) ?_
  refine lv_iadd hx hb dL_law_531 ?_
  refine lv_topi (fun v4 ev4 => ?_)
  obtain rfl : v4 = 1 := by rw [ev4]; decide
  refine va_sld hx hb hX hbl hbA hS (by unfold vp_in; decide) dL_law_532 ?_
  refine W.eq (g2 := F0 m 533 ls [.int (xs 1), .ref g, .int r2]) rfl ?_
  refine k_i (va_runV (As := [.int (xs 1)]) (rest := [.int r2]) ⟨hx, hb, hml, hown, hts⟩ (f_X8_count l D cI cJ H.size g g2 g3 g4 g5 g6 g7 g8 g9 g10 g12 g13 g15 g16 g17 g19 g20 g21 g22 g23 g24 g25 g26 g27 g28 g33 g34 g35 g36 g37 g38 g39 g41 g42 g44 g45 (xs 1)) (cwV 1 hts hL_law_X8_count rfl rfl rfl (by decide +kernel) ⟨Nat.le_of_ble_eq_true rfl, Nat.le_of_ble_eq_true rfl⟩) (k_preV hE hP hD [0, 1] (by decide) rfl 0 rfl rfl) rfl rfl hl.1 rfl (lv_room (Nat.le_of_ble_eq_true rfl)) dL_law_533 ⟨Nat.le_of_ble_eq_true rfl, Nat.le_of_ble_eq_true rfl⟩) hP hD hS hA [0, 1] [] rfl (wr := []) rfl (by decide) (by decide) (fun r5 u H locs hw6 hP hD hS => ?_)
  obtain ⟨hw6, rfl⟩ := hw6
  have hP : va_P D vwCl [] H := hP
  have hD : va_D (fun q : Nat => s.heap.size ≤ q) [] := hD
  refine lv_icmp_eq (tgt := 1651) hx hb dL_law_536 (by decide) (fun _ => ?_) (fun c7 => absurd (hw3.trans hw6.symm) c7)
  refine W.widen (k := 90) (n := 1144) (Nat.le_of_ble_eq_true rfl) (Nat.le_of_ble_eq_true rfl) ?_
  exact kend _ _ _ hS (lv_sub hl [0, 1, 2, 3, 4] rfl)
set_option maxHeartbeats 4000000 in
set_option maxRecDepth 100000 in
theorem arm_9 {p : Program} {l : Launch} {e : Env} {s : State} {m : MethodId} {below : List Frame} {meth : Method} {c : Code} {b : Nat} {xs : Nat → Int32} {D : va_G} {cI cJ : ClassId} {Q : State → Prop} (C : LC p l s m c b xs D cI cJ) {x x0 x1 x2 x3 x4 x5 s1 s2 s5 s6 s7 s8 s9 s10 s11 b0 b1 b2 b3 b4 b5 b6 b7 b8 b9 b10 b11 w0 w1 w2 w3 w4 w8 d0 d1 d2 y0 y1 c0 c1 c2 c3 c6 c8 z0 z1 g g2 g3 g4 g5 g6 g7 g8 g9 g10 g12 g13 g15 g16 g17 g19 g20 g21 g22 g23 g24 g25 g26 g27 g28 g33 g34 g35 g36 g37 g38 g39 g41 g42 g44 g45 o : Nat} {H : Heap} {locs : List Loc} (hP : va_P D vwCl (LWS cI cJ x x0 x1 x2 x3 x4 x5 s1 s2 s5 s6 s7 s8 s9 s10 s11 b0 b1 b2 b3 b4 b5 b6 b7 b8 b9 b10 b11 w0 w1 w2 w3 w4 w8 d0 d1 d2 y0 y1 c0 c1 c2 c3 c6 c8 z0 z1 g g2 g3 g4 g5 g6 g7 g8 g9 g10 g12 g13 g15 g16 g17 g19 g20 g21 g22 g23 g24 g25 g26 g27 g28 g33 g34 g35 g36 g37 g38 g39 g41 g42 g44 g45 o) H) (hD : va_D (fun q : Nat => s.heap.size ≤ q) (LWS cI cJ x x0 x1 x2 x3 x4 x5 s1 s2 s5 s6 s7 s8 s9 s10 s11 b0 b1 b2 b3 b4 b5 b6 b7 b8 b9 b10 b11 w0 w1 w2 w3 w4 w8 d0 d1 d2 y0 y1 c0 c1 c2 c3 c6 c8 z0 z1 g g2 g3 g4 g5 g6 g7 g8 g9 g10 g12 g13 g15 g16 g17 g19 g20 g21 g22 g23 g24 g25 g26 g27 g28 g33 g34 g35 g36 g37 g38 g39 g41 g42 g44 g45 o)) (hS : va_S (fun q : Nat => s.heap.size ≤ q) s.heap H locs) {ls : Array Slot} (hl : lv_has ls 7 [(4, .int 0), (3, .ref o), (2, .ref g), (1, .ref x), (0, .ref b)])
    (kend : ∀ (H1 : Heap) (locs1 : List Loc) (ls1 : Array Slot), va_S (fun q : Nat => s.heap.size ≤ q) s.heap H1 locs1 → lv_has ls1 7 [(4, .int 0), (3, .ref o), (2, .ref g), (1, .ref x), (0, .ref b)] → W p l e room_1 s m #[Value.ref b] below meth c H1 locs1 90 1144 Q (F0 m 1651 ls1 [])) : W p l e room_1 s m #[Value.ref b] below meth c H locs 84 1104 Q (F0 m 541 ls []) := by
  obtain ⟨hx, hb, hml, hown, hts, hE, hX, hbl, hXw, hl9⟩ := C
  have hA : ∀ q : Nat, s.heap.size ≤ q → (fun q : Nat => s.heap.size ≤ q) q := fun _ h => h
  have hbA : ¬ (fun q : Nat => s.heap.size ≤ q) b := Nat.not_le.mpr hbl
  have hP : va_P D vwCl [(x, .inr (7, [.ref x0, .ref x1, .ref x2, .ref x3, .ref x4, .ref x5])), (x0, .inr (0, [.ref b0, .ref b1, .ref b2, .ref b3, .ref b4, .ref b5, .ref b6, .ref b7, .ref b8, .ref b9, .ref b10, .ref b11, .int 0, .int 0, .int 0])), (g, .inr (8, [.int 0, .int 0, .ref g2, .ref g3, .ref g4, .ref g5, .ref g6, .ref g7, .ref g8, .ref g9, .ref g10, .int 0, .ref g12, .ref g13, .int 0, .ref g15, .ref g16, .ref g17, .int 0, .ref g19, .ref g20, .ref g21, .ref g22, .ref g23, .ref g24, .ref g25, .ref g26, .ref g27, .ref g28, .int 0, .int 0, .int 0, .int 0, .ref g33, .ref g34, .ref g35, .ref g36, .ref g37, .ref g38, .ref g39, .int 0, .ref g41, .ref g42, .int 0, .ref g44, .ref g45]))] H := k_sub hP [0, 10, 47] rfl
  have hD : va_D (fun q : Nat => s.heap.size ≤ q) [(x, .inr (7, [.ref x0, .ref x1, .ref x2, .ref x3, .ref x4, .ref x5])), (x0, .inr (0, [.ref b0, .ref b1, .ref b2, .ref b3, .ref b4, .ref b5, .ref b6, .ref b7, .ref b8, .ref b9, .ref b10, .ref b11, .int 0, .int 0, .int 0])), (g, .inr (8, [.int 0, .int 0, .ref g2, .ref g3, .ref g4, .ref g5, .ref g6, .ref g7, .ref g8, .ref g9, .ref g10, .int 0, .ref g12, .ref g13, .int 0, .ref g15, .ref g16, .ref g17, .int 0, .ref g19, .ref g20, .ref g21, .ref g22, .ref g23, .ref g24, .ref g25, .ref g26, .ref g27, .ref g28, .int 0, .int 0, .int 0, .int 0, .ref g33, .ref g34, .ref g35, .ref g36, .ref g37, .ref g38, .ref g39, .int 0, .ref g41, .ref g42, .int 0, .ref g44, .ref g45]))] := hD.sub [0, 10, 47] (by decide) rfl
  refine lv_aload_n hx hb dL_law_541 rfl (lv_at hl 3 rfl) ?_
  refine lv_aload_n hx hb dL_law_542 rfl (lv_at hl 4 rfl) ?_
  refine lv_iload hx hb dL_law_543 (lv_at hl 0 rfl) ?_
  refine lv_iconst (v := 1) hx hb dL_law_545 (by decide) ?_
  refine lv_iadd hx hb dL_law_546 ?_
  refine lv_topi (fun v1 ev1 => ?_)
  obtain rfl : v1 = 1 := by rw [ev1]; decide
  refine va_sld hx hb hX hbl hbA hS (by unfold vp_in; decide) dL_law_547 ?_
  refine W.eq (g2 := F0 m 548 ls [.int (xs 1), .ref x]) rfl ?_
  refine lv_aload_n hx hb dL_law_548 rfl (lv_at hl 4 rfl) ?_
  refine lv_iload hx hb dL_law_549 (lv_at hl 0 rfl) ?_
  refine lv_iconst (v := 2) hx hb dL_law_551 (by decide) ?_
  refine lv_iadd hx hb dL_law_552 ?_
  refine lv_topi (fun v2 ev2 => ?_)
  obtain rfl : v2 = 2 := by rw [ev2]; decide
  refine va_sld hx hb hX hbl hbA hS (by unfold vp_in; decide) dL_law_553 ?_
  refine W.eq (g2 := F0 m 554 ls [.int (xs 2), .int (xs 1), .ref x]) rfl ?_
  refine lv_aload_n hx hb dL_law_554 rfl (lv_at hl 1 rfl) ?_
  refine k_i (vx_runSW (As := [.ref x, .int (xs 1), .int (xs 2), .ref o]) (rest := []) ⟨hx, hb, hml, hown, hts⟩ (k_L_of l hl9 D cI cJ H.size x x0 x1 x2 x3 x4 x5 b0 b1 b2 b3 b4 b5 b6 b7 b8 b9 b10 b11 o (xs 1) (xs 2)) (vx_cwSW 4 hts hL_law_L_of rfl rfl rfl (by decide +kernel) ⟨Nat.le_of_ble_eq_true rfl, Nat.le_of_ble_eq_true rfl⟩) (k_prex hE hP hD hS hA hXw [0, 1] (by decide) rfl) rfl rfl hl.1 rfl (lv_room (Nat.le_of_ble_eq_true rfl)) dL_law_555 ⟨Nat.le_of_ble_eq_true rfl, Nat.le_of_ble_eq_true rfl⟩) hP hD hS hA [0, 1] [2] rfl (wr := [(g, .inr (8, [.int 0, .int 0, .ref g2, .ref g3, .ref g4, .ref g5, .ref g6, .ref g7, .ref g8, .ref g9, .ref g10, .int 0, .ref g12, .ref g13, .int 0, .ref g15, .ref g16, .ref g17, .int 0, .ref g19, .ref g20, .ref g21, .ref g22, .ref g23, .ref g24, .ref g25, .ref g26, .ref g27, .ref g28, .int 0, .int 0, .int 0, .int 0, .ref g33, .ref g34, .ref g35, .ref g36, .ref g37, .ref g38, .ref g39, .int 0, .ref g41, .ref g42, .int 0, .ref g44, .ref g45]))]) rfl (by decide) (by decide) (fun r3 u H locs hw4 hP hD hS => ?_)
  refine W.widen (k := 85) (n := 1110) (Nat.le_of_ble_eq_true rfl) (Nat.le_of_ble_eq_true rfl) ?_
  obtain ⟨rfl, rfl⟩ := hw4
  have hP : va_P D vwCl [(g, .inr (8, [.int 0, .int 0, .ref g2, .ref g3, .ref g4, .ref g5, .ref g6, .ref g7, .ref g8, .ref g9, .ref g10, .int 0, .ref g12, .ref g13, .int 0, .ref g15, .ref g16, .ref g17, .int 0, .ref g19, .ref g20, .ref g21, .ref g22, .ref g23, .ref g24, .ref g25, .ref g26, .ref g27, .ref g28, .int 0, .int 0, .int 0, .int 0, .ref g33, .ref g34, .ref g35, .ref g36, .ref g37, .ref g38, .ref g39, .int 0, .ref g41, .ref g42, .int 0, .ref g44, .ref g45]))] H := hP
  have hD : va_D (fun q : Nat => s.heap.size ≤ q) [(g, .inr (8, [.int 0, .int 0, .ref g2, .ref g3, .ref g4, .ref g5, .ref g6, .ref g7, .ref g8, .ref g9, .ref g10, .int 0, .ref g12, .ref g13, .int 0, .ref g15, .ref g16, .ref g17, .int 0, .ref g19, .ref g20, .ref g21, .ref g22, .ref g23, .ref g24, .ref g25, .ref g26, .ref g27, .ref g28, .int 0, .int 0, .int 0, .int 0, .ref g33, .ref g34, .ref g35, .ref g36, .ref g37, .ref g38, .ref g39, .int 0, .ref g41, .ref g42, .int 0, .ref g44, .ref g45]))] := hD
  refine lv_istore (lv' := [(5, .int 1), (4, .int 0), (3, .ref o), (2, .ref g), (1, .ref x), (0, .ref b)]) hx hb dL_law_558 hl (by decide) rfl (fun ls hl => ?_)
  refine lv_aload_n hx hb dL_law_560 rfl (lv_at hl 3 rfl) ?_
  refine lv_aload_n hx hb dL_law_561 rfl (lv_at hl 5 rfl) ?_
  refine lv_iload hx hb dL_law_562 (lv_at hl 1 rfl) ?_
  refine lv_iconst (v := 1) hx hb dL_law_564 (by decide) ?_
  refine lv_iadd hx hb dL_law_565 ?_
  refine lv_topi (fun v5 ev5 => ?_)
  obtain rfl : v5 = 1 := by rw [ev5]; decide
  refine va_sld hx hb hX hbl hbA hS (by unfold vp_in; decide) dL_law_566 ?_
  refine W.eq (g2 := F0 m 567 ls [.int (xs 1), .ref g]) rfl ?_
  refine lv_aload_n hx hb dL_law_567 rfl (lv_at hl 5 rfl) ?_
  refine lv_iload hx hb dL_law_568 (lv_at hl 1 rfl) ?_
  refine lv_iconst (v := 2) hx hb dL_law_570 (by decide) ?_
  refine lv_iadd hx hb dL_law_571 ?_
  refine lv_topi (fun v6 ev6 => ?_)
  obtain rfl : v6 = 2 := by rw [ev6]; decide
  refine va_sld hx hb hX hbl hbA hS (by unfold vp_in; decide) dL_law_572 ?_
  refine W.eq (g2 := F0 m 573 ls [.int (xs 2), .int (xs 1), .ref g]) rfl ?_
  refine k_i (va_runV (As := [.int (xs 1), .int (xs 2)]) (rest := []) ⟨hx, hb, hml, hown, hts⟩ (f_X8_of l D cI cJ H.size g g2 g3 g4 g5 g6 g7 g8 g9 g10 g12 g13 g15 g16 g17 g19 g20 g21 g22 g23 g24 g25 g26 g27 g28 g33 g34 g35 g36 g37 g38 g39 g41 g42 g44 g45 (xs 1) (xs 2)) (cwV 2 hts hL_law_X8_of rfl rfl rfl (by decide +kernel) ⟨Nat.le_of_ble_eq_true rfl, Nat.le_of_ble_eq_true rfl⟩) (k_preV hE hP hD [0] (by decide) rfl 0 rfl rfl) rfl rfl hl.1 rfl (lv_room (Nat.le_of_ble_eq_true rfl)) dL_law_573 ⟨Nat.le_of_ble_eq_true rfl, Nat.le_of_ble_eq_true rfl⟩) hP hD hS hA [0] [] rfl (wr := []) rfl (by decide) (by decide) (fun r7 u H locs hw8 hP hD hS => ?_)
  obtain ⟨rfl, rfl⟩ := hw8
  have hP : va_P D vwCl [(g, .inr (8, [.int 1, .int 0, .ref g2, .ref g3, .ref g4, .ref g5, .ref g6, .ref g7, .ref g8, .ref g9, .ref g10, .int 0, .ref g12, .ref g13, .int 0, .ref g15, .ref g16, .ref g17, .int 0, .ref g19, .ref g20, .ref g21, .ref g22, .ref g23, .ref g24, .ref g25, .ref g26, .ref g27, .ref g28, .int 0, .int 0, .int 0, .int 0, .ref g33, .ref g34, .ref g35, .ref g36, .ref g37, .ref g38, .ref g39, .int 0, .ref g41, .ref g42, .int 0, .ref g44, .ref g45]))] H := hP
  have hD : va_D (fun q : Nat => s.heap.size ≤ q) [(g, .inr (8, [.int 1, .int 0, .ref g2, .ref g3, .ref g4, .ref g5, .ref g6, .ref g7, .ref g8, .ref g9, .ref g10, .int 0, .ref g12, .ref g13, .int 0, .ref g15, .ref g16, .ref g17, .int 0, .ref g19, .ref g20, .ref g21, .ref g22, .ref g23, .ref g24, .ref g25, .ref g26, .ref g27, .ref g28, .int 0, .int 0, .int 0, .int 0, .ref g33, .ref g34, .ref g35, .ref g36, .ref g37, .ref g38, .ref g39, .int 0, .ref g41, .ref g42, .int 0, .ref g44, .ref g45]))] := hD
  refine lv_istore (lv' := [(6, .int 0), (5, .int 1), (4, .int 0), (3, .ref o), (2, .ref g), (1, .ref x), (0, .ref b)]) hx hb dL_law_576 hl (by decide) rfl (fun ls hl => ?_)
  refine lv_aload_n hx hb dL_law_578 rfl (lv_at hl 4 rfl) ?_
  refine k_i (va_runV (As := []) (rest := []) ⟨hx, hb, hml, hown, hts⟩ (m_X8_thrown l D cI cJ H.size g g2 g3 g4 g5 g6 g7 g8 g9 g10 g12 g13 g15 g16 g17 g19 g20 g21 g22 g23 g24 g25 g26 g27 g28 g33 g34 g35 g36 g37 g38 g39 g41 g42 g44 g45 1 0 0 0 0 0 0 0 0 0 0) (cwV 0 hts hL_law_X8_thrown rfl rfl rfl (by decide +kernel) ⟨Nat.le_of_ble_eq_true rfl, Nat.le_of_ble_eq_true rfl⟩) (k_preV hE hP hD [0] (by decide) rfl 0 rfl rfl) rfl rfl hl.1 rfl (lv_room (Nat.le_of_ble_eq_true rfl)) dL_law_579 ⟨Nat.le_of_ble_eq_true rfl, Nat.le_of_ble_eq_true rfl⟩) hP hD hS hA [0] [] rfl (wr := []) rfl (by decide) (by decide) (fun r9 u H locs hw10 hP hD hS => ?_)
  obtain ⟨rfl, rfl⟩ := hw10
  have hP : va_P D vwCl [(g, .inr (8, [.int 1, .int 0, .ref g2, .ref g3, .ref g4, .ref g5, .ref g6, .ref g7, .ref g8, .ref g9, .ref g10, .int 0, .ref g12, .ref g13, .int 0, .ref g15, .ref g16, .ref g17, .int 0, .ref g19, .ref g20, .ref g21, .ref g22, .ref g23, .ref g24, .ref g25, .ref g26, .ref g27, .ref g28, .int 0, .int 0, .int 0, .int 0, .ref g33, .ref g34, .ref g35, .ref g36, .ref g37, .ref g38, .ref g39, .int 0, .ref g41, .ref g42, .int 0, .ref g44, .ref g45]))] H := hP
  have hD : va_D (fun q : Nat => s.heap.size ≤ q) [(g, .inr (8, [.int 1, .int 0, .ref g2, .ref g3, .ref g4, .ref g5, .ref g6, .ref g7, .ref g8, .ref g9, .ref g10, .int 0, .ref g12, .ref g13, .int 0, .ref g15, .ref g16, .ref g17, .int 0, .ref g19, .ref g20, .ref g21, .ref g22, .ref g23, .ref g24, .ref g25, .ref g26, .ref g27, .ref g28, .int 0, .int 0, .int 0, .int 0, .ref g33, .ref g34, .ref g35, .ref g36, .ref g37, .ref g38, .ref g39, .int 0, .ref g41, .ref g42, .int 0, .ref g44, .ref g45]))] := hD
  refine lv_iload hx hb dL_law_582 (lv_at hl 1 rfl) ?_
  refine lv_icmp_eq (tgt := 589) hx hb dL_law_584 (by decide) (fun _ => ?_) (fun c11 => absurd (by decide) c11)
  refine lv_iload hx hb dL_law_589 (lv_at hl 1 rfl) ?_
  refine lv_if_ne (tgt := 606) hx hb dL_law_591 (by decide) (fun _ => ?_) (fun c12 => absurd c12 (by decide))
  refine lv_goto (tgt := 1651) hx hb dL_law_606 (by decide) ?_
  refine W.widen (k := 90) (n := 1144) (Nat.le_of_ble_eq_true rfl) (Nat.le_of_ble_eq_true rfl) ?_
  exact kend _ _ _ hS (lv_sub hl [2, 3, 4, 5, 6] rfl)
set_option maxHeartbeats 4000000 in
set_option maxRecDepth 100000 in
theorem arm_10 {p : Program} {l : Launch} {e : Env} {s : State} {m : MethodId} {below : List Frame} {meth : Method} {c : Code} {b : Nat} {xs : Nat → Int32} {D : va_G} {cI cJ : ClassId} {Q : State → Prop} (C : LC p l s m c b xs D cI cJ) {x x0 x1 x2 x3 x4 x5 s1 s2 s5 s6 s7 s8 s9 s10 s11 b0 b1 b2 b3 b4 b5 b6 b7 b8 b9 b10 b11 w0 w1 w2 w3 w4 w8 d0 d1 d2 y0 y1 c0 c1 c2 c3 c6 c8 z0 z1 g g2 g3 g4 g5 g6 g7 g8 g9 g10 g12 g13 g15 g16 g17 g19 g20 g21 g22 g23 g24 g25 g26 g27 g28 g33 g34 g35 g36 g37 g38 g39 g41 g42 g44 g45 o : Nat} {H : Heap} {locs : List Loc} (hP : va_P D vwCl (LWS cI cJ x x0 x1 x2 x3 x4 x5 s1 s2 s5 s6 s7 s8 s9 s10 s11 b0 b1 b2 b3 b4 b5 b6 b7 b8 b9 b10 b11 w0 w1 w2 w3 w4 w8 d0 d1 d2 y0 y1 c0 c1 c2 c3 c6 c8 z0 z1 g g2 g3 g4 g5 g6 g7 g8 g9 g10 g12 g13 g15 g16 g17 g19 g20 g21 g22 g23 g24 g25 g26 g27 g28 g33 g34 g35 g36 g37 g38 g39 g41 g42 g44 g45 o) H) (hD : va_D (fun q : Nat => s.heap.size ≤ q) (LWS cI cJ x x0 x1 x2 x3 x4 x5 s1 s2 s5 s6 s7 s8 s9 s10 s11 b0 b1 b2 b3 b4 b5 b6 b7 b8 b9 b10 b11 w0 w1 w2 w3 w4 w8 d0 d1 d2 y0 y1 c0 c1 c2 c3 c6 c8 z0 z1 g g2 g3 g4 g5 g6 g7 g8 g9 g10 g12 g13 g15 g16 g17 g19 g20 g21 g22 g23 g24 g25 g26 g27 g28 g33 g34 g35 g36 g37 g38 g39 g41 g42 g44 g45 o)) (hS : va_S (fun q : Nat => s.heap.size ≤ q) s.heap H locs) {ls : Array Slot} (hl : lv_has ls 7 [(4, .int 0), (3, .ref o), (2, .ref g), (1, .ref x), (0, .ref b)])
    (kend : ∀ (H1 : Heap) (locs1 : List Loc) (ls1 : Array Slot), va_S (fun q : Nat => s.heap.size ≤ q) s.heap H1 locs1 → lv_has ls1 7 [(4, .int 0), (3, .ref o), (2, .ref g), (1, .ref x), (0, .ref b)] → W p l e room_1 s m #[Value.ref b] below meth c H1 locs1 90 1144 Q (F0 m 1651 ls1 [])) : W p l e room_1 s m #[Value.ref b] below meth c H locs 84 1104 Q (F0 m 609 ls []) := by
  obtain ⟨hx, hb, hml, hown, hts, hE, hX, hbl, hXw, hl9⟩ := C
  have hA : ∀ q : Nat, s.heap.size ≤ q → (fun q : Nat => s.heap.size ≤ q) q := fun _ h => h
  have hbA : ¬ (fun q : Nat => s.heap.size ≤ q) b := Nat.not_le.mpr hbl
  have hP : va_P D vwCl [(x, .inr (7, [.ref x0, .ref x1, .ref x2, .ref x3, .ref x4, .ref x5])), (x0, .inr (0, [.ref b0, .ref b1, .ref b2, .ref b3, .ref b4, .ref b5, .ref b6, .ref b7, .ref b8, .ref b9, .ref b10, .ref b11, .int 0, .int 0, .int 0])), (g, .inr (8, [.int 0, .int 0, .ref g2, .ref g3, .ref g4, .ref g5, .ref g6, .ref g7, .ref g8, .ref g9, .ref g10, .int 0, .ref g12, .ref g13, .int 0, .ref g15, .ref g16, .ref g17, .int 0, .ref g19, .ref g20, .ref g21, .ref g22, .ref g23, .ref g24, .ref g25, .ref g26, .ref g27, .ref g28, .int 0, .int 0, .int 0, .int 0, .ref g33, .ref g34, .ref g35, .ref g36, .ref g37, .ref g38, .ref g39, .int 0, .ref g41, .ref g42, .int 0, .ref g44, .ref g45]))] H := k_sub hP [0, 10, 47] rfl
  have hD : va_D (fun q : Nat => s.heap.size ≤ q) [(x, .inr (7, [.ref x0, .ref x1, .ref x2, .ref x3, .ref x4, .ref x5])), (x0, .inr (0, [.ref b0, .ref b1, .ref b2, .ref b3, .ref b4, .ref b5, .ref b6, .ref b7, .ref b8, .ref b9, .ref b10, .ref b11, .int 0, .int 0, .int 0])), (g, .inr (8, [.int 0, .int 0, .ref g2, .ref g3, .ref g4, .ref g5, .ref g6, .ref g7, .ref g8, .ref g9, .ref g10, .int 0, .ref g12, .ref g13, .int 0, .ref g15, .ref g16, .ref g17, .int 0, .ref g19, .ref g20, .ref g21, .ref g22, .ref g23, .ref g24, .ref g25, .ref g26, .ref g27, .ref g28, .int 0, .int 0, .int 0, .int 0, .ref g33, .ref g34, .ref g35, .ref g36, .ref g37, .ref g38, .ref g39, .int 0, .ref g41, .ref g42, .int 0, .ref g44, .ref g45]))] := hD.sub [0, 10, 47] (by decide) rfl
  refine lv_aload_n hx hb dL_law_609 rfl (lv_at hl 3 rfl) ?_
  refine lv_aload_n hx hb dL_law_610 rfl (lv_at hl 4 rfl) ?_
  refine lv_iload hx hb dL_law_611 (lv_at hl 0 rfl) ?_
  refine lv_iconst (v := 1) hx hb dL_law_613 (by decide) ?_
  refine lv_iadd hx hb dL_law_614 ?_
  refine lv_topi (fun v1 ev1 => ?_)
  obtain rfl : v1 = 1 := by rw [ev1]; decide
  refine va_sld hx hb hX hbl hbA hS (by unfold vp_in; decide) dL_law_615 ?_
  refine W.eq (g2 := F0 m 616 ls [.int (xs 1), .ref x]) rfl ?_
  refine lv_aload_n hx hb dL_law_616 rfl (lv_at hl 4 rfl) ?_
  refine lv_iload hx hb dL_law_617 (lv_at hl 0 rfl) ?_
  refine lv_iconst (v := 2) hx hb dL_law_619 (by decide) ?_
  refine lv_iadd hx hb dL_law_620 ?_
  refine lv_topi (fun v2 ev2 => ?_)
  obtain rfl : v2 = 2 := by rw [ev2]; decide
  refine va_sld hx hb hX hbl hbA hS (by unfold vp_in; decide) dL_law_621 ?_
  refine W.eq (g2 := F0 m 622 ls [.int (xs 2), .int (xs 1), .ref x]) rfl ?_
  refine k_i (va_runV (As := [.int (xs 1), .int (xs 2)]) (rest := []) ⟨hx, hb, hml, hown, hts⟩ (f_X7_settled l D cI cJ H.size x x0 x1 x2 x3 x4 x5 b0 b1 b2 b3 b4 b5 b6 b7 b8 b9 b10 b11 (xs 1) (xs 2)) (cwV 2 hts hL_law_X7_settled rfl rfl rfl (by decide +kernel) ⟨Nat.le_of_ble_eq_true rfl, Nat.le_of_ble_eq_true rfl⟩) (k_preV hE hP hD [0, 1] (by decide) rfl 0 rfl rfl) rfl rfl hl.1 rfl (lv_room (Nat.le_of_ble_eq_true rfl)) dL_law_622 ⟨Nat.le_of_ble_eq_true rfl, Nat.le_of_ble_eq_true rfl⟩) hP hD hS hA [0, 1] [2] rfl (wr := [(g, .inr (8, [.int 0, .int 0, .ref g2, .ref g3, .ref g4, .ref g5, .ref g6, .ref g7, .ref g8, .ref g9, .ref g10, .int 0, .ref g12, .ref g13, .int 0, .ref g15, .ref g16, .ref g17, .int 0, .ref g19, .ref g20, .ref g21, .ref g22, .ref g23, .ref g24, .ref g25, .ref g26, .ref g27, .ref g28, .int 0, .int 0, .int 0, .int 0, .ref g33, .ref g34, .ref g35, .ref g36, .ref g37, .ref g38, .ref g39, .int 0, .ref g41, .ref g42, .int 0, .ref g44, .ref g45]))]) rfl (by decide) (by decide) (fun r3 u H locs hw4 hP hD hS => ?_)
  obtain ⟨rfl, rfl⟩ := hw4
  have hP : va_P D vwCl [(g, .inr (8, [.int 0, .int 0, .ref g2, .ref g3, .ref g4, .ref g5, .ref g6, .ref g7, .ref g8, .ref g9, .ref g10, .int 0, .ref g12, .ref g13, .int 0, .ref g15, .ref g16, .ref g17, .int 0, .ref g19, .ref g20, .ref g21, .ref g22, .ref g23, .ref g24, .ref g25, .ref g26, .ref g27, .ref g28, .int 0, .int 0, .int 0, .int 0, .ref g33, .ref g34, .ref g35, .ref g36, .ref g37, .ref g38, .ref g39, .int 0, .ref g41, .ref g42, .int 0, .ref g44, .ref g45]))] H := hP
  have hD : va_D (fun q : Nat => s.heap.size ≤ q) [(g, .inr (8, [.int 0, .int 0, .ref g2, .ref g3, .ref g4, .ref g5, .ref g6, .ref g7, .ref g8, .ref g9, .ref g10, .int 0, .ref g12, .ref g13, .int 0, .ref g15, .ref g16, .ref g17, .int 0, .ref g19, .ref g20, .ref g21, .ref g22, .ref g23, .ref g24, .ref g25, .ref g26, .ref g27, .ref g28, .int 0, .int 0, .int 0, .int 0, .ref g33, .ref g34, .ref g35, .ref g36, .ref g37, .ref g38, .ref g39, .int 0, .ref g41, .ref g42, .int 0, .ref g44, .ref g45]))] := hD
  refine lv_aload_n hx hb dL_law_625 rfl (lv_at hl 2 rfl) ?_
  refine lv_aload_n hx hb dL_law_626 rfl (lv_at hl 4 rfl) ?_
  refine lv_iload hx hb dL_law_627 (lv_at hl 0 rfl) ?_
  refine lv_iconst (v := 1) hx hb dL_law_629 (by decide) ?_
  refine lv_iadd hx hb dL_law_630 ?_
  refine lv_topi (fun v5 ev5 => ?_)
  obtain rfl : v5 = 1 := by rw [ev5]; decide
  refine va_sld hx hb hX hbl hbA hS (by unfold vp_in; decide) dL_law_631 ?_
  refine W.eq (g2 := F0 m 632 ls [.int (xs 1), .ref g, .int (-1)]) rfl ?_
  refine lv_aload_n hx hb dL_law_632 rfl (lv_at hl 4 rfl) ?_
  refine lv_iload hx hb dL_law_633 (lv_at hl 0 rfl) ?_
  refine lv_iconst (v := 2) hx hb dL_law_635 (by decide) ?_
  refine lv_iadd hx hb dL_law_636 ?_
  refine lv_topi (fun v6 ev6 => ?_)
  obtain rfl : v6 = 2 := by rw [ev6]; decide
  refine va_sld hx hb hX hbl hbA hS (by unfold vp_in; decide) dL_law_637 ?_
  refine W.eq (g2 := F0 m 638 ls [.int (xs 2), .int (xs 1), .ref g, .int (-1)]) rfl ?_
  refine k_i (va_runV (As := [.int (xs 1), .int (xs 2)]) (rest := [.int (-1)]) ⟨hx, hb, hml, hown, hts⟩ (f_X8_settled l D cI cJ H.size g g2 g3 g4 g5 g6 g7 g8 g9 g10 g12 g13 g15 g16 g17 g19 g20 g21 g22 g23 g24 g25 g26 g27 g28 g33 g34 g35 g36 g37 g38 g39 g41 g42 g44 g45 (xs 1) (xs 2)) (cwV 2 hts hL_law_X8_settled rfl rfl rfl (by decide +kernel) ⟨Nat.le_of_ble_eq_true rfl, Nat.le_of_ble_eq_true rfl⟩) (k_preV hE hP hD [0] (by decide) rfl 0 rfl rfl) rfl rfl hl.1 rfl (lv_room (Nat.le_of_ble_eq_true rfl)) dL_law_638 ⟨Nat.le_of_ble_eq_true rfl, Nat.le_of_ble_eq_true rfl⟩) hP hD hS hA [0] [] rfl (wr := []) rfl (by decide) (by decide) (fun r7 u H locs hw8 hP hD hS => ?_)
  obtain ⟨rfl, rfl⟩ := hw8
  have hP : va_P D vwCl [] H := hP
  have hD : va_D (fun q : Nat => s.heap.size ≤ q) [] := hD
  refine lv_icmp_eq (tgt := 1651) hx hb dL_law_641 (by decide) (fun _ => ?_) (fun c9 => absurd (by decide) c9)
  refine W.widen (k := 90) (n := 1144) (Nat.le_of_ble_eq_true rfl) (Nat.le_of_ble_eq_true rfl) ?_
  exact kend _ _ _ hS (lv_sub hl [0, 1, 2, 3, 4] rfl)
set_option maxHeartbeats 4000000 in
set_option maxRecDepth 100000 in
theorem arm_11 {p : Program} {l : Launch} {e : Env} {s : State} {m : MethodId} {below : List Frame} {meth : Method} {c : Code} {b : Nat} {xs : Nat → Int32} {D : va_G} {cI cJ : ClassId} {Q : State → Prop} (C : LC p l s m c b xs D cI cJ) {x x0 x1 x2 x3 x4 x5 s1 s2 s5 s6 s7 s8 s9 s10 s11 b0 b1 b2 b3 b4 b5 b6 b7 b8 b9 b10 b11 w0 w1 w2 w3 w4 w8 d0 d1 d2 y0 y1 c0 c1 c2 c3 c6 c8 z0 z1 g g2 g3 g4 g5 g6 g7 g8 g9 g10 g12 g13 g15 g16 g17 g19 g20 g21 g22 g23 g24 g25 g26 g27 g28 g33 g34 g35 g36 g37 g38 g39 g41 g42 g44 g45 o : Nat} {H : Heap} {locs : List Loc} (hP : va_P D vwCl (LWS cI cJ x x0 x1 x2 x3 x4 x5 s1 s2 s5 s6 s7 s8 s9 s10 s11 b0 b1 b2 b3 b4 b5 b6 b7 b8 b9 b10 b11 w0 w1 w2 w3 w4 w8 d0 d1 d2 y0 y1 c0 c1 c2 c3 c6 c8 z0 z1 g g2 g3 g4 g5 g6 g7 g8 g9 g10 g12 g13 g15 g16 g17 g19 g20 g21 g22 g23 g24 g25 g26 g27 g28 g33 g34 g35 g36 g37 g38 g39 g41 g42 g44 g45 o) H) (hD : va_D (fun q : Nat => s.heap.size ≤ q) (LWS cI cJ x x0 x1 x2 x3 x4 x5 s1 s2 s5 s6 s7 s8 s9 s10 s11 b0 b1 b2 b3 b4 b5 b6 b7 b8 b9 b10 b11 w0 w1 w2 w3 w4 w8 d0 d1 d2 y0 y1 c0 c1 c2 c3 c6 c8 z0 z1 g g2 g3 g4 g5 g6 g7 g8 g9 g10 g12 g13 g15 g16 g17 g19 g20 g21 g22 g23 g24 g25 g26 g27 g28 g33 g34 g35 g36 g37 g38 g39 g41 g42 g44 g45 o)) (hS : va_S (fun q : Nat => s.heap.size ≤ q) s.heap H locs) {ls : Array Slot} (hl : lv_has ls 7 [(4, .int 0), (3, .ref o), (2, .ref g), (1, .ref x), (0, .ref b)])
    (kend : ∀ (H1 : Heap) (locs1 : List Loc) (ls1 : Array Slot), va_S (fun q : Nat => s.heap.size ≤ q) s.heap H1 locs1 → lv_has ls1 7 [(4, .int 0), (3, .ref o), (2, .ref g), (1, .ref x), (0, .ref b)] → W p l e room_1 s m #[Value.ref b] below meth c H1 locs1 90 1144 Q (F0 m 1651 ls1 [])) : W p l e room_1 s m #[Value.ref b] below meth c H locs 84 1104 Q (F0 m 646 ls []) := by
  obtain ⟨hx, hb, hml, hown, hts, hE, hX, hbl, hXw, hl9⟩ := C
  have hA : ∀ q : Nat, s.heap.size ≤ q → (fun q : Nat => s.heap.size ≤ q) q := fun _ h => h
  have hbA : ¬ (fun q : Nat => s.heap.size ≤ q) b := Nat.not_le.mpr hbl
  have hP : va_P D vwCl [(x, .inr (7, [.ref x0, .ref x1, .ref x2, .ref x3, .ref x4, .ref x5])), (x0, .inr (0, [.ref b0, .ref b1, .ref b2, .ref b3, .ref b4, .ref b5, .ref b6, .ref b7, .ref b8, .ref b9, .ref b10, .ref b11, .int 0, .int 0, .int 0])), (g, .inr (8, [.int 0, .int 0, .ref g2, .ref g3, .ref g4, .ref g5, .ref g6, .ref g7, .ref g8, .ref g9, .ref g10, .int 0, .ref g12, .ref g13, .int 0, .ref g15, .ref g16, .ref g17, .int 0, .ref g19, .ref g20, .ref g21, .ref g22, .ref g23, .ref g24, .ref g25, .ref g26, .ref g27, .ref g28, .int 0, .int 0, .int 0, .int 0, .ref g33, .ref g34, .ref g35, .ref g36, .ref g37, .ref g38, .ref g39, .int 0, .ref g41, .ref g42, .int 0, .ref g44, .ref g45]))] H := k_sub hP [0, 10, 47] rfl
  have hD : va_D (fun q : Nat => s.heap.size ≤ q) [(x, .inr (7, [.ref x0, .ref x1, .ref x2, .ref x3, .ref x4, .ref x5])), (x0, .inr (0, [.ref b0, .ref b1, .ref b2, .ref b3, .ref b4, .ref b5, .ref b6, .ref b7, .ref b8, .ref b9, .ref b10, .ref b11, .int 0, .int 0, .int 0])), (g, .inr (8, [.int 0, .int 0, .ref g2, .ref g3, .ref g4, .ref g5, .ref g6, .ref g7, .ref g8, .ref g9, .ref g10, .int 0, .ref g12, .ref g13, .int 0, .ref g15, .ref g16, .ref g17, .int 0, .ref g19, .ref g20, .ref g21, .ref g22, .ref g23, .ref g24, .ref g25, .ref g26, .ref g27, .ref g28, .int 0, .int 0, .int 0, .int 0, .ref g33, .ref g34, .ref g35, .ref g36, .ref g37, .ref g38, .ref g39, .int 0, .ref g41, .ref g42, .int 0, .ref g44, .ref g45]))] := hD.sub [0, 10, 47] (by decide) rfl
  refine lv_aload_n hx hb dL_law_646 rfl (lv_at hl 3 rfl) ?_
  refine lv_aload_n hx hb dL_law_647 rfl (lv_at hl 4 rfl) ?_
  refine lv_iload hx hb dL_law_648 (lv_at hl 0 rfl) ?_
  refine lv_iconst (v := 1) hx hb dL_law_650 (by decide) ?_
  refine lv_iadd hx hb dL_law_651 ?_
  refine lv_topi (fun v1 ev1 => ?_)
  obtain rfl : v1 = 1 := by rw [ev1]; decide
  refine va_sld hx hb hX hbl hbA hS (by unfold vp_in; decide) dL_law_652 ?_
  refine W.eq (g2 := F0 m 653 ls [.int (xs 1), .ref x]) rfl ?_
  refine lv_aload_n hx hb dL_law_653 rfl (lv_at hl 4 rfl) ?_
  refine lv_iload hx hb dL_law_654 (lv_at hl 0 rfl) ?_
  refine lv_iconst (v := 2) hx hb dL_law_656 (by decide) ?_
  refine lv_iadd hx hb dL_law_657 ?_
  refine lv_topi (fun v2 ev2 => ?_)
  obtain rfl : v2 = 2 := by rw [ev2]; decide
  refine va_sld hx hb hX hbl hbA hS (by unfold vp_in; decide) dL_law_658 ?_
  refine W.eq (g2 := F0 m 659 ls [.int (xs 2), .int (xs 1), .ref x]) rfl ?_
  refine lv_aload_n hx hb dL_law_659 rfl (lv_at hl 4 rfl) ?_
  refine lv_iload hx hb dL_law_660 (lv_at hl 0 rfl) ?_
  refine lv_iconst (v := 3) hx hb dL_law_662 (by decide) ?_
  refine lv_iadd hx hb dL_law_663 ?_
  refine lv_topi (fun v3 ev3 => ?_)
  obtain rfl : v3 = 3 := by rw [ev3]; decide
  refine va_sld hx hb hX hbl hbA hS (by unfold vp_in; decide) dL_law_664 ?_
  refine W.eq (g2 := F0 m 665 ls [.int (xs 3), .int (xs 2), .int (xs 1), .ref x]) rfl ?_
  refine lv_aload_n hx hb dL_law_665 rfl (lv_at hl 1 rfl) ?_
  refine k_i (vx_runSW (As := [.ref x, .int (xs 1), .int (xs 2), .int (xs 3), .ref o]) (rest := []) ⟨hx, hb, hml, hown, hts⟩ (k_L_share l hl9 D cI cJ H.size x x0 x1 x2 x3 x4 x5 b0 b1 b2 b3 b4 b5 b6 b7 b8 b9 b10 b11 o (xs 1) (xs 2) (xs 3)) (vx_cwSW 5 hts hL_law_L_share rfl rfl rfl (by decide +kernel) ⟨Nat.le_of_ble_eq_true rfl, Nat.le_of_ble_eq_true rfl⟩) (k_prex hE hP hD hS hA hXw [0, 1] (by decide) rfl) rfl rfl hl.1 rfl (lv_room (Nat.le_of_ble_eq_true rfl)) dL_law_666 ⟨Nat.le_of_ble_eq_true rfl, Nat.le_of_ble_eq_true rfl⟩) hP hD hS hA [0, 1] [2] rfl (wr := [(g, .inr (8, [.int 0, .int 0, .ref g2, .ref g3, .ref g4, .ref g5, .ref g6, .ref g7, .ref g8, .ref g9, .ref g10, .int 0, .ref g12, .ref g13, .int 0, .ref g15, .ref g16, .ref g17, .int 0, .ref g19, .ref g20, .ref g21, .ref g22, .ref g23, .ref g24, .ref g25, .ref g26, .ref g27, .ref g28, .int 0, .int 0, .int 0, .int 0, .ref g33, .ref g34, .ref g35, .ref g36, .ref g37, .ref g38, .ref g39, .int 0, .ref g41, .ref g42, .int 0, .ref g44, .ref g45]))]) rfl (by decide) (by decide) (fun r4 u H locs hw5 hP hD hS => ?_)
  refine W.widen (k := 85) (n := 1110) (Nat.le_of_ble_eq_true rfl) (Nat.le_of_ble_eq_true rfl) ?_
  obtain ⟨rfl, rfl⟩ := hw5
  have hP : va_P D vwCl [(g, .inr (8, [.int 0, .int 0, .ref g2, .ref g3, .ref g4, .ref g5, .ref g6, .ref g7, .ref g8, .ref g9, .ref g10, .int 0, .ref g12, .ref g13, .int 0, .ref g15, .ref g16, .ref g17, .int 0, .ref g19, .ref g20, .ref g21, .ref g22, .ref g23, .ref g24, .ref g25, .ref g26, .ref g27, .ref g28, .int 0, .int 0, .int 0, .int 0, .ref g33, .ref g34, .ref g35, .ref g36, .ref g37, .ref g38, .ref g39, .int 0, .ref g41, .ref g42, .int 0, .ref g44, .ref g45]))] H := hP
  have hD : va_D (fun q : Nat => s.heap.size ≤ q) [(g, .inr (8, [.int 0, .int 0, .ref g2, .ref g3, .ref g4, .ref g5, .ref g6, .ref g7, .ref g8, .ref g9, .ref g10, .int 0, .ref g12, .ref g13, .int 0, .ref g15, .ref g16, .ref g17, .int 0, .ref g19, .ref g20, .ref g21, .ref g22, .ref g23, .ref g24, .ref g25, .ref g26, .ref g27, .ref g28, .int 0, .int 0, .int 0, .int 0, .ref g33, .ref g34, .ref g35, .ref g36, .ref g37, .ref g38, .ref g39, .int 0, .ref g41, .ref g42, .int 0, .ref g44, .ref g45]))] := hD
  refine lv_istore (lv' := [(5, .int 1), (4, .int 0), (3, .ref o), (2, .ref g), (1, .ref x), (0, .ref b)]) hx hb dL_law_669 hl (by decide) rfl (fun ls hl => ?_)
  refine lv_aload_n hx hb dL_law_671 rfl (lv_at hl 3 rfl) ?_
  refine lv_aload_n hx hb dL_law_672 rfl (lv_at hl 5 rfl) ?_
  refine lv_iload hx hb dL_law_673 (lv_at hl 1 rfl) ?_
  refine lv_iconst (v := 1) hx hb dL_law_675 (by decide) ?_
  refine lv_iadd hx hb dL_law_676 ?_
  refine lv_topi (fun v6 ev6 => ?_)
  obtain rfl : v6 = 1 := by rw [ev6]; decide
  refine va_sld hx hb hX hbl hbA hS (by unfold vp_in; decide) dL_law_677 ?_
  refine W.eq (g2 := F0 m 678 ls [.int (xs 1), .ref g]) rfl ?_
  refine lv_aload_n hx hb dL_law_678 rfl (lv_at hl 5 rfl) ?_
  refine lv_iload hx hb dL_law_679 (lv_at hl 1 rfl) ?_
  refine lv_iconst (v := 2) hx hb dL_law_681 (by decide) ?_
  refine lv_iadd hx hb dL_law_682 ?_
  refine lv_topi (fun v7 ev7 => ?_)
  obtain rfl : v7 = 2 := by rw [ev7]; decide
  refine va_sld hx hb hX hbl hbA hS (by unfold vp_in; decide) dL_law_683 ?_
  refine W.eq (g2 := F0 m 684 ls [.int (xs 2), .int (xs 1), .ref g]) rfl ?_
  refine lv_aload_n hx hb dL_law_684 rfl (lv_at hl 5 rfl) ?_
  refine lv_iload hx hb dL_law_685 (lv_at hl 1 rfl) ?_
  refine lv_iconst (v := 3) hx hb dL_law_687 (by decide) ?_
  refine lv_iadd hx hb dL_law_688 ?_
  refine lv_topi (fun v8 ev8 => ?_)
  obtain rfl : v8 = 3 := by rw [ev8]; decide
  refine va_sld hx hb hX hbl hbA hS (by unfold vp_in; decide) dL_law_689 ?_
  refine W.eq (g2 := F0 m 690 ls [.int (xs 3), .int (xs 2), .int (xs 1), .ref g]) rfl ?_
  refine k_i (va_runV (As := [.int (xs 1), .int (xs 2), .int (xs 3)]) (rest := []) ⟨hx, hb, hml, hown, hts⟩ (f_X8_share l D cI cJ H.size g g2 g3 g4 g5 g6 g7 g8 g9 g10 g12 g13 g15 g16 g17 g19 g20 g21 g22 g23 g24 g25 g26 g27 g28 g33 g34 g35 g36 g37 g38 g39 g41 g42 g44 g45 (xs 1) (xs 2) (xs 3)) (cwV 3 hts hL_law_X8_share rfl rfl rfl (by decide +kernel) ⟨Nat.le_of_ble_eq_true rfl, Nat.le_of_ble_eq_true rfl⟩) (k_preV hE hP hD [0] (by decide) rfl 0 rfl rfl) rfl rfl hl.1 rfl (lv_room (Nat.le_of_ble_eq_true rfl)) dL_law_690 ⟨Nat.le_of_ble_eq_true rfl, Nat.le_of_ble_eq_true rfl⟩) hP hD hS hA [0] [] rfl (wr := []) rfl (by decide) (by decide) (fun r9 u H locs hw10 hP hD hS => ?_)
  obtain ⟨rfl, rfl⟩ := hw10
  have hP : va_P D vwCl [(g, .inr (8, [.int 1, .int 0, .ref g2, .ref g3, .ref g4, .ref g5, .ref g6, .ref g7, .ref g8, .ref g9, .ref g10, .int 0, .ref g12, .ref g13, .int 0, .ref g15, .ref g16, .ref g17, .int 0, .ref g19, .ref g20, .ref g21, .ref g22, .ref g23, .ref g24, .ref g25, .ref g26, .ref g27, .ref g28, .int 0, .int 0, .int 0, .int 0, .ref g33, .ref g34, .ref g35, .ref g36, .ref g37, .ref g38, .ref g39, .int 0, .ref g41, .ref g42, .int 0, .ref g44, .ref g45]))] H := hP
  have hD : va_D (fun q : Nat => s.heap.size ≤ q) [(g, .inr (8, [.int 1, .int 0, .ref g2, .ref g3, .ref g4, .ref g5, .ref g6, .ref g7, .ref g8, .ref g9, .ref g10, .int 0, .ref g12, .ref g13, .int 0, .ref g15, .ref g16, .ref g17, .int 0, .ref g19, .ref g20, .ref g21, .ref g22, .ref g23, .ref g24, .ref g25, .ref g26, .ref g27, .ref g28, .int 0, .int 0, .int 0, .int 0, .ref g33, .ref g34, .ref g35, .ref g36, .ref g37, .ref g38, .ref g39, .int 0, .ref g41, .ref g42, .int 0, .ref g44, .ref g45]))] := hD
  refine lv_istore (lv' := [(6, .int 0), (5, .int 1), (4, .int 0), (3, .ref o), (2, .ref g), (1, .ref x), (0, .ref b)]) hx hb dL_law_693 hl (by decide) rfl (fun ls hl => ?_)
  refine lv_aload_n hx hb dL_law_695 rfl (lv_at hl 4 rfl) ?_
  refine k_i (va_runV (As := []) (rest := []) ⟨hx, hb, hml, hown, hts⟩ (m_X8_thrown l D cI cJ H.size g g2 g3 g4 g5 g6 g7 g8 g9 g10 g12 g13 g15 g16 g17 g19 g20 g21 g22 g23 g24 g25 g26 g27 g28 g33 g34 g35 g36 g37 g38 g39 g41 g42 g44 g45 1 0 0 0 0 0 0 0 0 0 0) (cwV 0 hts hL_law_X8_thrown rfl rfl rfl (by decide +kernel) ⟨Nat.le_of_ble_eq_true rfl, Nat.le_of_ble_eq_true rfl⟩) (k_preV hE hP hD [0] (by decide) rfl 0 rfl rfl) rfl rfl hl.1 rfl (lv_room (Nat.le_of_ble_eq_true rfl)) dL_law_696 ⟨Nat.le_of_ble_eq_true rfl, Nat.le_of_ble_eq_true rfl⟩) hP hD hS hA [0] [] rfl (wr := []) rfl (by decide) (by decide) (fun r11 u H locs hw12 hP hD hS => ?_)
  obtain ⟨rfl, rfl⟩ := hw12
  have hP : va_P D vwCl [(g, .inr (8, [.int 1, .int 0, .ref g2, .ref g3, .ref g4, .ref g5, .ref g6, .ref g7, .ref g8, .ref g9, .ref g10, .int 0, .ref g12, .ref g13, .int 0, .ref g15, .ref g16, .ref g17, .int 0, .ref g19, .ref g20, .ref g21, .ref g22, .ref g23, .ref g24, .ref g25, .ref g26, .ref g27, .ref g28, .int 0, .int 0, .int 0, .int 0, .ref g33, .ref g34, .ref g35, .ref g36, .ref g37, .ref g38, .ref g39, .int 0, .ref g41, .ref g42, .int 0, .ref g44, .ref g45]))] H := hP
  have hD : va_D (fun q : Nat => s.heap.size ≤ q) [(g, .inr (8, [.int 1, .int 0, .ref g2, .ref g3, .ref g4, .ref g5, .ref g6, .ref g7, .ref g8, .ref g9, .ref g10, .int 0, .ref g12, .ref g13, .int 0, .ref g15, .ref g16, .ref g17, .int 0, .ref g19, .ref g20, .ref g21, .ref g22, .ref g23, .ref g24, .ref g25, .ref g26, .ref g27, .ref g28, .int 0, .int 0, .int 0, .int 0, .ref g33, .ref g34, .ref g35, .ref g36, .ref g37, .ref g38, .ref g39, .int 0, .ref g41, .ref g42, .int 0, .ref g44, .ref g45]))] := hD
  refine lv_iload hx hb dL_law_699 (lv_at hl 1 rfl) ?_
  refine lv_icmp_eq (tgt := 706) hx hb dL_law_701 (by decide) (fun _ => ?_) (fun c13 => absurd (by decide) c13)
  refine lv_iload hx hb dL_law_706 (lv_at hl 1 rfl) ?_
  refine lv_if_ne (tgt := 723) hx hb dL_law_708 (by decide) (fun _ => ?_) (fun c14 => absurd c14 (by decide))
  refine lv_goto (tgt := 1651) hx hb dL_law_723 (by decide) ?_
  refine W.widen (k := 90) (n := 1144) (Nat.le_of_ble_eq_true rfl) (Nat.le_of_ble_eq_true rfl) ?_
  exact kend _ _ _ hS (lv_sub hl [2, 3, 4, 5, 6] rfl)
set_option maxHeartbeats 4000000 in
set_option maxRecDepth 100000 in
theorem arm_12 {p : Program} {l : Launch} {e : Env} {s : State} {m : MethodId} {below : List Frame} {meth : Method} {c : Code} {b : Nat} {xs : Nat → Int32} {D : va_G} {cI cJ : ClassId} {Q : State → Prop} (C : LC p l s m c b xs D cI cJ) {x x0 x1 x2 x3 x4 x5 s1 s2 s5 s6 s7 s8 s9 s10 s11 b0 b1 b2 b3 b4 b5 b6 b7 b8 b9 b10 b11 w0 w1 w2 w3 w4 w8 d0 d1 d2 y0 y1 c0 c1 c2 c3 c6 c8 z0 z1 g g2 g3 g4 g5 g6 g7 g8 g9 g10 g12 g13 g15 g16 g17 g19 g20 g21 g22 g23 g24 g25 g26 g27 g28 g33 g34 g35 g36 g37 g38 g39 g41 g42 g44 g45 o : Nat} {H : Heap} {locs : List Loc} (hP : va_P D vwCl (LWS cI cJ x x0 x1 x2 x3 x4 x5 s1 s2 s5 s6 s7 s8 s9 s10 s11 b0 b1 b2 b3 b4 b5 b6 b7 b8 b9 b10 b11 w0 w1 w2 w3 w4 w8 d0 d1 d2 y0 y1 c0 c1 c2 c3 c6 c8 z0 z1 g g2 g3 g4 g5 g6 g7 g8 g9 g10 g12 g13 g15 g16 g17 g19 g20 g21 g22 g23 g24 g25 g26 g27 g28 g33 g34 g35 g36 g37 g38 g39 g41 g42 g44 g45 o) H) (hD : va_D (fun q : Nat => s.heap.size ≤ q) (LWS cI cJ x x0 x1 x2 x3 x4 x5 s1 s2 s5 s6 s7 s8 s9 s10 s11 b0 b1 b2 b3 b4 b5 b6 b7 b8 b9 b10 b11 w0 w1 w2 w3 w4 w8 d0 d1 d2 y0 y1 c0 c1 c2 c3 c6 c8 z0 z1 g g2 g3 g4 g5 g6 g7 g8 g9 g10 g12 g13 g15 g16 g17 g19 g20 g21 g22 g23 g24 g25 g26 g27 g28 g33 g34 g35 g36 g37 g38 g39 g41 g42 g44 g45 o)) (hS : va_S (fun q : Nat => s.heap.size ≤ q) s.heap H locs) {ls : Array Slot} (hl : lv_has ls 7 [(4, .int 0), (3, .ref o), (2, .ref g), (1, .ref x), (0, .ref b)])
    (kend : ∀ (H1 : Heap) (locs1 : List Loc) (ls1 : Array Slot), va_S (fun q : Nat => s.heap.size ≤ q) s.heap H1 locs1 → lv_has ls1 7 [(4, .int 0), (3, .ref o), (2, .ref g), (1, .ref x), (0, .ref b)] → W p l e room_1 s m #[Value.ref b] below meth c H1 locs1 90 1144 Q (F0 m 1651 ls1 [])) : W p l e room_1 s m #[Value.ref b] below meth c H locs 84 1104 Q (F0 m 726 ls []) := by
  obtain ⟨hx, hb, hml, hown, hts, hE, hX, hbl, hXw, hl9⟩ := C
  have hA : ∀ q : Nat, s.heap.size ≤ q → (fun q : Nat => s.heap.size ≤ q) q := fun _ h => h
  have hbA : ¬ (fun q : Nat => s.heap.size ≤ q) b := Nat.not_le.mpr hbl
  have hP : va_P D vwCl [(x, .inr (7, [.ref x0, .ref x1, .ref x2, .ref x3, .ref x4, .ref x5])), (x0, .inr (0, [.ref b0, .ref b1, .ref b2, .ref b3, .ref b4, .ref b5, .ref b6, .ref b7, .ref b8, .ref b9, .ref b10, .ref b11, .int 0, .int 0, .int 0])), (g, .inr (8, [.int 0, .int 0, .ref g2, .ref g3, .ref g4, .ref g5, .ref g6, .ref g7, .ref g8, .ref g9, .ref g10, .int 0, .ref g12, .ref g13, .int 0, .ref g15, .ref g16, .ref g17, .int 0, .ref g19, .ref g20, .ref g21, .ref g22, .ref g23, .ref g24, .ref g25, .ref g26, .ref g27, .ref g28, .int 0, .int 0, .int 0, .int 0, .ref g33, .ref g34, .ref g35, .ref g36, .ref g37, .ref g38, .ref g39, .int 0, .ref g41, .ref g42, .int 0, .ref g44, .ref g45]))] H := k_sub hP [0, 10, 47] rfl
  have hD : va_D (fun q : Nat => s.heap.size ≤ q) [(x, .inr (7, [.ref x0, .ref x1, .ref x2, .ref x3, .ref x4, .ref x5])), (x0, .inr (0, [.ref b0, .ref b1, .ref b2, .ref b3, .ref b4, .ref b5, .ref b6, .ref b7, .ref b8, .ref b9, .ref b10, .ref b11, .int 0, .int 0, .int 0])), (g, .inr (8, [.int 0, .int 0, .ref g2, .ref g3, .ref g4, .ref g5, .ref g6, .ref g7, .ref g8, .ref g9, .ref g10, .int 0, .ref g12, .ref g13, .int 0, .ref g15, .ref g16, .ref g17, .int 0, .ref g19, .ref g20, .ref g21, .ref g22, .ref g23, .ref g24, .ref g25, .ref g26, .ref g27, .ref g28, .int 0, .int 0, .int 0, .int 0, .ref g33, .ref g34, .ref g35, .ref g36, .ref g37, .ref g38, .ref g39, .int 0, .ref g41, .ref g42, .int 0, .ref g44, .ref g45]))] := hD.sub [0, 10, 47] (by decide) rfl
  refine lv_aload_n hx hb dL_law_726 rfl (lv_at hl 3 rfl) ?_
  refine lv_aload_n hx hb dL_law_727 rfl (lv_at hl 4 rfl) ?_
  refine lv_iload hx hb dL_law_728 (lv_at hl 0 rfl) ?_
  refine lv_iconst (v := 1) hx hb dL_law_730 (by decide) ?_
  refine lv_iadd hx hb dL_law_731 ?_
  refine lv_topi (fun v1 ev1 => ?_)
  obtain rfl : v1 = 1 := by rw [ev1]; decide
  refine va_sld hx hb hX hbl hbA hS (by unfold vp_in; decide) dL_law_732 ?_
  refine W.eq (g2 := F0 m 733 ls [.int (xs 1), .ref x]) rfl ?_
  refine lv_aload_n hx hb dL_law_733 rfl (lv_at hl 4 rfl) ?_
  refine lv_iload hx hb dL_law_734 (lv_at hl 0 rfl) ?_
  refine lv_iconst (v := 2) hx hb dL_law_736 (by decide) ?_
  refine lv_iadd hx hb dL_law_737 ?_
  refine lv_topi (fun v2 ev2 => ?_)
  obtain rfl : v2 = 2 := by rw [ev2]; decide
  refine va_sld hx hb hX hbl hbA hS (by unfold vp_in; decide) dL_law_738 ?_
  refine W.eq (g2 := F0 m 739 ls [.int (xs 2), .int (xs 1), .ref x]) rfl ?_
  refine k_i (va_runV (As := [.int (xs 1), .int (xs 2)]) (rest := []) ⟨hx, hb, hml, hown, hts⟩ (f_X7_part l D cI cJ H.size x x0 x1 x2 x3 x4 x5 b0 b1 b2 b3 b4 b5 b6 b7 b8 b9 b10 b11 (xs 1) (xs 2)) (cwV 2 hts hL_law_X7_part rfl rfl rfl (by decide +kernel) ⟨Nat.le_of_ble_eq_true rfl, Nat.le_of_ble_eq_true rfl⟩) (k_preV hE hP hD [0, 1] (by decide) rfl 0 rfl rfl) rfl rfl hl.1 rfl (lv_room (Nat.le_of_ble_eq_true rfl)) dL_law_739 ⟨Nat.le_of_ble_eq_true rfl, Nat.le_of_ble_eq_true rfl⟩) hP hD hS hA [0, 1] [2] rfl (wr := [(g, .inr (8, [.int 0, .int 0, .ref g2, .ref g3, .ref g4, .ref g5, .ref g6, .ref g7, .ref g8, .ref g9, .ref g10, .int 0, .ref g12, .ref g13, .int 0, .ref g15, .ref g16, .ref g17, .int 0, .ref g19, .ref g20, .ref g21, .ref g22, .ref g23, .ref g24, .ref g25, .ref g26, .ref g27, .ref g28, .int 0, .int 0, .int 0, .int 0, .ref g33, .ref g34, .ref g35, .ref g36, .ref g37, .ref g38, .ref g39, .int 0, .ref g41, .ref g42, .int 0, .ref g44, .ref g45]))]) rfl (by decide) (by decide) (fun r3 u H locs hw4 hP hD hS => ?_)
  obtain ⟨rfl, rfl⟩ := hw4
  have hP : va_P D vwCl [(g, .inr (8, [.int 0, .int 0, .ref g2, .ref g3, .ref g4, .ref g5, .ref g6, .ref g7, .ref g8, .ref g9, .ref g10, .int 0, .ref g12, .ref g13, .int 0, .ref g15, .ref g16, .ref g17, .int 0, .ref g19, .ref g20, .ref g21, .ref g22, .ref g23, .ref g24, .ref g25, .ref g26, .ref g27, .ref g28, .int 0, .int 0, .int 0, .int 0, .ref g33, .ref g34, .ref g35, .ref g36, .ref g37, .ref g38, .ref g39, .int 0, .ref g41, .ref g42, .int 0, .ref g44, .ref g45]))] H := hP
  have hD : va_D (fun q : Nat => s.heap.size ≤ q) [(g, .inr (8, [.int 0, .int 0, .ref g2, .ref g3, .ref g4, .ref g5, .ref g6, .ref g7, .ref g8, .ref g9, .ref g10, .int 0, .ref g12, .ref g13, .int 0, .ref g15, .ref g16, .ref g17, .int 0, .ref g19, .ref g20, .ref g21, .ref g22, .ref g23, .ref g24, .ref g25, .ref g26, .ref g27, .ref g28, .int 0, .int 0, .int 0, .int 0, .ref g33, .ref g34, .ref g35, .ref g36, .ref g37, .ref g38, .ref g39, .int 0, .ref g41, .ref g42, .int 0, .ref g44, .ref g45]))] := hD
  refine lv_aload_n hx hb dL_law_742 rfl (lv_at hl 2 rfl) ?_
  refine lv_aload_n hx hb dL_law_743 rfl (lv_at hl 4 rfl) ?_
  refine lv_iload hx hb dL_law_744 (lv_at hl 0 rfl) ?_
  refine lv_iconst (v := 1) hx hb dL_law_746 (by decide) ?_
  refine lv_iadd hx hb dL_law_747 ?_
  refine lv_topi (fun v5 ev5 => ?_)
  obtain rfl : v5 = 1 := by rw [ev5]; decide
  refine va_sld hx hb hX hbl hbA hS (by unfold vp_in; decide) dL_law_748 ?_
  refine W.eq (g2 := F0 m 749 ls [.int (xs 1), .ref g, .int (-1)]) rfl ?_
  refine lv_aload_n hx hb dL_law_749 rfl (lv_at hl 4 rfl) ?_
  refine lv_iload hx hb dL_law_750 (lv_at hl 0 rfl) ?_
  refine lv_iconst (v := 2) hx hb dL_law_752 (by decide) ?_
  refine lv_iadd hx hb dL_law_753 ?_
  refine lv_topi (fun v6 ev6 => ?_)
  obtain rfl : v6 = 2 := by rw [ev6]; decide
  refine va_sld hx hb hX hbl hbA hS (by unfold vp_in; decide) dL_law_754 ?_
  refine W.eq (g2 := F0 m 755 ls [.int (xs 2), .int (xs 1), .ref g, .int (-1)]) rfl ?_
  refine k_i (va_runV (As := [.int (xs 1), .int (xs 2)]) (rest := [.int (-1)]) ⟨hx, hb, hml, hown, hts⟩ (f_X8_part l D cI cJ H.size g g2 g3 g4 g5 g6 g7 g8 g9 g10 g12 g13 g15 g16 g17 g19 g20 g21 g22 g23 g24 g25 g26 g27 g28 g33 g34 g35 g36 g37 g38 g39 g41 g42 g44 g45 (xs 1) (xs 2)) (cwV 2 hts hL_law_X8_part rfl rfl rfl (by decide +kernel) ⟨Nat.le_of_ble_eq_true rfl, Nat.le_of_ble_eq_true rfl⟩) (k_preV hE hP hD [0] (by decide) rfl 0 rfl rfl) rfl rfl hl.1 rfl (lv_room (Nat.le_of_ble_eq_true rfl)) dL_law_755 ⟨Nat.le_of_ble_eq_true rfl, Nat.le_of_ble_eq_true rfl⟩) hP hD hS hA [0] [] rfl (wr := []) rfl (by decide) (by decide) (fun r7 u H locs hw8 hP hD hS => ?_)
  obtain ⟨rfl, rfl⟩ := hw8
  have hP : va_P D vwCl [] H := hP
  have hD : va_D (fun q : Nat => s.heap.size ≤ q) [] := hD
  refine lv_icmp_eq (tgt := 1651) hx hb dL_law_758 (by decide) (fun _ => ?_) (fun c9 => absurd (by decide) c9)
  refine W.widen (k := 90) (n := 1144) (Nat.le_of_ble_eq_true rfl) (Nat.le_of_ble_eq_true rfl) ?_
  exact kend _ _ _ hS (lv_sub hl [0, 1, 2, 3, 4] rfl)
set_option maxHeartbeats 4000000 in
set_option maxRecDepth 100000 in
theorem arm_13 {p : Program} {l : Launch} {e : Env} {s : State} {m : MethodId} {below : List Frame} {meth : Method} {c : Code} {b : Nat} {xs : Nat → Int32} {D : va_G} {cI cJ : ClassId} {Q : State → Prop} (C : LC p l s m c b xs D cI cJ) {x x0 x1 x2 x3 x4 x5 s1 s2 s5 s6 s7 s8 s9 s10 s11 b0 b1 b2 b3 b4 b5 b6 b7 b8 b9 b10 b11 w0 w1 w2 w3 w4 w8 d0 d1 d2 y0 y1 c0 c1 c2 c3 c6 c8 z0 z1 g g2 g3 g4 g5 g6 g7 g8 g9 g10 g12 g13 g15 g16 g17 g19 g20 g21 g22 g23 g24 g25 g26 g27 g28 g33 g34 g35 g36 g37 g38 g39 g41 g42 g44 g45 o : Nat} {H : Heap} {locs : List Loc} (hP : va_P D vwCl (LWS cI cJ x x0 x1 x2 x3 x4 x5 s1 s2 s5 s6 s7 s8 s9 s10 s11 b0 b1 b2 b3 b4 b5 b6 b7 b8 b9 b10 b11 w0 w1 w2 w3 w4 w8 d0 d1 d2 y0 y1 c0 c1 c2 c3 c6 c8 z0 z1 g g2 g3 g4 g5 g6 g7 g8 g9 g10 g12 g13 g15 g16 g17 g19 g20 g21 g22 g23 g24 g25 g26 g27 g28 g33 g34 g35 g36 g37 g38 g39 g41 g42 g44 g45 o) H) (hD : va_D (fun q : Nat => s.heap.size ≤ q) (LWS cI cJ x x0 x1 x2 x3 x4 x5 s1 s2 s5 s6 s7 s8 s9 s10 s11 b0 b1 b2 b3 b4 b5 b6 b7 b8 b9 b10 b11 w0 w1 w2 w3 w4 w8 d0 d1 d2 y0 y1 c0 c1 c2 c3 c6 c8 z0 z1 g g2 g3 g4 g5 g6 g7 g8 g9 g10 g12 g13 g15 g16 g17 g19 g20 g21 g22 g23 g24 g25 g26 g27 g28 g33 g34 g35 g36 g37 g38 g39 g41 g42 g44 g45 o)) (hS : va_S (fun q : Nat => s.heap.size ≤ q) s.heap H locs) {ls : Array Slot} (hl : lv_has ls 7 [(4, .int 0), (3, .ref o), (2, .ref g), (1, .ref x), (0, .ref b)])
    (kend : ∀ (H1 : Heap) (locs1 : List Loc) (ls1 : Array Slot), va_S (fun q : Nat => s.heap.size ≤ q) s.heap H1 locs1 → lv_has ls1 7 [(4, .int 0), (3, .ref o), (2, .ref g), (1, .ref x), (0, .ref b)] → W p l e room_1 s m #[Value.ref b] below meth c H1 locs1 90 1144 Q (F0 m 1651 ls1 [])) : W p l e room_1 s m #[Value.ref b] below meth c H locs 84 1104 Q (F0 m 763 ls []) := by
  obtain ⟨hx, hb, hml, hown, hts, hE, hX, hbl, hXw, hl9⟩ := C
  have hA : ∀ q : Nat, s.heap.size ≤ q → (fun q : Nat => s.heap.size ≤ q) q := fun _ h => h
  have hbA : ¬ (fun q : Nat => s.heap.size ≤ q) b := Nat.not_le.mpr hbl
  have hP : va_P D vwCl [(x, .inr (7, [.ref x0, .ref x1, .ref x2, .ref x3, .ref x4, .ref x5])), (x0, .inr (0, [.ref b0, .ref b1, .ref b2, .ref b3, .ref b4, .ref b5, .ref b6, .ref b7, .ref b8, .ref b9, .ref b10, .ref b11, .int 0, .int 0, .int 0])), (g, .inr (8, [.int 0, .int 0, .ref g2, .ref g3, .ref g4, .ref g5, .ref g6, .ref g7, .ref g8, .ref g9, .ref g10, .int 0, .ref g12, .ref g13, .int 0, .ref g15, .ref g16, .ref g17, .int 0, .ref g19, .ref g20, .ref g21, .ref g22, .ref g23, .ref g24, .ref g25, .ref g26, .ref g27, .ref g28, .int 0, .int 0, .int 0, .int 0, .ref g33, .ref g34, .ref g35, .ref g36, .ref g37, .ref g38, .ref g39, .int 0, .ref g41, .ref g42, .int 0, .ref g44, .ref g45]))] H := k_sub hP [0, 10, 47] rfl
  have hD : va_D (fun q : Nat => s.heap.size ≤ q) [(x, .inr (7, [.ref x0, .ref x1, .ref x2, .ref x3, .ref x4, .ref x5])), (x0, .inr (0, [.ref b0, .ref b1, .ref b2, .ref b3, .ref b4, .ref b5, .ref b6, .ref b7, .ref b8, .ref b9, .ref b10, .ref b11, .int 0, .int 0, .int 0])), (g, .inr (8, [.int 0, .int 0, .ref g2, .ref g3, .ref g4, .ref g5, .ref g6, .ref g7, .ref g8, .ref g9, .ref g10, .int 0, .ref g12, .ref g13, .int 0, .ref g15, .ref g16, .ref g17, .int 0, .ref g19, .ref g20, .ref g21, .ref g22, .ref g23, .ref g24, .ref g25, .ref g26, .ref g27, .ref g28, .int 0, .int 0, .int 0, .int 0, .ref g33, .ref g34, .ref g35, .ref g36, .ref g37, .ref g38, .ref g39, .int 0, .ref g41, .ref g42, .int 0, .ref g44, .ref g45]))] := hD.sub [0, 10, 47] (by decide) rfl
  refine lv_aload_n hx hb dL_law_763 rfl (lv_at hl 3 rfl) ?_
  refine lv_aload_n hx hb dL_law_764 rfl (lv_at hl 4 rfl) ?_
  refine lv_iload hx hb dL_law_765 (lv_at hl 0 rfl) ?_
  refine lv_iconst (v := 1) hx hb dL_law_767 (by decide) ?_
  refine lv_iadd hx hb dL_law_768 ?_
  refine lv_topi (fun v1 ev1 => ?_)
  obtain rfl : v1 = 1 := by rw [ev1]; decide
  refine va_sld hx hb hX hbl hbA hS (by unfold vp_in; decide) dL_law_769 ?_
  refine W.eq (g2 := F0 m 770 ls [.int (xs 1), .ref x]) rfl ?_
  refine lv_aload_n hx hb dL_law_770 rfl (lv_at hl 4 rfl) ?_
  refine lv_iload hx hb dL_law_771 (lv_at hl 0 rfl) ?_
  refine lv_iconst (v := 2) hx hb dL_law_773 (by decide) ?_
  refine lv_iadd hx hb dL_law_774 ?_
  refine lv_topi (fun v2 ev2 => ?_)
  obtain rfl : v2 = 2 := by rw [ev2]; decide
  refine va_sld hx hb hX hbl hbA hS (by unfold vp_in; decide) dL_law_775 ?_
  refine W.eq (g2 := F0 m 776 ls [.int (xs 2), .int (xs 1), .ref x]) rfl ?_
  refine k_l (va_runV (As := [.int (xs 1), .int (xs 2)]) (rest := []) ⟨hx, hb, hml, hown, hts⟩ (f_X7_strain l D cI cJ H.size x x0 x1 x2 x3 x4 x5 b0 b1 b2 b3 b4 b5 b6 b7 b8 b9 b10 b11 (xs 1) (xs 2)) (cwV 2 hts hL_law_X7_strain rfl rfl rfl (by decide +kernel) ⟨Nat.le_of_ble_eq_true rfl, Nat.le_of_ble_eq_true rfl⟩) (k_preV hE hP hD [0, 1] (by decide) rfl 0 rfl rfl) rfl rfl hl.1 rfl (lv_room (Nat.le_of_ble_eq_true rfl)) dL_law_776 ⟨Nat.le_of_ble_eq_true rfl, Nat.le_of_ble_eq_true rfl⟩) hP hD hS hA [0, 1] [2] rfl (wr := [(g, .inr (8, [.int 0, .int 0, .ref g2, .ref g3, .ref g4, .ref g5, .ref g6, .ref g7, .ref g8, .ref g9, .ref g10, .int 0, .ref g12, .ref g13, .int 0, .ref g15, .ref g16, .ref g17, .int 0, .ref g19, .ref g20, .ref g21, .ref g22, .ref g23, .ref g24, .ref g25, .ref g26, .ref g27, .ref g28, .int 0, .int 0, .int 0, .int 0, .ref g33, .ref g34, .ref g35, .ref g36, .ref g37, .ref g38, .ref g39, .int 0, .ref g41, .ref g42, .int 0, .ref g44, .ref g45]))]) rfl (by decide) (by decide) (fun r3 u H locs hw4 hP hD hS => ?_)
  obtain ⟨rfl, rfl⟩ := hw4
  have hP : va_P D vwCl [(g, .inr (8, [.int 0, .int 0, .ref g2, .ref g3, .ref g4, .ref g5, .ref g6, .ref g7, .ref g8, .ref g9, .ref g10, .int 0, .ref g12, .ref g13, .int 0, .ref g15, .ref g16, .ref g17, .int 0, .ref g19, .ref g20, .ref g21, .ref g22, .ref g23, .ref g24, .ref g25, .ref g26, .ref g27, .ref g28, .int 0, .int 0, .int 0, .int 0, .ref g33, .ref g34, .ref g35, .ref g36, .ref g37, .ref g38, .ref g39, .int 0, .ref g41, .ref g42, .int 0, .ref g44, .ref g45]))] H := hP
  have hD : va_D (fun q : Nat => s.heap.size ≤ q) [(g, .inr (8, [.int 0, .int 0, .ref g2, .ref g3, .ref g4, .ref g5, .ref g6, .ref g7, .ref g8, .ref g9, .ref g10, .int 0, .ref g12, .ref g13, .int 0, .ref g15, .ref g16, .ref g17, .int 0, .ref g19, .ref g20, .ref g21, .ref g22, .ref g23, .ref g24, .ref g25, .ref g26, .ref g27, .ref g28, .int 0, .int 0, .int 0, .int 0, .ref g33, .ref g34, .ref g35, .ref g36, .ref g37, .ref g38, .ref g39, .int 0, .ref g41, .ref g42, .int 0, .ref g44, .ref g45]))] := hD
  refine lv_aload_n hx hb dL_law_779 rfl (lv_at hl 2 rfl) ?_
  refine lv_aload_n hx hb dL_law_780 rfl (lv_at hl 4 rfl) ?_
  refine lv_iload hx hb dL_law_781 (lv_at hl 0 rfl) ?_
  refine lv_iconst (v := 1) hx hb dL_law_783 (by decide) ?_
  refine lv_iadd hx hb dL_law_784 ?_
  refine lv_topi (fun v5 ev5 => ?_)
  obtain rfl : v5 = 1 := by rw [ev5]; decide
  refine va_sld hx hb hX hbl hbA hS (by unfold vp_in; decide) dL_law_785 ?_
  refine W.eq (g2 := F0 m 786 ls [.int (xs 1), .ref g, .long (-1)]) rfl ?_
  refine lv_aload_n hx hb dL_law_786 rfl (lv_at hl 4 rfl) ?_
  refine lv_iload hx hb dL_law_787 (lv_at hl 0 rfl) ?_
  refine lv_iconst (v := 2) hx hb dL_law_789 (by decide) ?_
  refine lv_iadd hx hb dL_law_790 ?_
  refine lv_topi (fun v6 ev6 => ?_)
  obtain rfl : v6 = 2 := by rw [ev6]; decide
  refine va_sld hx hb hX hbl hbA hS (by unfold vp_in; decide) dL_law_791 ?_
  refine W.eq (g2 := F0 m 792 ls [.int (xs 2), .int (xs 1), .ref g, .long (-1)]) rfl ?_
  refine k_l (va_runV (As := [.int (xs 1), .int (xs 2)]) (rest := [.long (-1)]) ⟨hx, hb, hml, hown, hts⟩ (f_X8_strain l D cI cJ H.size g g2 g3 g4 g5 g6 g7 g8 g9 g10 g12 g13 g15 g16 g17 g19 g20 g21 g22 g23 g24 g25 g26 g27 g28 g33 g34 g35 g36 g37 g38 g39 g41 g42 g44 g45 (xs 1) (xs 2)) (cwV 2 hts hL_law_X8_strain rfl rfl rfl (by decide +kernel) ⟨Nat.le_of_ble_eq_true rfl, Nat.le_of_ble_eq_true rfl⟩) (k_preV hE hP hD [0] (by decide) rfl 0 rfl rfl) rfl rfl hl.1 rfl (lv_room (Nat.le_of_ble_eq_true rfl)) dL_law_792 ⟨Nat.le_of_ble_eq_true rfl, Nat.le_of_ble_eq_true rfl⟩) hP hD hS hA [0] [] rfl (wr := []) rfl (by decide) (by decide) (fun r7 u H locs hw8 hP hD hS => ?_)
  obtain ⟨rfl, rfl⟩ := hw8
  have hP : va_P D vwCl [] H := hP
  have hD : va_D (fun q : Nat => s.heap.size ≤ q) [] := hD
  refine k_lcmp_eq (tgt := 1651) hx hb dL_law_795 dL_law_796 (by decide) (fun _ => ?_) (fun c9 => absurd (by decide) c9)
  refine W.widen (k := 90) (n := 1144) (Nat.le_of_ble_eq_true rfl) (Nat.le_of_ble_eq_true rfl) ?_
  exact kend _ _ _ hS (lv_sub hl [0, 1, 2, 3, 4] rfl)
set_option maxHeartbeats 4000000 in
set_option maxRecDepth 100000 in
theorem arm_14 {p : Program} {l : Launch} {e : Env} {s : State} {m : MethodId} {below : List Frame} {meth : Method} {c : Code} {b : Nat} {xs : Nat → Int32} {D : va_G} {cI cJ : ClassId} {Q : State → Prop} (C : LC p l s m c b xs D cI cJ) {x x0 x1 x2 x3 x4 x5 s1 s2 s5 s6 s7 s8 s9 s10 s11 b0 b1 b2 b3 b4 b5 b6 b7 b8 b9 b10 b11 w0 w1 w2 w3 w4 w8 d0 d1 d2 y0 y1 c0 c1 c2 c3 c6 c8 z0 z1 g g2 g3 g4 g5 g6 g7 g8 g9 g10 g12 g13 g15 g16 g17 g19 g20 g21 g22 g23 g24 g25 g26 g27 g28 g33 g34 g35 g36 g37 g38 g39 g41 g42 g44 g45 o : Nat} {H : Heap} {locs : List Loc} (hP : va_P D vwCl (LWS cI cJ x x0 x1 x2 x3 x4 x5 s1 s2 s5 s6 s7 s8 s9 s10 s11 b0 b1 b2 b3 b4 b5 b6 b7 b8 b9 b10 b11 w0 w1 w2 w3 w4 w8 d0 d1 d2 y0 y1 c0 c1 c2 c3 c6 c8 z0 z1 g g2 g3 g4 g5 g6 g7 g8 g9 g10 g12 g13 g15 g16 g17 g19 g20 g21 g22 g23 g24 g25 g26 g27 g28 g33 g34 g35 g36 g37 g38 g39 g41 g42 g44 g45 o) H) (hD : va_D (fun q : Nat => s.heap.size ≤ q) (LWS cI cJ x x0 x1 x2 x3 x4 x5 s1 s2 s5 s6 s7 s8 s9 s10 s11 b0 b1 b2 b3 b4 b5 b6 b7 b8 b9 b10 b11 w0 w1 w2 w3 w4 w8 d0 d1 d2 y0 y1 c0 c1 c2 c3 c6 c8 z0 z1 g g2 g3 g4 g5 g6 g7 g8 g9 g10 g12 g13 g15 g16 g17 g19 g20 g21 g22 g23 g24 g25 g26 g27 g28 g33 g34 g35 g36 g37 g38 g39 g41 g42 g44 g45 o)) (hS : va_S (fun q : Nat => s.heap.size ≤ q) s.heap H locs) {ls : Array Slot} (hl : lv_has ls 7 [(4, .int 0), (3, .ref o), (2, .ref g), (1, .ref x), (0, .ref b)])
    (kend : ∀ (H1 : Heap) (locs1 : List Loc) (ls1 : Array Slot), va_S (fun q : Nat => s.heap.size ≤ q) s.heap H1 locs1 → lv_has ls1 7 [(4, .int 0), (3, .ref o), (2, .ref g), (1, .ref x), (0, .ref b)] → W p l e room_1 s m #[Value.ref b] below meth c H1 locs1 90 1144 Q (F0 m 1651 ls1 [])) : W p l e room_1 s m #[Value.ref b] below meth c H locs 84 1104 Q (F0 m 801 ls []) := by
  obtain ⟨hx, hb, hml, hown, hts, hE, hX, hbl, hXw, hl9⟩ := C
  have hA : ∀ q : Nat, s.heap.size ≤ q → (fun q : Nat => s.heap.size ≤ q) q := fun _ h => h
  have hbA : ¬ (fun q : Nat => s.heap.size ≤ q) b := Nat.not_le.mpr hbl
  have hP : va_P D vwCl [(x, .inr (7, [.ref x0, .ref x1, .ref x2, .ref x3, .ref x4, .ref x5])), (x0, .inr (0, [.ref b0, .ref b1, .ref b2, .ref b3, .ref b4, .ref b5, .ref b6, .ref b7, .ref b8, .ref b9, .ref b10, .ref b11, .int 0, .int 0, .int 0])), (g, .inr (8, [.int 0, .int 0, .ref g2, .ref g3, .ref g4, .ref g5, .ref g6, .ref g7, .ref g8, .ref g9, .ref g10, .int 0, .ref g12, .ref g13, .int 0, .ref g15, .ref g16, .ref g17, .int 0, .ref g19, .ref g20, .ref g21, .ref g22, .ref g23, .ref g24, .ref g25, .ref g26, .ref g27, .ref g28, .int 0, .int 0, .int 0, .int 0, .ref g33, .ref g34, .ref g35, .ref g36, .ref g37, .ref g38, .ref g39, .int 0, .ref g41, .ref g42, .int 0, .ref g44, .ref g45]))] H := k_sub hP [0, 10, 47] rfl
  have hD : va_D (fun q : Nat => s.heap.size ≤ q) [(x, .inr (7, [.ref x0, .ref x1, .ref x2, .ref x3, .ref x4, .ref x5])), (x0, .inr (0, [.ref b0, .ref b1, .ref b2, .ref b3, .ref b4, .ref b5, .ref b6, .ref b7, .ref b8, .ref b9, .ref b10, .ref b11, .int 0, .int 0, .int 0])), (g, .inr (8, [.int 0, .int 0, .ref g2, .ref g3, .ref g4, .ref g5, .ref g6, .ref g7, .ref g8, .ref g9, .ref g10, .int 0, .ref g12, .ref g13, .int 0, .ref g15, .ref g16, .ref g17, .int 0, .ref g19, .ref g20, .ref g21, .ref g22, .ref g23, .ref g24, .ref g25, .ref g26, .ref g27, .ref g28, .int 0, .int 0, .int 0, .int 0, .ref g33, .ref g34, .ref g35, .ref g36, .ref g37, .ref g38, .ref g39, .int 0, .ref g41, .ref g42, .int 0, .ref g44, .ref g45]))] := hD.sub [0, 10, 47] (by decide) rfl
  refine lv_aload_n hx hb dL_law_801 rfl (lv_at hl 3 rfl) ?_
  refine lv_aload_n hx hb dL_law_802 rfl (lv_at hl 4 rfl) ?_
  refine lv_iload hx hb dL_law_803 (lv_at hl 0 rfl) ?_
  refine lv_iconst (v := 1) hx hb dL_law_805 (by decide) ?_
  refine lv_iadd hx hb dL_law_806 ?_
  refine lv_topi (fun v1 ev1 => ?_)
  obtain rfl : v1 = 1 := by rw [ev1]; decide
  refine va_sld hx hb hX hbl hbA hS (by unfold vp_in; decide) dL_law_807 ?_
  refine W.eq (g2 := F0 m 808 ls [.int (xs 1), .ref x]) rfl ?_
  refine lv_aload_n hx hb dL_law_808 rfl (lv_at hl 4 rfl) ?_
  refine lv_iload hx hb dL_law_809 (lv_at hl 0 rfl) ?_
  refine lv_iconst (v := 2) hx hb dL_law_811 (by decide) ?_
  refine lv_iadd hx hb dL_law_812 ?_
  refine lv_topi (fun v2 ev2 => ?_)
  obtain rfl : v2 = 2 := by rw [ev2]; decide
  refine va_sld hx hb hX hbl hbA hS (by unfold vp_in; decide) dL_law_813 ?_
  refine W.eq (g2 := F0 m 814 ls [.int (xs 2), .int (xs 1), .ref x]) rfl ?_
  refine k_i (va_runV (As := [.int (xs 1), .int (xs 2)]) (rest := []) ⟨hx, hb, hml, hown, hts⟩ (f_X7_step l D cI cJ H.size x x0 x1 x2 x3 x4 x5 b0 b1 b2 b3 b4 b5 b6 b7 b8 b9 b10 b11 (xs 1) (xs 2)) (cwV 2 hts hL_law_X7_step rfl rfl rfl (by decide +kernel) ⟨Nat.le_of_ble_eq_true rfl, Nat.le_of_ble_eq_true rfl⟩) (k_preV hE hP hD [0, 1] (by decide) rfl 0 rfl rfl) rfl rfl hl.1 rfl (lv_room (Nat.le_of_ble_eq_true rfl)) dL_law_814 ⟨Nat.le_of_ble_eq_true rfl, Nat.le_of_ble_eq_true rfl⟩) hP hD hS hA [0, 1] [2] rfl (wr := [(g, .inr (8, [.int 0, .int 0, .ref g2, .ref g3, .ref g4, .ref g5, .ref g6, .ref g7, .ref g8, .ref g9, .ref g10, .int 0, .ref g12, .ref g13, .int 0, .ref g15, .ref g16, .ref g17, .int 0, .ref g19, .ref g20, .ref g21, .ref g22, .ref g23, .ref g24, .ref g25, .ref g26, .ref g27, .ref g28, .int 0, .int 0, .int 0, .int 0, .ref g33, .ref g34, .ref g35, .ref g36, .ref g37, .ref g38, .ref g39, .int 0, .ref g41, .ref g42, .int 0, .ref g44, .ref g45]))]) rfl (by decide) (by decide) (fun r3 u H locs hw4 hP hD hS => ?_)
  obtain ⟨rfl, rfl⟩ := hw4
  have hP : va_P D vwCl [(g, .inr (8, [.int 0, .int 0, .ref g2, .ref g3, .ref g4, .ref g5, .ref g6, .ref g7, .ref g8, .ref g9, .ref g10, .int 0, .ref g12, .ref g13, .int 0, .ref g15, .ref g16, .ref g17, .int 0, .ref g19, .ref g20, .ref g21, .ref g22, .ref g23, .ref g24, .ref g25, .ref g26, .ref g27, .ref g28, .int 0, .int 0, .int 0, .int 0, .ref g33, .ref g34, .ref g35, .ref g36, .ref g37, .ref g38, .ref g39, .int 0, .ref g41, .ref g42, .int 0, .ref g44, .ref g45]))] H := hP
  have hD : va_D (fun q : Nat => s.heap.size ≤ q) [(g, .inr (8, [.int 0, .int 0, .ref g2, .ref g3, .ref g4, .ref g5, .ref g6, .ref g7, .ref g8, .ref g9, .ref g10, .int 0, .ref g12, .ref g13, .int 0, .ref g15, .ref g16, .ref g17, .int 0, .ref g19, .ref g20, .ref g21, .ref g22, .ref g23, .ref g24, .ref g25, .ref g26, .ref g27, .ref g28, .int 0, .int 0, .int 0, .int 0, .ref g33, .ref g34, .ref g35, .ref g36, .ref g37, .ref g38, .ref g39, .int 0, .ref g41, .ref g42, .int 0, .ref g44, .ref g45]))] := hD
  refine lv_aload_n hx hb dL_law_817 rfl (lv_at hl 2 rfl) ?_
  refine lv_aload_n hx hb dL_law_818 rfl (lv_at hl 4 rfl) ?_
  refine lv_iload hx hb dL_law_819 (lv_at hl 0 rfl) ?_
  refine lv_iconst (v := 1) hx hb dL_law_821 (by decide) ?_
  refine lv_iadd hx hb dL_law_822 ?_
  refine lv_topi (fun v5 ev5 => ?_)
  obtain rfl : v5 = 1 := by rw [ev5]; decide
  refine va_sld hx hb hX hbl hbA hS (by unfold vp_in; decide) dL_law_823 ?_
  refine W.eq (g2 := F0 m 824 ls [.int (xs 1), .ref g, .int (-1)]) rfl ?_
  refine lv_aload_n hx hb dL_law_824 rfl (lv_at hl 4 rfl) ?_
  refine lv_iload hx hb dL_law_825 (lv_at hl 0 rfl) ?_
  refine lv_iconst (v := 2) hx hb dL_law_827 (by decide) ?_
  refine lv_iadd hx hb dL_law_828 ?_
  refine lv_topi (fun v6 ev6 => ?_)
  obtain rfl : v6 = 2 := by rw [ev6]; decide
  refine va_sld hx hb hX hbl hbA hS (by unfold vp_in; decide) dL_law_829 ?_
  refine W.eq (g2 := F0 m 830 ls [.int (xs 2), .int (xs 1), .ref g, .int (-1)]) rfl ?_
  refine k_i (va_runV (As := [.int (xs 1), .int (xs 2)]) (rest := [.int (-1)]) ⟨hx, hb, hml, hown, hts⟩ (f_X8_step l D cI cJ H.size g g2 g3 g4 g5 g6 g7 g8 g9 g10 g12 g13 g15 g16 g17 g19 g20 g21 g22 g23 g24 g25 g26 g27 g28 g33 g34 g35 g36 g37 g38 g39 g41 g42 g44 g45 (xs 1) (xs 2)) (cwV 2 hts hL_law_X8_step rfl rfl rfl (by decide +kernel) ⟨Nat.le_of_ble_eq_true rfl, Nat.le_of_ble_eq_true rfl⟩) (k_preV hE hP hD [0] (by decide) rfl 0 rfl rfl) rfl rfl hl.1 rfl (lv_room (Nat.le_of_ble_eq_true rfl)) dL_law_830 ⟨Nat.le_of_ble_eq_true rfl, Nat.le_of_ble_eq_true rfl⟩) hP hD hS hA [0] [] rfl (wr := []) rfl (by decide) (by decide) (fun r7 u H locs hw8 hP hD hS => ?_)
  obtain ⟨rfl, rfl⟩ := hw8
  have hP : va_P D vwCl [] H := hP
  have hD : va_D (fun q : Nat => s.heap.size ≤ q) [] := hD
  refine lv_icmp_eq (tgt := 1651) hx hb dL_law_833 (by decide) (fun _ => ?_) (fun c9 => absurd (by decide) c9)
  refine W.widen (k := 90) (n := 1144) (Nat.le_of_ble_eq_true rfl) (Nat.le_of_ble_eq_true rfl) ?_
  exact kend _ _ _ hS (lv_sub hl [0, 1, 2, 3, 4] rfl)
set_option maxHeartbeats 4000000 in
set_option maxRecDepth 100000 in
theorem arm_15 {p : Program} {l : Launch} {e : Env} {s : State} {m : MethodId} {below : List Frame} {meth : Method} {c : Code} {b : Nat} {xs : Nat → Int32} {D : va_G} {cI cJ : ClassId} {Q : State → Prop} (C : LC p l s m c b xs D cI cJ) {x x0 x1 x2 x3 x4 x5 s1 s2 s5 s6 s7 s8 s9 s10 s11 b0 b1 b2 b3 b4 b5 b6 b7 b8 b9 b10 b11 w0 w1 w2 w3 w4 w8 d0 d1 d2 y0 y1 c0 c1 c2 c3 c6 c8 z0 z1 g g2 g3 g4 g5 g6 g7 g8 g9 g10 g12 g13 g15 g16 g17 g19 g20 g21 g22 g23 g24 g25 g26 g27 g28 g33 g34 g35 g36 g37 g38 g39 g41 g42 g44 g45 o : Nat} {H : Heap} {locs : List Loc} (hP : va_P D vwCl (LWS cI cJ x x0 x1 x2 x3 x4 x5 s1 s2 s5 s6 s7 s8 s9 s10 s11 b0 b1 b2 b3 b4 b5 b6 b7 b8 b9 b10 b11 w0 w1 w2 w3 w4 w8 d0 d1 d2 y0 y1 c0 c1 c2 c3 c6 c8 z0 z1 g g2 g3 g4 g5 g6 g7 g8 g9 g10 g12 g13 g15 g16 g17 g19 g20 g21 g22 g23 g24 g25 g26 g27 g28 g33 g34 g35 g36 g37 g38 g39 g41 g42 g44 g45 o) H) (hD : va_D (fun q : Nat => s.heap.size ≤ q) (LWS cI cJ x x0 x1 x2 x3 x4 x5 s1 s2 s5 s6 s7 s8 s9 s10 s11 b0 b1 b2 b3 b4 b5 b6 b7 b8 b9 b10 b11 w0 w1 w2 w3 w4 w8 d0 d1 d2 y0 y1 c0 c1 c2 c3 c6 c8 z0 z1 g g2 g3 g4 g5 g6 g7 g8 g9 g10 g12 g13 g15 g16 g17 g19 g20 g21 g22 g23 g24 g25 g26 g27 g28 g33 g34 g35 g36 g37 g38 g39 g41 g42 g44 g45 o)) (hS : va_S (fun q : Nat => s.heap.size ≤ q) s.heap H locs) {ls : Array Slot} (hl : lv_has ls 7 [(4, .int 0), (3, .ref o), (2, .ref g), (1, .ref x), (0, .ref b)])
    (kend : ∀ (H1 : Heap) (locs1 : List Loc) (ls1 : Array Slot), va_S (fun q : Nat => s.heap.size ≤ q) s.heap H1 locs1 → lv_has ls1 7 [(4, .int 0), (3, .ref o), (2, .ref g), (1, .ref x), (0, .ref b)] → W p l e room_1 s m #[Value.ref b] below meth c H1 locs1 90 1144 Q (F0 m 1651 ls1 [])) : W p l e room_1 s m #[Value.ref b] below meth c H locs 84 1104 Q (F0 m 838 ls []) := by
  obtain ⟨hx, hb, hml, hown, hts, hE, hX, hbl, hXw, hl9⟩ := C
  have hA : ∀ q : Nat, s.heap.size ≤ q → (fun q : Nat => s.heap.size ≤ q) q := fun _ h => h
  have hbA : ¬ (fun q : Nat => s.heap.size ≤ q) b := Nat.not_le.mpr hbl
  have hP : va_P D vwCl [(x, .inr (7, [.ref x0, .ref x1, .ref x2, .ref x3, .ref x4, .ref x5])), (x0, .inr (0, [.ref b0, .ref b1, .ref b2, .ref b3, .ref b4, .ref b5, .ref b6, .ref b7, .ref b8, .ref b9, .ref b10, .ref b11, .int 0, .int 0, .int 0])), (g, .inr (8, [.int 0, .int 0, .ref g2, .ref g3, .ref g4, .ref g5, .ref g6, .ref g7, .ref g8, .ref g9, .ref g10, .int 0, .ref g12, .ref g13, .int 0, .ref g15, .ref g16, .ref g17, .int 0, .ref g19, .ref g20, .ref g21, .ref g22, .ref g23, .ref g24, .ref g25, .ref g26, .ref g27, .ref g28, .int 0, .int 0, .int 0, .int 0, .ref g33, .ref g34, .ref g35, .ref g36, .ref g37, .ref g38, .ref g39, .int 0, .ref g41, .ref g42, .int 0, .ref g44, .ref g45]))] H := k_sub hP [0, 10, 47] rfl
  have hD : va_D (fun q : Nat => s.heap.size ≤ q) [(x, .inr (7, [.ref x0, .ref x1, .ref x2, .ref x3, .ref x4, .ref x5])), (x0, .inr (0, [.ref b0, .ref b1, .ref b2, .ref b3, .ref b4, .ref b5, .ref b6, .ref b7, .ref b8, .ref b9, .ref b10, .ref b11, .int 0, .int 0, .int 0])), (g, .inr (8, [.int 0, .int 0, .ref g2, .ref g3, .ref g4, .ref g5, .ref g6, .ref g7, .ref g8, .ref g9, .ref g10, .int 0, .ref g12, .ref g13, .int 0, .ref g15, .ref g16, .ref g17, .int 0, .ref g19, .ref g20, .ref g21, .ref g22, .ref g23, .ref g24, .ref g25, .ref g26, .ref g27, .ref g28, .int 0, .int 0, .int 0, .int 0, .ref g33, .ref g34, .ref g35, .ref g36, .ref g37, .ref g38, .ref g39, .int 0, .ref g41, .ref g42, .int 0, .ref g44, .ref g45]))] := hD.sub [0, 10, 47] (by decide) rfl
  refine lv_aload_n hx hb dL_law_838 rfl (lv_at hl 3 rfl) ?_
  refine lv_aload_n hx hb dL_law_839 rfl (lv_at hl 4 rfl) ?_
  refine lv_iload hx hb dL_law_840 (lv_at hl 0 rfl) ?_
  refine lv_iconst (v := 1) hx hb dL_law_842 (by decide) ?_
  refine lv_iadd hx hb dL_law_843 ?_
  refine lv_topi (fun v1 ev1 => ?_)
  obtain rfl : v1 = 1 := by rw [ev1]; decide
  refine va_sld hx hb hX hbl hbA hS (by unfold vp_in; decide) dL_law_844 ?_
  refine W.eq (g2 := F0 m 845 ls [.int (xs 1), .ref x]) rfl ?_
  refine lv_aload_n hx hb dL_law_845 rfl (lv_at hl 4 rfl) ?_
  refine lv_iload hx hb dL_law_846 (lv_at hl 0 rfl) ?_
  refine lv_iconst (v := 2) hx hb dL_law_848 (by decide) ?_
  refine lv_iadd hx hb dL_law_849 ?_
  refine lv_topi (fun v2 ev2 => ?_)
  obtain rfl : v2 = 2 := by rw [ev2]; decide
  refine va_sld hx hb hX hbl hbA hS (by unfold vp_in; decide) dL_law_850 ?_
  refine W.eq (g2 := F0 m 851 ls [.int (xs 2), .int (xs 1), .ref x]) rfl ?_
  refine k_i (va_runV (As := [.int (xs 1), .int (xs 2)]) (rest := []) ⟨hx, hb, hml, hown, hts⟩ (f_X7_level l D cI cJ H.size x x0 x1 x2 x3 x4 x5 b0 b1 b2 b3 b4 b5 b6 b7 b8 b9 b10 b11 (xs 1) (xs 2)) (cwV 2 hts hL_law_X7_level rfl rfl rfl (by decide +kernel) ⟨Nat.le_of_ble_eq_true rfl, Nat.le_of_ble_eq_true rfl⟩) (k_preV hE hP hD [0, 1] (by decide) rfl 0 rfl rfl) rfl rfl hl.1 rfl (lv_room (Nat.le_of_ble_eq_true rfl)) dL_law_851 ⟨Nat.le_of_ble_eq_true rfl, Nat.le_of_ble_eq_true rfl⟩) hP hD hS hA [0, 1] [2] rfl (wr := [(g, .inr (8, [.int 0, .int 0, .ref g2, .ref g3, .ref g4, .ref g5, .ref g6, .ref g7, .ref g8, .ref g9, .ref g10, .int 0, .ref g12, .ref g13, .int 0, .ref g15, .ref g16, .ref g17, .int 0, .ref g19, .ref g20, .ref g21, .ref g22, .ref g23, .ref g24, .ref g25, .ref g26, .ref g27, .ref g28, .int 0, .int 0, .int 0, .int 0, .ref g33, .ref g34, .ref g35, .ref g36, .ref g37, .ref g38, .ref g39, .int 0, .ref g41, .ref g42, .int 0, .ref g44, .ref g45]))]) rfl (by decide) (by decide) (fun r3 u H locs hw4 hP hD hS => ?_)
  obtain ⟨rfl, rfl⟩ := hw4
  have hP : va_P D vwCl [(g, .inr (8, [.int 0, .int 0, .ref g2, .ref g3, .ref g4, .ref g5, .ref g6, .ref g7, .ref g8, .ref g9, .ref g10, .int 0, .ref g12, .ref g13, .int 0, .ref g15, .ref g16, .ref g17, .int 0, .ref g19, .ref g20, .ref g21, .ref g22, .ref g23, .ref g24, .ref g25, .ref g26, .ref g27, .ref g28, .int 0, .int 0, .int 0, .int 0, .ref g33, .ref g34, .ref g35, .ref g36, .ref g37, .ref g38, .ref g39, .int 0, .ref g41, .ref g42, .int 0, .ref g44, .ref g45]))] H := hP
  have hD : va_D (fun q : Nat => s.heap.size ≤ q) [(g, .inr (8, [.int 0, .int 0, .ref g2, .ref g3, .ref g4, .ref g5, .ref g6, .ref g7, .ref g8, .ref g9, .ref g10, .int 0, .ref g12, .ref g13, .int 0, .ref g15, .ref g16, .ref g17, .int 0, .ref g19, .ref g20, .ref g21, .ref g22, .ref g23, .ref g24, .ref g25, .ref g26, .ref g27, .ref g28, .int 0, .int 0, .int 0, .int 0, .ref g33, .ref g34, .ref g35, .ref g36, .ref g37, .ref g38, .ref g39, .int 0, .ref g41, .ref g42, .int 0, .ref g44, .ref g45]))] := hD
  refine lv_aload_n hx hb dL_law_854 rfl (lv_at hl 2 rfl) ?_
  refine lv_aload_n hx hb dL_law_855 rfl (lv_at hl 4 rfl) ?_
  refine lv_iload hx hb dL_law_856 (lv_at hl 0 rfl) ?_
  refine lv_iconst (v := 1) hx hb dL_law_858 (by decide) ?_
  refine lv_iadd hx hb dL_law_859 ?_
  refine lv_topi (fun v5 ev5 => ?_)
  obtain rfl : v5 = 1 := by rw [ev5]; decide
  refine va_sld hx hb hX hbl hbA hS (by unfold vp_in; decide) dL_law_860 ?_
  refine W.eq (g2 := F0 m 861 ls [.int (xs 1), .ref g, .int (-1)]) rfl ?_
  refine lv_aload_n hx hb dL_law_861 rfl (lv_at hl 4 rfl) ?_
  refine lv_iload hx hb dL_law_862 (lv_at hl 0 rfl) ?_
  refine lv_iconst (v := 2) hx hb dL_law_864 (by decide) ?_
  refine lv_iadd hx hb dL_law_865 ?_
  refine lv_topi (fun v6 ev6 => ?_)
  obtain rfl : v6 = 2 := by rw [ev6]; decide
  refine va_sld hx hb hX hbl hbA hS (by unfold vp_in; decide) dL_law_866 ?_
  refine W.eq (g2 := F0 m 867 ls [.int (xs 2), .int (xs 1), .ref g, .int (-1)]) rfl ?_
  refine k_i (va_runV (As := [.int (xs 1), .int (xs 2)]) (rest := [.int (-1)]) ⟨hx, hb, hml, hown, hts⟩ (f_X8_level l D cI cJ H.size g g2 g3 g4 g5 g6 g7 g8 g9 g10 g12 g13 g15 g16 g17 g19 g20 g21 g22 g23 g24 g25 g26 g27 g28 g33 g34 g35 g36 g37 g38 g39 g41 g42 g44 g45 (xs 1) (xs 2)) (cwV 2 hts hL_law_X8_level rfl rfl rfl (by decide +kernel) ⟨Nat.le_of_ble_eq_true rfl, Nat.le_of_ble_eq_true rfl⟩) (k_preV hE hP hD [0] (by decide) rfl 0 rfl rfl) rfl rfl hl.1 rfl (lv_room (Nat.le_of_ble_eq_true rfl)) dL_law_867 ⟨Nat.le_of_ble_eq_true rfl, Nat.le_of_ble_eq_true rfl⟩) hP hD hS hA [0] [] rfl (wr := []) rfl (by decide) (by decide) (fun r7 u H locs hw8 hP hD hS => ?_)
  obtain ⟨rfl, rfl⟩ := hw8
  have hP : va_P D vwCl [] H := hP
  have hD : va_D (fun q : Nat => s.heap.size ≤ q) [] := hD
  refine lv_icmp_eq (tgt := 1651) hx hb dL_law_870 (by decide) (fun _ => ?_) (fun c9 => absurd (by decide) c9)
  refine W.widen (k := 90) (n := 1144) (Nat.le_of_ble_eq_true rfl) (Nat.le_of_ble_eq_true rfl) ?_
  exact kend _ _ _ hS (lv_sub hl [0, 1, 2, 3, 4] rfl)
set_option maxHeartbeats 4000000 in
set_option maxRecDepth 100000 in
theorem arm_16 {p : Program} {l : Launch} {e : Env} {s : State} {m : MethodId} {below : List Frame} {meth : Method} {c : Code} {b : Nat} {xs : Nat → Int32} {D : va_G} {cI cJ : ClassId} {Q : State → Prop} (C : LC p l s m c b xs D cI cJ) {x x0 x1 x2 x3 x4 x5 s1 s2 s5 s6 s7 s8 s9 s10 s11 b0 b1 b2 b3 b4 b5 b6 b7 b8 b9 b10 b11 w0 w1 w2 w3 w4 w8 d0 d1 d2 y0 y1 c0 c1 c2 c3 c6 c8 z0 z1 g g2 g3 g4 g5 g6 g7 g8 g9 g10 g12 g13 g15 g16 g17 g19 g20 g21 g22 g23 g24 g25 g26 g27 g28 g33 g34 g35 g36 g37 g38 g39 g41 g42 g44 g45 o : Nat} {H : Heap} {locs : List Loc} (hP : va_P D vwCl (LWS cI cJ x x0 x1 x2 x3 x4 x5 s1 s2 s5 s6 s7 s8 s9 s10 s11 b0 b1 b2 b3 b4 b5 b6 b7 b8 b9 b10 b11 w0 w1 w2 w3 w4 w8 d0 d1 d2 y0 y1 c0 c1 c2 c3 c6 c8 z0 z1 g g2 g3 g4 g5 g6 g7 g8 g9 g10 g12 g13 g15 g16 g17 g19 g20 g21 g22 g23 g24 g25 g26 g27 g28 g33 g34 g35 g36 g37 g38 g39 g41 g42 g44 g45 o) H) (hD : va_D (fun q : Nat => s.heap.size ≤ q) (LWS cI cJ x x0 x1 x2 x3 x4 x5 s1 s2 s5 s6 s7 s8 s9 s10 s11 b0 b1 b2 b3 b4 b5 b6 b7 b8 b9 b10 b11 w0 w1 w2 w3 w4 w8 d0 d1 d2 y0 y1 c0 c1 c2 c3 c6 c8 z0 z1 g g2 g3 g4 g5 g6 g7 g8 g9 g10 g12 g13 g15 g16 g17 g19 g20 g21 g22 g23 g24 g25 g26 g27 g28 g33 g34 g35 g36 g37 g38 g39 g41 g42 g44 g45 o)) (hS : va_S (fun q : Nat => s.heap.size ≤ q) s.heap H locs) {ls : Array Slot} (hl : lv_has ls 7 [(4, .int 0), (3, .ref o), (2, .ref g), (1, .ref x), (0, .ref b)])
    (kend : ∀ (H1 : Heap) (locs1 : List Loc) (ls1 : Array Slot), va_S (fun q : Nat => s.heap.size ≤ q) s.heap H1 locs1 → lv_has ls1 7 [(4, .int 0), (3, .ref o), (2, .ref g), (1, .ref x), (0, .ref b)] → W p l e room_1 s m #[Value.ref b] below meth c H1 locs1 90 1144 Q (F0 m 1651 ls1 [])) : W p l e room_1 s m #[Value.ref b] below meth c H locs 84 1104 Q (F0 m 875 ls []) := by
  obtain ⟨hx, hb, hml, hown, hts, hE, hX, hbl, hXw, hl9⟩ := C
  have hA : ∀ q : Nat, s.heap.size ≤ q → (fun q : Nat => s.heap.size ≤ q) q := fun _ h => h
  have hbA : ¬ (fun q : Nat => s.heap.size ≤ q) b := Nat.not_le.mpr hbl
  have hP : va_P D vwCl [(x, .inr (7, [.ref x0, .ref x1, .ref x2, .ref x3, .ref x4, .ref x5])), (x0, .inr (0, [.ref b0, .ref b1, .ref b2, .ref b3, .ref b4, .ref b5, .ref b6, .ref b7, .ref b8, .ref b9, .ref b10, .ref b11, .int 0, .int 0, .int 0])), (g, .inr (8, [.int 0, .int 0, .ref g2, .ref g3, .ref g4, .ref g5, .ref g6, .ref g7, .ref g8, .ref g9, .ref g10, .int 0, .ref g12, .ref g13, .int 0, .ref g15, .ref g16, .ref g17, .int 0, .ref g19, .ref g20, .ref g21, .ref g22, .ref g23, .ref g24, .ref g25, .ref g26, .ref g27, .ref g28, .int 0, .int 0, .int 0, .int 0, .ref g33, .ref g34, .ref g35, .ref g36, .ref g37, .ref g38, .ref g39, .int 0, .ref g41, .ref g42, .int 0, .ref g44, .ref g45]))] H := k_sub hP [0, 10, 47] rfl
  have hD : va_D (fun q : Nat => s.heap.size ≤ q) [(x, .inr (7, [.ref x0, .ref x1, .ref x2, .ref x3, .ref x4, .ref x5])), (x0, .inr (0, [.ref b0, .ref b1, .ref b2, .ref b3, .ref b4, .ref b5, .ref b6, .ref b7, .ref b8, .ref b9, .ref b10, .ref b11, .int 0, .int 0, .int 0])), (g, .inr (8, [.int 0, .int 0, .ref g2, .ref g3, .ref g4, .ref g5, .ref g6, .ref g7, .ref g8, .ref g9, .ref g10, .int 0, .ref g12, .ref g13, .int 0, .ref g15, .ref g16, .ref g17, .int 0, .ref g19, .ref g20, .ref g21, .ref g22, .ref g23, .ref g24, .ref g25, .ref g26, .ref g27, .ref g28, .int 0, .int 0, .int 0, .int 0, .ref g33, .ref g34, .ref g35, .ref g36, .ref g37, .ref g38, .ref g39, .int 0, .ref g41, .ref g42, .int 0, .ref g44, .ref g45]))] := hD.sub [0, 10, 47] (by decide) rfl
  refine lv_aload_n hx hb dL_law_875 rfl (lv_at hl 3 rfl) ?_
  refine lv_aload_n hx hb dL_law_876 rfl (lv_at hl 4 rfl) ?_
  refine lv_iload hx hb dL_law_877 (lv_at hl 0 rfl) ?_
  refine lv_iconst (v := 1) hx hb dL_law_879 (by decide) ?_
  refine lv_iadd hx hb dL_law_880 ?_
  refine lv_topi (fun v1 ev1 => ?_)
  obtain rfl : v1 = 1 := by rw [ev1]; decide
  refine va_sld hx hb hX hbl hbA hS (by unfold vp_in; decide) dL_law_881 ?_
  refine W.eq (g2 := F0 m 882 ls [.int (xs 1), .ref x]) rfl ?_
  refine lv_aload_n hx hb dL_law_882 rfl (lv_at hl 4 rfl) ?_
  refine lv_iload hx hb dL_law_883 (lv_at hl 0 rfl) ?_
  refine lv_iconst (v := 2) hx hb dL_law_885 (by decide) ?_
  refine lv_iadd hx hb dL_law_886 ?_
  refine lv_topi (fun v2 ev2 => ?_)
  obtain rfl : v2 = 2 := by rw [ev2]; decide
  refine va_sld hx hb hX hbl hbA hS (by unfold vp_in; decide) dL_law_887 ?_
  refine W.eq (g2 := F0 m 888 ls [.int (xs 2), .int (xs 1), .ref x]) rfl ?_
  refine k_i (va_runV (As := [.int (xs 1), .int (xs 2)]) (rest := []) ⟨hx, hb, hml, hown, hts⟩ (f_X7_ring l D cI cJ H.size x x0 x1 x2 x3 x4 x5 b0 b1 b2 b3 b4 b5 b6 b7 b8 b9 b10 b11 (xs 1) (xs 2)) (cwV 2 hts hL_law_X7_ring rfl rfl rfl (by decide +kernel) ⟨Nat.le_of_ble_eq_true rfl, Nat.le_of_ble_eq_true rfl⟩) (k_preV hE hP hD [0, 1] (by decide) rfl 0 rfl rfl) rfl rfl hl.1 rfl (lv_room (Nat.le_of_ble_eq_true rfl)) dL_law_888 ⟨Nat.le_of_ble_eq_true rfl, Nat.le_of_ble_eq_true rfl⟩) hP hD hS hA [0, 1] [2] rfl (wr := [(g, .inr (8, [.int 0, .int 0, .ref g2, .ref g3, .ref g4, .ref g5, .ref g6, .ref g7, .ref g8, .ref g9, .ref g10, .int 0, .ref g12, .ref g13, .int 0, .ref g15, .ref g16, .ref g17, .int 0, .ref g19, .ref g20, .ref g21, .ref g22, .ref g23, .ref g24, .ref g25, .ref g26, .ref g27, .ref g28, .int 0, .int 0, .int 0, .int 0, .ref g33, .ref g34, .ref g35, .ref g36, .ref g37, .ref g38, .ref g39, .int 0, .ref g41, .ref g42, .int 0, .ref g44, .ref g45]))]) rfl (by decide) (by decide) (fun r3 u H locs hw4 hP hD hS => ?_)
  obtain ⟨rfl, rfl⟩ := hw4
  have hP : va_P D vwCl [(g, .inr (8, [.int 0, .int 0, .ref g2, .ref g3, .ref g4, .ref g5, .ref g6, .ref g7, .ref g8, .ref g9, .ref g10, .int 0, .ref g12, .ref g13, .int 0, .ref g15, .ref g16, .ref g17, .int 0, .ref g19, .ref g20, .ref g21, .ref g22, .ref g23, .ref g24, .ref g25, .ref g26, .ref g27, .ref g28, .int 0, .int 0, .int 0, .int 0, .ref g33, .ref g34, .ref g35, .ref g36, .ref g37, .ref g38, .ref g39, .int 0, .ref g41, .ref g42, .int 0, .ref g44, .ref g45]))] H := hP
  have hD : va_D (fun q : Nat => s.heap.size ≤ q) [(g, .inr (8, [.int 0, .int 0, .ref g2, .ref g3, .ref g4, .ref g5, .ref g6, .ref g7, .ref g8, .ref g9, .ref g10, .int 0, .ref g12, .ref g13, .int 0, .ref g15, .ref g16, .ref g17, .int 0, .ref g19, .ref g20, .ref g21, .ref g22, .ref g23, .ref g24, .ref g25, .ref g26, .ref g27, .ref g28, .int 0, .int 0, .int 0, .int 0, .ref g33, .ref g34, .ref g35, .ref g36, .ref g37, .ref g38, .ref g39, .int 0, .ref g41, .ref g42, .int 0, .ref g44, .ref g45]))] := hD
  refine lv_aload_n hx hb dL_law_891 rfl (lv_at hl 2 rfl) ?_
  refine lv_aload_n hx hb dL_law_892 rfl (lv_at hl 4 rfl) ?_
  refine lv_iload hx hb dL_law_893 (lv_at hl 0 rfl) ?_
  refine lv_iconst (v := 1) hx hb dL_law_895 (by decide) ?_
  refine lv_iadd hx hb dL_law_896 ?_
  refine lv_topi (fun v5 ev5 => ?_)
  obtain rfl : v5 = 1 := by rw [ev5]; decide
  refine va_sld hx hb hX hbl hbA hS (by unfold vp_in; decide) dL_law_897 ?_
  refine W.eq (g2 := F0 m 898 ls [.int (xs 1), .ref g, .int (-1)]) rfl ?_
  refine lv_aload_n hx hb dL_law_898 rfl (lv_at hl 4 rfl) ?_
  refine lv_iload hx hb dL_law_899 (lv_at hl 0 rfl) ?_
  refine lv_iconst (v := 2) hx hb dL_law_901 (by decide) ?_
  refine lv_iadd hx hb dL_law_902 ?_
  refine lv_topi (fun v6 ev6 => ?_)
  obtain rfl : v6 = 2 := by rw [ev6]; decide
  refine va_sld hx hb hX hbl hbA hS (by unfold vp_in; decide) dL_law_903 ?_
  refine W.eq (g2 := F0 m 904 ls [.int (xs 2), .int (xs 1), .ref g, .int (-1)]) rfl ?_
  refine k_i (va_runV (As := [.int (xs 1), .int (xs 2)]) (rest := [.int (-1)]) ⟨hx, hb, hml, hown, hts⟩ (f_X8_ring l D cI cJ H.size g g2 g3 g4 g5 g6 g7 g8 g9 g10 g12 g13 g15 g16 g17 g19 g20 g21 g22 g23 g24 g25 g26 g27 g28 g33 g34 g35 g36 g37 g38 g39 g41 g42 g44 g45 (xs 1) (xs 2)) (cwV 2 hts hL_law_X8_ring rfl rfl rfl (by decide +kernel) ⟨Nat.le_of_ble_eq_true rfl, Nat.le_of_ble_eq_true rfl⟩) (k_preV hE hP hD [0] (by decide) rfl 0 rfl rfl) rfl rfl hl.1 rfl (lv_room (Nat.le_of_ble_eq_true rfl)) dL_law_904 ⟨Nat.le_of_ble_eq_true rfl, Nat.le_of_ble_eq_true rfl⟩) hP hD hS hA [0] [] rfl (wr := []) rfl (by decide) (by decide) (fun r7 u H locs hw8 hP hD hS => ?_)
  obtain ⟨rfl, rfl⟩ := hw8
  have hP : va_P D vwCl [] H := hP
  have hD : va_D (fun q : Nat => s.heap.size ≤ q) [] := hD
  refine lv_icmp_eq (tgt := 1651) hx hb dL_law_907 (by decide) (fun _ => ?_) (fun c9 => absurd (by decide) c9)
  refine W.widen (k := 90) (n := 1144) (Nat.le_of_ble_eq_true rfl) (Nat.le_of_ble_eq_true rfl) ?_
  exact kend _ _ _ hS (lv_sub hl [0, 1, 2, 3, 4] rfl)
set_option maxHeartbeats 4000000 in
set_option maxRecDepth 100000 in
theorem arm_17 {p : Program} {l : Launch} {e : Env} {s : State} {m : MethodId} {below : List Frame} {meth : Method} {c : Code} {b : Nat} {xs : Nat → Int32} {D : va_G} {cI cJ : ClassId} {Q : State → Prop} (C : LC p l s m c b xs D cI cJ) {x x0 x1 x2 x3 x4 x5 s1 s2 s5 s6 s7 s8 s9 s10 s11 b0 b1 b2 b3 b4 b5 b6 b7 b8 b9 b10 b11 w0 w1 w2 w3 w4 w8 d0 d1 d2 y0 y1 c0 c1 c2 c3 c6 c8 z0 z1 g g2 g3 g4 g5 g6 g7 g8 g9 g10 g12 g13 g15 g16 g17 g19 g20 g21 g22 g23 g24 g25 g26 g27 g28 g33 g34 g35 g36 g37 g38 g39 g41 g42 g44 g45 o : Nat} {H : Heap} {locs : List Loc} (hP : va_P D vwCl (LWS cI cJ x x0 x1 x2 x3 x4 x5 s1 s2 s5 s6 s7 s8 s9 s10 s11 b0 b1 b2 b3 b4 b5 b6 b7 b8 b9 b10 b11 w0 w1 w2 w3 w4 w8 d0 d1 d2 y0 y1 c0 c1 c2 c3 c6 c8 z0 z1 g g2 g3 g4 g5 g6 g7 g8 g9 g10 g12 g13 g15 g16 g17 g19 g20 g21 g22 g23 g24 g25 g26 g27 g28 g33 g34 g35 g36 g37 g38 g39 g41 g42 g44 g45 o) H) (hD : va_D (fun q : Nat => s.heap.size ≤ q) (LWS cI cJ x x0 x1 x2 x3 x4 x5 s1 s2 s5 s6 s7 s8 s9 s10 s11 b0 b1 b2 b3 b4 b5 b6 b7 b8 b9 b10 b11 w0 w1 w2 w3 w4 w8 d0 d1 d2 y0 y1 c0 c1 c2 c3 c6 c8 z0 z1 g g2 g3 g4 g5 g6 g7 g8 g9 g10 g12 g13 g15 g16 g17 g19 g20 g21 g22 g23 g24 g25 g26 g27 g28 g33 g34 g35 g36 g37 g38 g39 g41 g42 g44 g45 o)) (hS : va_S (fun q : Nat => s.heap.size ≤ q) s.heap H locs) {ls : Array Slot} (hl : lv_has ls 7 [(4, .int 0), (3, .ref o), (2, .ref g), (1, .ref x), (0, .ref b)])
    (kend : ∀ (H1 : Heap) (locs1 : List Loc) (ls1 : Array Slot), va_S (fun q : Nat => s.heap.size ≤ q) s.heap H1 locs1 → lv_has ls1 7 [(4, .int 0), (3, .ref o), (2, .ref g), (1, .ref x), (0, .ref b)] → W p l e room_1 s m #[Value.ref b] below meth c H1 locs1 90 1144 Q (F0 m 1651 ls1 [])) : W p l e room_1 s m #[Value.ref b] below meth c H locs 84 1104 Q (F0 m 912 ls []) := by
  obtain ⟨hx, hb, hml, hown, hts, hE, hX, hbl, hXw, hl9⟩ := C
  have hA : ∀ q : Nat, s.heap.size ≤ q → (fun q : Nat => s.heap.size ≤ q) q := fun _ h => h
  have hbA : ¬ (fun q : Nat => s.heap.size ≤ q) b := Nat.not_le.mpr hbl
  have hP : va_P D vwCl [(x, .inr (7, [.ref x0, .ref x1, .ref x2, .ref x3, .ref x4, .ref x5])), (x0, .inr (0, [.ref b0, .ref b1, .ref b2, .ref b3, .ref b4, .ref b5, .ref b6, .ref b7, .ref b8, .ref b9, .ref b10, .ref b11, .int 0, .int 0, .int 0])), (g, .inr (8, [.int 0, .int 0, .ref g2, .ref g3, .ref g4, .ref g5, .ref g6, .ref g7, .ref g8, .ref g9, .ref g10, .int 0, .ref g12, .ref g13, .int 0, .ref g15, .ref g16, .ref g17, .int 0, .ref g19, .ref g20, .ref g21, .ref g22, .ref g23, .ref g24, .ref g25, .ref g26, .ref g27, .ref g28, .int 0, .int 0, .int 0, .int 0, .ref g33, .ref g34, .ref g35, .ref g36, .ref g37, .ref g38, .ref g39, .int 0, .ref g41, .ref g42, .int 0, .ref g44, .ref g45]))] H := k_sub hP [0, 10, 47] rfl
  have hD : va_D (fun q : Nat => s.heap.size ≤ q) [(x, .inr (7, [.ref x0, .ref x1, .ref x2, .ref x3, .ref x4, .ref x5])), (x0, .inr (0, [.ref b0, .ref b1, .ref b2, .ref b3, .ref b4, .ref b5, .ref b6, .ref b7, .ref b8, .ref b9, .ref b10, .ref b11, .int 0, .int 0, .int 0])), (g, .inr (8, [.int 0, .int 0, .ref g2, .ref g3, .ref g4, .ref g5, .ref g6, .ref g7, .ref g8, .ref g9, .ref g10, .int 0, .ref g12, .ref g13, .int 0, .ref g15, .ref g16, .ref g17, .int 0, .ref g19, .ref g20, .ref g21, .ref g22, .ref g23, .ref g24, .ref g25, .ref g26, .ref g27, .ref g28, .int 0, .int 0, .int 0, .int 0, .ref g33, .ref g34, .ref g35, .ref g36, .ref g37, .ref g38, .ref g39, .int 0, .ref g41, .ref g42, .int 0, .ref g44, .ref g45]))] := hD.sub [0, 10, 47] (by decide) rfl
  refine lv_aload_n hx hb dL_law_912 rfl (lv_at hl 3 rfl) ?_
  refine lv_aload_n hx hb dL_law_913 rfl (lv_at hl 4 rfl) ?_
  refine lv_iload hx hb dL_law_914 (lv_at hl 0 rfl) ?_
  refine lv_iconst (v := 1) hx hb dL_law_916 (by decide) ?_
  refine lv_iadd hx hb dL_law_917 ?_
  refine lv_topi (fun v1 ev1 => ?_)
  obtain rfl : v1 = 1 := by rw [ev1]; decide
  refine va_sld hx hb hX hbl hbA hS (by unfold vp_in; decide) dL_law_918 ?_
  refine W.eq (g2 := F0 m 919 ls [.int (xs 1), .ref x]) rfl ?_
  refine lv_aload_n hx hb dL_law_919 rfl (lv_at hl 4 rfl) ?_
  refine lv_iload hx hb dL_law_920 (lv_at hl 0 rfl) ?_
  refine lv_iconst (v := 2) hx hb dL_law_922 (by decide) ?_
  refine lv_iadd hx hb dL_law_923 ?_
  refine lv_topi (fun v2 ev2 => ?_)
  obtain rfl : v2 = 2 := by rw [ev2]; decide
  refine va_sld hx hb hX hbl hbA hS (by unfold vp_in; decide) dL_law_924 ?_
  refine W.eq (g2 := F0 m 925 ls [.int (xs 2), .int (xs 1), .ref x]) rfl ?_
  refine lv_aload_n hx hb dL_law_925 rfl (lv_at hl 4 rfl) ?_
  refine lv_iload hx hb dL_law_926 (lv_at hl 0 rfl) ?_
  refine lv_iconst (v := 3) hx hb dL_law_928 (by decide) ?_
  refine lv_iadd hx hb dL_law_929 ?_
  refine lv_topi (fun v3 ev3 => ?_)
  obtain rfl : v3 = 3 := by rw [ev3]; decide
  refine va_sld hx hb hX hbl hbA hS (by unfold vp_in; decide) dL_law_930 ?_
  refine W.eq (g2 := F0 m 931 ls [.int (xs 3), .int (xs 2), .int (xs 1), .ref x]) rfl ?_
  refine lv_aload_n hx hb dL_law_931 rfl (lv_at hl 4 rfl) ?_
  refine lv_iload hx hb dL_law_932 (lv_at hl 0 rfl) ?_
  refine lv_iconst (v := 4) hx hb dL_law_934 (by decide) ?_
  refine lv_iadd hx hb dL_law_935 ?_
  refine lv_topi (fun v4 ev4 => ?_)
  obtain rfl : v4 = 4 := by rw [ev4]; decide
  refine va_sld hx hb hX hbl hbA hS (by unfold vp_in; decide) dL_law_936 ?_
  refine W.eq (g2 := F0 m 937 ls [.int (xs 4), .int (xs 3), .int (xs 2), .int (xs 1), .ref x]) rfl ?_
  refine k_i (va_runV (As := [.int (xs 1), .int (xs 2), .int (xs 3), .int (xs 4)]) (rest := []) ⟨hx, hb, hml, hown, hts⟩ (f_X7_way l D cI cJ H.size x x0 x1 x2 x3 x4 x5 b0 b1 b2 b3 b4 b5 b6 b7 b8 b9 b10 b11 (xs 1) (xs 2) (xs 3) (xs 4)) (cwV 4 hts hL_law_X7_way rfl rfl rfl (by decide +kernel) ⟨Nat.le_of_ble_eq_true rfl, Nat.le_of_ble_eq_true rfl⟩) (k_preV hE hP hD [0, 1] (by decide) rfl 0 rfl rfl) rfl rfl hl.1 rfl (lv_room (Nat.le_of_ble_eq_true rfl)) dL_law_937 ⟨Nat.le_of_ble_eq_true rfl, Nat.le_of_ble_eq_true rfl⟩) hP hD hS hA [0, 1] [2] rfl (wr := [(g, .inr (8, [.int 0, .int 0, .ref g2, .ref g3, .ref g4, .ref g5, .ref g6, .ref g7, .ref g8, .ref g9, .ref g10, .int 0, .ref g12, .ref g13, .int 0, .ref g15, .ref g16, .ref g17, .int 0, .ref g19, .ref g20, .ref g21, .ref g22, .ref g23, .ref g24, .ref g25, .ref g26, .ref g27, .ref g28, .int 0, .int 0, .int 0, .int 0, .ref g33, .ref g34, .ref g35, .ref g36, .ref g37, .ref g38, .ref g39, .int 0, .ref g41, .ref g42, .int 0, .ref g44, .ref g45]))]) rfl (by decide) (by decide) (fun r5 u H locs hw6 hP hD hS => ?_)
  obtain ⟨rfl, rfl⟩ := hw6
  have hP : va_P D vwCl [(g, .inr (8, [.int 0, .int 0, .ref g2, .ref g3, .ref g4, .ref g5, .ref g6, .ref g7, .ref g8, .ref g9, .ref g10, .int 0, .ref g12, .ref g13, .int 0, .ref g15, .ref g16, .ref g17, .int 0, .ref g19, .ref g20, .ref g21, .ref g22, .ref g23, .ref g24, .ref g25, .ref g26, .ref g27, .ref g28, .int 0, .int 0, .int 0, .int 0, .ref g33, .ref g34, .ref g35, .ref g36, .ref g37, .ref g38, .ref g39, .int 0, .ref g41, .ref g42, .int 0, .ref g44, .ref g45]))] H := hP
  have hD : va_D (fun q : Nat => s.heap.size ≤ q) [(g, .inr (8, [.int 0, .int 0, .ref g2, .ref g3, .ref g4, .ref g5, .ref g6, .ref g7, .ref g8, .ref g9, .ref g10, .int 0, .ref g12, .ref g13, .int 0, .ref g15, .ref g16, .ref g17, .int 0, .ref g19, .ref g20, .ref g21, .ref g22, .ref g23, .ref g24, .ref g25, .ref g26, .ref g27, .ref g28, .int 0, .int 0, .int 0, .int 0, .ref g33, .ref g34, .ref g35, .ref g36, .ref g37, .ref g38, .ref g39, .int 0, .ref g41, .ref g42, .int 0, .ref g44, .ref g45]))] := hD
  refine lv_aload_n hx hb dL_law_940 rfl (lv_at hl 2 rfl) ?_
  refine lv_aload_n hx hb dL_law_941 rfl (lv_at hl 4 rfl) ?_
  refine lv_iload hx hb dL_law_942 (lv_at hl 0 rfl) ?_
  refine lv_iconst (v := 1) hx hb dL_law_944 (by decide) ?_
  refine lv_iadd hx hb dL_law_945 ?_
  refine lv_topi (fun v7 ev7 => ?_)
  obtain rfl : v7 = 1 := by rw [ev7]; decide
  refine va_sld hx hb hX hbl hbA hS (by unfold vp_in; decide) dL_law_946 ?_
  refine W.eq (g2 := F0 m 947 ls [.int (xs 1), .ref g, .int (-1)]) rfl ?_
  refine lv_aload_n hx hb dL_law_947 rfl (lv_at hl 4 rfl) ?_
  refine lv_iload hx hb dL_law_948 (lv_at hl 0 rfl) ?_
  refine lv_iconst (v := 2) hx hb dL_law_950 (by decide) ?_
  refine lv_iadd hx hb dL_law_951 ?_
  refine lv_topi (fun v8 ev8 => ?_)
  obtain rfl : v8 = 2 := by rw [ev8]; decide
  refine va_sld hx hb hX hbl hbA hS (by unfold vp_in; decide) dL_law_952 ?_
  refine W.eq (g2 := F0 m 953 ls [.int (xs 2), .int (xs 1), .ref g, .int (-1)]) rfl ?_
  refine lv_aload_n hx hb dL_law_953 rfl (lv_at hl 4 rfl) ?_
  refine lv_iload hx hb dL_law_954 (lv_at hl 0 rfl) ?_
  refine lv_iconst (v := 3) hx hb dL_law_956 (by decide) ?_
  refine lv_iadd hx hb dL_law_957 ?_
  refine lv_topi (fun v9 ev9 => ?_)
  obtain rfl : v9 = 3 := by rw [ev9]; decide
  refine va_sld hx hb hX hbl hbA hS (by unfold vp_in; decide) dL_law_958 ?_
  refine W.eq (g2 := F0 m 959 ls [.int (xs 3), .int (xs 2), .int (xs 1), .ref g, .int (-1)]) rfl ?_
  refine lv_aload_n hx hb dL_law_959 rfl (lv_at hl 4 rfl) ?_
  refine lv_iload hx hb dL_law_960 (lv_at hl 0 rfl) ?_
  refine lv_iconst (v := 4) hx hb dL_law_962 (by decide) ?_
  refine lv_iadd hx hb dL_law_963 ?_
  refine lv_topi (fun v10 ev10 => ?_)
  obtain rfl : v10 = 4 := by rw [ev10]; decide
  refine va_sld hx hb hX hbl hbA hS (by unfold vp_in; decide) dL_law_964 ?_
  refine W.eq (g2 := F0 m 965 ls [.int (xs 4), .int (xs 3), .int (xs 2), .int (xs 1), .ref g, .int (-1)]) rfl ?_
  refine k_i (va_runV (As := [.int (xs 1), .int (xs 2), .int (xs 3), .int (xs 4)]) (rest := [.int (-1)]) ⟨hx, hb, hml, hown, hts⟩ (f_X8_way l D cI cJ H.size g g2 g3 g4 g5 g6 g7 g8 g9 g10 g12 g13 g15 g16 g17 g19 g20 g21 g22 g23 g24 g25 g26 g27 g28 g33 g34 g35 g36 g37 g38 g39 g41 g42 g44 g45 (xs 1) (xs 2) (xs 3) (xs 4)) (cwV 4 hts hL_law_X8_way rfl rfl rfl (by decide +kernel) ⟨Nat.le_of_ble_eq_true rfl, Nat.le_of_ble_eq_true rfl⟩) (k_preV hE hP hD [0] (by decide) rfl 0 rfl rfl) rfl rfl hl.1 rfl (lv_room (Nat.le_of_ble_eq_true rfl)) dL_law_965 ⟨Nat.le_of_ble_eq_true rfl, Nat.le_of_ble_eq_true rfl⟩) hP hD hS hA [0] [] rfl (wr := []) rfl (by decide) (by decide) (fun r11 u H locs hw12 hP hD hS => ?_)
  obtain ⟨rfl, rfl⟩ := hw12
  have hP : va_P D vwCl [] H := hP
  have hD : va_D (fun q : Nat => s.heap.size ≤ q) [] := hD
  refine lv_icmp_eq (tgt := 1651) hx hb dL_law_968 (by decide) (fun _ => ?_) (fun c13 => absurd (by decide) c13)
  refine W.widen (k := 90) (n := 1144) (Nat.le_of_ble_eq_true rfl) (Nat.le_of_ble_eq_true rfl) ?_
  exact kend _ _ _ hS (lv_sub hl [0, 1, 2, 3, 4] rfl)
set_option maxHeartbeats 4000000 in
set_option maxRecDepth 100000 in
theorem arm_18 {p : Program} {l : Launch} {e : Env} {s : State} {m : MethodId} {below : List Frame} {meth : Method} {c : Code} {b : Nat} {xs : Nat → Int32} {D : va_G} {cI cJ : ClassId} {Q : State → Prop} (C : LC p l s m c b xs D cI cJ) {x x0 x1 x2 x3 x4 x5 s1 s2 s5 s6 s7 s8 s9 s10 s11 b0 b1 b2 b3 b4 b5 b6 b7 b8 b9 b10 b11 w0 w1 w2 w3 w4 w8 d0 d1 d2 y0 y1 c0 c1 c2 c3 c6 c8 z0 z1 g g2 g3 g4 g5 g6 g7 g8 g9 g10 g12 g13 g15 g16 g17 g19 g20 g21 g22 g23 g24 g25 g26 g27 g28 g33 g34 g35 g36 g37 g38 g39 g41 g42 g44 g45 o : Nat} {H : Heap} {locs : List Loc} (hP : va_P D vwCl (LWS cI cJ x x0 x1 x2 x3 x4 x5 s1 s2 s5 s6 s7 s8 s9 s10 s11 b0 b1 b2 b3 b4 b5 b6 b7 b8 b9 b10 b11 w0 w1 w2 w3 w4 w8 d0 d1 d2 y0 y1 c0 c1 c2 c3 c6 c8 z0 z1 g g2 g3 g4 g5 g6 g7 g8 g9 g10 g12 g13 g15 g16 g17 g19 g20 g21 g22 g23 g24 g25 g26 g27 g28 g33 g34 g35 g36 g37 g38 g39 g41 g42 g44 g45 o) H) (hD : va_D (fun q : Nat => s.heap.size ≤ q) (LWS cI cJ x x0 x1 x2 x3 x4 x5 s1 s2 s5 s6 s7 s8 s9 s10 s11 b0 b1 b2 b3 b4 b5 b6 b7 b8 b9 b10 b11 w0 w1 w2 w3 w4 w8 d0 d1 d2 y0 y1 c0 c1 c2 c3 c6 c8 z0 z1 g g2 g3 g4 g5 g6 g7 g8 g9 g10 g12 g13 g15 g16 g17 g19 g20 g21 g22 g23 g24 g25 g26 g27 g28 g33 g34 g35 g36 g37 g38 g39 g41 g42 g44 g45 o)) (hS : va_S (fun q : Nat => s.heap.size ≤ q) s.heap H locs) {ls : Array Slot} (hl : lv_has ls 7 [(4, .int 0), (3, .ref o), (2, .ref g), (1, .ref x), (0, .ref b)])
    (kend : ∀ (H1 : Heap) (locs1 : List Loc) (ls1 : Array Slot), va_S (fun q : Nat => s.heap.size ≤ q) s.heap H1 locs1 → lv_has ls1 7 [(4, .int 0), (3, .ref o), (2, .ref g), (1, .ref x), (0, .ref b)] → W p l e room_1 s m #[Value.ref b] below meth c H1 locs1 90 1144 Q (F0 m 1651 ls1 [])) : W p l e room_1 s m #[Value.ref b] below meth c H locs 84 1104 Q (F0 m 973 ls []) := by
  obtain ⟨hx, hb, hml, hown, hts, hE, hX, hbl, hXw, hl9⟩ := C
  have hA : ∀ q : Nat, s.heap.size ≤ q → (fun q : Nat => s.heap.size ≤ q) q := fun _ h => h
  have hbA : ¬ (fun q : Nat => s.heap.size ≤ q) b := Nat.not_le.mpr hbl
  have hP : va_P D vwCl [(x, .inr (7, [.ref x0, .ref x1, .ref x2, .ref x3, .ref x4, .ref x5])), (x0, .inr (0, [.ref b0, .ref b1, .ref b2, .ref b3, .ref b4, .ref b5, .ref b6, .ref b7, .ref b8, .ref b9, .ref b10, .ref b11, .int 0, .int 0, .int 0])), (g, .inr (8, [.int 0, .int 0, .ref g2, .ref g3, .ref g4, .ref g5, .ref g6, .ref g7, .ref g8, .ref g9, .ref g10, .int 0, .ref g12, .ref g13, .int 0, .ref g15, .ref g16, .ref g17, .int 0, .ref g19, .ref g20, .ref g21, .ref g22, .ref g23, .ref g24, .ref g25, .ref g26, .ref g27, .ref g28, .int 0, .int 0, .int 0, .int 0, .ref g33, .ref g34, .ref g35, .ref g36, .ref g37, .ref g38, .ref g39, .int 0, .ref g41, .ref g42, .int 0, .ref g44, .ref g45]))] H := k_sub hP [0, 10, 47] rfl
  have hD : va_D (fun q : Nat => s.heap.size ≤ q) [(x, .inr (7, [.ref x0, .ref x1, .ref x2, .ref x3, .ref x4, .ref x5])), (x0, .inr (0, [.ref b0, .ref b1, .ref b2, .ref b3, .ref b4, .ref b5, .ref b6, .ref b7, .ref b8, .ref b9, .ref b10, .ref b11, .int 0, .int 0, .int 0])), (g, .inr (8, [.int 0, .int 0, .ref g2, .ref g3, .ref g4, .ref g5, .ref g6, .ref g7, .ref g8, .ref g9, .ref g10, .int 0, .ref g12, .ref g13, .int 0, .ref g15, .ref g16, .ref g17, .int 0, .ref g19, .ref g20, .ref g21, .ref g22, .ref g23, .ref g24, .ref g25, .ref g26, .ref g27, .ref g28, .int 0, .int 0, .int 0, .int 0, .ref g33, .ref g34, .ref g35, .ref g36, .ref g37, .ref g38, .ref g39, .int 0, .ref g41, .ref g42, .int 0, .ref g44, .ref g45]))] := hD.sub [0, 10, 47] (by decide) rfl
  refine lv_aload_n hx hb dL_law_973 rfl (lv_at hl 3 rfl) ?_
  refine lv_aload_n hx hb dL_law_974 rfl (lv_at hl 4 rfl) ?_
  refine lv_iload hx hb dL_law_975 (lv_at hl 0 rfl) ?_
  refine lv_iconst (v := 1) hx hb dL_law_977 (by decide) ?_
  refine lv_iadd hx hb dL_law_978 ?_
  refine lv_topi (fun v1 ev1 => ?_)
  obtain rfl : v1 = 1 := by rw [ev1]; decide
  refine va_sld hx hb hX hbl hbA hS (by unfold vp_in; decide) dL_law_979 ?_
  refine W.eq (g2 := F0 m 980 ls [.int (xs 1), .ref x]) rfl ?_
  refine lv_aload_n hx hb dL_law_980 rfl (lv_at hl 4 rfl) ?_
  refine lv_iload hx hb dL_law_981 (lv_at hl 0 rfl) ?_
  refine lv_iconst (v := 2) hx hb dL_law_983 (by decide) ?_
  refine lv_iadd hx hb dL_law_984 ?_
  refine lv_topi (fun v2 ev2 => ?_)
  obtain rfl : v2 = 2 := by rw [ev2]; decide
  refine va_sld hx hb hX hbl hbA hS (by unfold vp_in; decide) dL_law_985 ?_
  refine W.eq (g2 := F0 m 986 ls [.int (xs 2), .int (xs 1), .ref x]) rfl ?_
  refine lv_i2l hx hb dL_law_986 rfl ?_
  refine lv_bipush (v := 32) hx hb dL_law_987 (by decide) ?_
  refine lv_lshl hx hb dL_law_989 rfl ?_
  refine lv_aload_n hx hb dL_law_990 rfl (lv_at hl 4 rfl) ?_
  refine lv_iload hx hb dL_law_991 (lv_at hl 0 rfl) ?_
  refine lv_iconst (v := 3) hx hb dL_law_993 (by decide) ?_
  refine lv_iadd hx hb dL_law_994 ?_
  refine lv_topi (fun v3 ev3 => ?_)
  obtain rfl : v3 = 3 := by rw [ev3]; decide
  refine va_sld hx hb hX hbl hbA hS (by unfold vp_in; decide) dL_law_995 ?_
  refine W.eq (g2 := F0 m 996 ls [.int (xs 3), .long ((Int32.toInt64 (xs 2)) <<< (Int32.toInt64 32 &&& 63)), .int (xs 1), .ref x]) rfl ?_
  refine lv_i2l hx hb dL_law_996 rfl ?_
  refine lv_ldc2 (v := 4294967295) hx hb hown (hts _ wd1_7) dL_law_997 ?_
  refine lv_land hx hb dL_law_1000 ?_
  refine lv_lor hx hb dL_law_1001 ?_
  refine lv_aload_n hx hb dL_law_1002 rfl (lv_at hl 4 rfl) ?_
  refine lv_iload hx hb dL_law_1003 (lv_at hl 0 rfl) ?_
  refine lv_iconst (v := 4) hx hb dL_law_1005 (by decide) ?_
  refine lv_iadd hx hb dL_law_1006 ?_
  refine lv_topi (fun v4 ev4 => ?_)
  obtain rfl : v4 = 4 := by rw [ev4]; decide
  refine va_sld hx hb hX hbl hbA hS (by unfold vp_in; decide) dL_law_1007 ?_
  refine W.eq (g2 := F0 m 1008 ls [.int (xs 4), .long (((Int32.toInt64 (xs 2)) <<< (Int32.toInt64 32 &&& 63)) ||| ((Int32.toInt64 (xs 3)) &&& 4294967295)), .int (xs 1), .ref x]) rfl ?_
  refine k_i (va_runV (As := [.int (xs 1), .long (((Int32.toInt64 (xs 2)) <<< (Int32.toInt64 32 &&& 63)) ||| ((Int32.toInt64 (xs 3)) &&& 4294967295)), .int (xs 4)]) (rest := []) ⟨hx, hb, hml, hown, hts⟩ (f_X7_claimed l D cI cJ H.size x x0 x1 x2 x3 x4 x5 b0 b1 b2 b3 b4 b5 b6 b7 b8 b9 b10 b11 (xs 1) (xs 4) (((Int32.toInt64 (xs 2)) <<< (Int32.toInt64 32 &&& 63)) ||| ((Int32.toInt64 (xs 3)) &&& 4294967295))) (cwV 3 hts hL_law_X7_claimed rfl rfl rfl (by decide +kernel) ⟨Nat.le_of_ble_eq_true rfl, Nat.le_of_ble_eq_true rfl⟩) (k_preV hE hP hD [0, 1] (by decide) rfl 0 rfl rfl) rfl rfl hl.1 rfl (lv_room (Nat.le_of_ble_eq_true rfl)) dL_law_1008 ⟨Nat.le_of_ble_eq_true rfl, Nat.le_of_ble_eq_true rfl⟩) hP hD hS hA [0, 1] [2] rfl (wr := [(g, .inr (8, [.int 0, .int 0, .ref g2, .ref g3, .ref g4, .ref g5, .ref g6, .ref g7, .ref g8, .ref g9, .ref g10, .int 0, .ref g12, .ref g13, .int 0, .ref g15, .ref g16, .ref g17, .int 0, .ref g19, .ref g20, .ref g21, .ref g22, .ref g23, .ref g24, .ref g25, .ref g26, .ref g27, .ref g28, .int 0, .int 0, .int 0, .int 0, .ref g33, .ref g34, .ref g35, .ref g36, .ref g37, .ref g38, .ref g39, .int 0, .ref g41, .ref g42, .int 0, .ref g44, .ref g45]))]) rfl (by decide) (by decide) (fun r5 u H locs hw6 hP hD hS => ?_)
  obtain ⟨rfl, rfl⟩ := hw6
  have hP : va_P D vwCl [(g, .inr (8, [.int 0, .int 0, .ref g2, .ref g3, .ref g4, .ref g5, .ref g6, .ref g7, .ref g8, .ref g9, .ref g10, .int 0, .ref g12, .ref g13, .int 0, .ref g15, .ref g16, .ref g17, .int 0, .ref g19, .ref g20, .ref g21, .ref g22, .ref g23, .ref g24, .ref g25, .ref g26, .ref g27, .ref g28, .int 0, .int 0, .int 0, .int 0, .ref g33, .ref g34, .ref g35, .ref g36, .ref g37, .ref g38, .ref g39, .int 0, .ref g41, .ref g42, .int 0, .ref g44, .ref g45]))] H := hP
  have hD : va_D (fun q : Nat => s.heap.size ≤ q) [(g, .inr (8, [.int 0, .int 0, .ref g2, .ref g3, .ref g4, .ref g5, .ref g6, .ref g7, .ref g8, .ref g9, .ref g10, .int 0, .ref g12, .ref g13, .int 0, .ref g15, .ref g16, .ref g17, .int 0, .ref g19, .ref g20, .ref g21, .ref g22, .ref g23, .ref g24, .ref g25, .ref g26, .ref g27, .ref g28, .int 0, .int 0, .int 0, .int 0, .ref g33, .ref g34, .ref g35, .ref g36, .ref g37, .ref g38, .ref g39, .int 0, .ref g41, .ref g42, .int 0, .ref g44, .ref g45]))] := hD
  refine lv_aload_n hx hb dL_law_1011 rfl (lv_at hl 2 rfl) ?_
  refine lv_aload_n hx hb dL_law_1012 rfl (lv_at hl 4 rfl) ?_
  refine lv_iload hx hb dL_law_1013 (lv_at hl 0 rfl) ?_
  refine lv_iconst (v := 1) hx hb dL_law_1015 (by decide) ?_
  refine lv_iadd hx hb dL_law_1016 ?_
  refine lv_topi (fun v7 ev7 => ?_)
  obtain rfl : v7 = 1 := by rw [ev7]; decide
  refine va_sld hx hb hX hbl hbA hS (by unfold vp_in; decide) dL_law_1017 ?_
  refine W.eq (g2 := F0 m 1018 ls [.int (xs 1), .ref g, .int (-1)]) rfl ?_
  refine lv_aload_n hx hb dL_law_1018 rfl (lv_at hl 4 rfl) ?_
  refine lv_iload hx hb dL_law_1019 (lv_at hl 0 rfl) ?_
  refine lv_iconst (v := 2) hx hb dL_law_1021 (by decide) ?_
  refine lv_iadd hx hb dL_law_1022 ?_
  refine lv_topi (fun v8 ev8 => ?_)
  obtain rfl : v8 = 2 := by rw [ev8]; decide
  refine va_sld hx hb hX hbl hbA hS (by unfold vp_in; decide) dL_law_1023 ?_
  refine W.eq (g2 := F0 m 1024 ls [.int (xs 2), .int (xs 1), .ref g, .int (-1)]) rfl ?_
  refine lv_i2l hx hb dL_law_1024 rfl ?_
  refine lv_bipush (v := 32) hx hb dL_law_1025 (by decide) ?_
  refine lv_lshl hx hb dL_law_1027 rfl ?_
  refine lv_aload_n hx hb dL_law_1028 rfl (lv_at hl 4 rfl) ?_
  refine lv_iload hx hb dL_law_1029 (lv_at hl 0 rfl) ?_
  refine lv_iconst (v := 3) hx hb dL_law_1031 (by decide) ?_
  refine lv_iadd hx hb dL_law_1032 ?_
  refine lv_topi (fun v9 ev9 => ?_)
  obtain rfl : v9 = 3 := by rw [ev9]; decide
  refine va_sld hx hb hX hbl hbA hS (by unfold vp_in; decide) dL_law_1033 ?_
  refine W.eq (g2 := F0 m 1034 ls [.int (xs 3), .long ((Int32.toInt64 (xs 2)) <<< (Int32.toInt64 32 &&& 63)), .int (xs 1), .ref g, .int (-1)]) rfl ?_
  refine lv_i2l hx hb dL_law_1034 rfl ?_
  refine lv_ldc2 (v := 4294967295) hx hb hown (hts _ wd1_7) dL_law_1035 ?_
  refine lv_land hx hb dL_law_1038 ?_
  refine lv_lor hx hb dL_law_1039 ?_
  refine lv_aload_n hx hb dL_law_1040 rfl (lv_at hl 4 rfl) ?_
  refine lv_iload hx hb dL_law_1041 (lv_at hl 0 rfl) ?_
  refine lv_iconst (v := 4) hx hb dL_law_1043 (by decide) ?_
  refine lv_iadd hx hb dL_law_1044 ?_
  refine lv_topi (fun v10 ev10 => ?_)
  obtain rfl : v10 = 4 := by rw [ev10]; decide
  refine va_sld hx hb hX hbl hbA hS (by unfold vp_in; decide) dL_law_1045 ?_
  refine W.eq (g2 := F0 m 1046 ls [.int (xs 4), .long (((Int32.toInt64 (xs 2)) <<< (Int32.toInt64 32 &&& 63)) ||| ((Int32.toInt64 (xs 3)) &&& 4294967295)), .int (xs 1), .ref g, .int (-1)]) rfl ?_
  refine k_i (va_runV (As := [.int (xs 1), .long (((Int32.toInt64 (xs 2)) <<< (Int32.toInt64 32 &&& 63)) ||| ((Int32.toInt64 (xs 3)) &&& 4294967295)), .int (xs 4)]) (rest := [.int (-1)]) ⟨hx, hb, hml, hown, hts⟩ (f_X8_claimed l D cI cJ H.size g g2 g3 g4 g5 g6 g7 g8 g9 g10 g12 g13 g15 g16 g17 g19 g20 g21 g22 g23 g24 g25 g26 g27 g28 g33 g34 g35 g36 g37 g38 g39 g41 g42 g44 g45 (xs 1) (xs 4) (((Int32.toInt64 (xs 2)) <<< (Int32.toInt64 32 &&& 63)) ||| ((Int32.toInt64 (xs 3)) &&& 4294967295))) (cwV 3 hts hL_law_X8_claimed rfl rfl rfl (by decide +kernel) ⟨Nat.le_of_ble_eq_true rfl, Nat.le_of_ble_eq_true rfl⟩) (k_preV hE hP hD [0] (by decide) rfl 0 rfl rfl) rfl rfl hl.1 rfl (lv_room (Nat.le_of_ble_eq_true rfl)) dL_law_1046 ⟨Nat.le_of_ble_eq_true rfl, Nat.le_of_ble_eq_true rfl⟩) hP hD hS hA [0] [] rfl (wr := []) rfl (by decide) (by decide) (fun r11 u H locs hw12 hP hD hS => ?_)
  obtain ⟨rfl, rfl⟩ := hw12
  have hP : va_P D vwCl [] H := hP
  have hD : va_D (fun q : Nat => s.heap.size ≤ q) [] := hD
  refine lv_icmp_eq (tgt := 1651) hx hb dL_law_1049 (by decide) (fun _ => ?_) (fun c13 => absurd (by decide) c13)
  refine W.widen (k := 90) (n := 1144) (Nat.le_of_ble_eq_true rfl) (Nat.le_of_ble_eq_true rfl) ?_
  exact kend _ _ _ hS (lv_sub hl [0, 1, 2, 3, 4] rfl)
set_option maxHeartbeats 4000000 in
set_option maxRecDepth 100000 in
theorem arm_19 {p : Program} {l : Launch} {e : Env} {s : State} {m : MethodId} {below : List Frame} {meth : Method} {c : Code} {b : Nat} {xs : Nat → Int32} {D : va_G} {cI cJ : ClassId} {Q : State → Prop} (C : LC p l s m c b xs D cI cJ) {x x0 x1 x2 x3 x4 x5 s1 s2 s5 s6 s7 s8 s9 s10 s11 b0 b1 b2 b3 b4 b5 b6 b7 b8 b9 b10 b11 w0 w1 w2 w3 w4 w8 d0 d1 d2 y0 y1 c0 c1 c2 c3 c6 c8 z0 z1 g g2 g3 g4 g5 g6 g7 g8 g9 g10 g12 g13 g15 g16 g17 g19 g20 g21 g22 g23 g24 g25 g26 g27 g28 g33 g34 g35 g36 g37 g38 g39 g41 g42 g44 g45 o : Nat} {H : Heap} {locs : List Loc} (hP : va_P D vwCl (LWS cI cJ x x0 x1 x2 x3 x4 x5 s1 s2 s5 s6 s7 s8 s9 s10 s11 b0 b1 b2 b3 b4 b5 b6 b7 b8 b9 b10 b11 w0 w1 w2 w3 w4 w8 d0 d1 d2 y0 y1 c0 c1 c2 c3 c6 c8 z0 z1 g g2 g3 g4 g5 g6 g7 g8 g9 g10 g12 g13 g15 g16 g17 g19 g20 g21 g22 g23 g24 g25 g26 g27 g28 g33 g34 g35 g36 g37 g38 g39 g41 g42 g44 g45 o) H) (hD : va_D (fun q : Nat => s.heap.size ≤ q) (LWS cI cJ x x0 x1 x2 x3 x4 x5 s1 s2 s5 s6 s7 s8 s9 s10 s11 b0 b1 b2 b3 b4 b5 b6 b7 b8 b9 b10 b11 w0 w1 w2 w3 w4 w8 d0 d1 d2 y0 y1 c0 c1 c2 c3 c6 c8 z0 z1 g g2 g3 g4 g5 g6 g7 g8 g9 g10 g12 g13 g15 g16 g17 g19 g20 g21 g22 g23 g24 g25 g26 g27 g28 g33 g34 g35 g36 g37 g38 g39 g41 g42 g44 g45 o)) (hS : va_S (fun q : Nat => s.heap.size ≤ q) s.heap H locs) {ls : Array Slot} (hl : lv_has ls 7 [(4, .int 0), (3, .ref o), (2, .ref g), (1, .ref x), (0, .ref b)])
    (kend : ∀ (H1 : Heap) (locs1 : List Loc) (ls1 : Array Slot), va_S (fun q : Nat => s.heap.size ≤ q) s.heap H1 locs1 → lv_has ls1 7 [(4, .int 0), (3, .ref o), (2, .ref g), (1, .ref x), (0, .ref b)] → W p l e room_1 s m #[Value.ref b] below meth c H1 locs1 90 1144 Q (F0 m 1651 ls1 [])) : W p l e room_1 s m #[Value.ref b] below meth c H locs 84 1104 Q (F0 m 1054 ls []) := by
  obtain ⟨hx, hb, hml, hown, hts, hE, hX, hbl, hXw, hl9⟩ := C
  have hA : ∀ q : Nat, s.heap.size ≤ q → (fun q : Nat => s.heap.size ≤ q) q := fun _ h => h
  have hbA : ¬ (fun q : Nat => s.heap.size ≤ q) b := Nat.not_le.mpr hbl
  have hP : va_P D vwCl [(x, .inr (7, [.ref x0, .ref x1, .ref x2, .ref x3, .ref x4, .ref x5])), (x0, .inr (0, [.ref b0, .ref b1, .ref b2, .ref b3, .ref b4, .ref b5, .ref b6, .ref b7, .ref b8, .ref b9, .ref b10, .ref b11, .int 0, .int 0, .int 0])), (g, .inr (8, [.int 0, .int 0, .ref g2, .ref g3, .ref g4, .ref g5, .ref g6, .ref g7, .ref g8, .ref g9, .ref g10, .int 0, .ref g12, .ref g13, .int 0, .ref g15, .ref g16, .ref g17, .int 0, .ref g19, .ref g20, .ref g21, .ref g22, .ref g23, .ref g24, .ref g25, .ref g26, .ref g27, .ref g28, .int 0, .int 0, .int 0, .int 0, .ref g33, .ref g34, .ref g35, .ref g36, .ref g37, .ref g38, .ref g39, .int 0, .ref g41, .ref g42, .int 0, .ref g44, .ref g45]))] H := k_sub hP [0, 10, 47] rfl
  have hD : va_D (fun q : Nat => s.heap.size ≤ q) [(x, .inr (7, [.ref x0, .ref x1, .ref x2, .ref x3, .ref x4, .ref x5])), (x0, .inr (0, [.ref b0, .ref b1, .ref b2, .ref b3, .ref b4, .ref b5, .ref b6, .ref b7, .ref b8, .ref b9, .ref b10, .ref b11, .int 0, .int 0, .int 0])), (g, .inr (8, [.int 0, .int 0, .ref g2, .ref g3, .ref g4, .ref g5, .ref g6, .ref g7, .ref g8, .ref g9, .ref g10, .int 0, .ref g12, .ref g13, .int 0, .ref g15, .ref g16, .ref g17, .int 0, .ref g19, .ref g20, .ref g21, .ref g22, .ref g23, .ref g24, .ref g25, .ref g26, .ref g27, .ref g28, .int 0, .int 0, .int 0, .int 0, .ref g33, .ref g34, .ref g35, .ref g36, .ref g37, .ref g38, .ref g39, .int 0, .ref g41, .ref g42, .int 0, .ref g44, .ref g45]))] := hD.sub [0, 10, 47] (by decide) rfl
  refine lv_aload_n hx hb dL_law_1054 rfl (lv_at hl 3 rfl) ?_
  refine lv_aload_n hx hb dL_law_1055 rfl (lv_at hl 4 rfl) ?_
  refine lv_iload hx hb dL_law_1056 (lv_at hl 0 rfl) ?_
  refine lv_iconst (v := 1) hx hb dL_law_1058 (by decide) ?_
  refine lv_iadd hx hb dL_law_1059 ?_
  refine lv_topi (fun v1 ev1 => ?_)
  obtain rfl : v1 = 1 := by rw [ev1]; decide
  refine va_sld hx hb hX hbl hbA hS (by unfold vp_in; decide) dL_law_1060 ?_
  refine W.eq (g2 := F0 m 1061 ls [.int (xs 1), .ref x]) rfl ?_
  refine lv_aload_n hx hb dL_law_1061 rfl (lv_at hl 4 rfl) ?_
  refine lv_iload hx hb dL_law_1062 (lv_at hl 0 rfl) ?_
  refine lv_iconst (v := 2) hx hb dL_law_1064 (by decide) ?_
  refine lv_iadd hx hb dL_law_1065 ?_
  refine lv_topi (fun v2 ev2 => ?_)
  obtain rfl : v2 = 2 := by rw [ev2]; decide
  refine va_sld hx hb hX hbl hbA hS (by unfold vp_in; decide) dL_law_1066 ?_
  refine W.eq (g2 := F0 m 1067 ls [.int (xs 2), .int (xs 1), .ref x]) rfl ?_
  refine lv_i2l hx hb dL_law_1067 rfl ?_
  refine lv_bipush (v := 32) hx hb dL_law_1068 (by decide) ?_
  refine lv_lshl hx hb dL_law_1070 rfl ?_
  refine lv_aload_n hx hb dL_law_1071 rfl (lv_at hl 4 rfl) ?_
  refine lv_iload hx hb dL_law_1072 (lv_at hl 0 rfl) ?_
  refine lv_iconst (v := 3) hx hb dL_law_1074 (by decide) ?_
  refine lv_iadd hx hb dL_law_1075 ?_
  refine lv_topi (fun v3 ev3 => ?_)
  obtain rfl : v3 = 3 := by rw [ev3]; decide
  refine va_sld hx hb hX hbl hbA hS (by unfold vp_in; decide) dL_law_1076 ?_
  refine W.eq (g2 := F0 m 1077 ls [.int (xs 3), .long ((Int32.toInt64 (xs 2)) <<< (Int32.toInt64 32 &&& 63)), .int (xs 1), .ref x]) rfl ?_
  refine lv_i2l hx hb dL_law_1077 rfl ?_
  refine lv_ldc2 (v := 4294967295) hx hb hown (hts _ wd1_7) dL_law_1078 ?_
  refine lv_land hx hb dL_law_1081 ?_
  refine lv_lor hx hb dL_law_1082 ?_
  refine lv_aload_n hx hb dL_law_1083 rfl (lv_at hl 4 rfl) ?_
  refine lv_iload hx hb dL_law_1084 (lv_at hl 0 rfl) ?_
  refine lv_iconst (v := 4) hx hb dL_law_1086 (by decide) ?_
  refine lv_iadd hx hb dL_law_1087 ?_
  refine lv_topi (fun v4 ev4 => ?_)
  obtain rfl : v4 = 4 := by rw [ev4]; decide
  refine va_sld hx hb hX hbl hbA hS (by unfold vp_in; decide) dL_law_1088 ?_
  refine W.eq (g2 := F0 m 1089 ls [.int (xs 4), .long (((Int32.toInt64 (xs 2)) <<< (Int32.toInt64 32 &&& 63)) ||| ((Int32.toInt64 (xs 3)) &&& 4294967295)), .int (xs 1), .ref x]) rfl ?_
  refine lv_aload_n hx hb dL_law_1089 rfl (lv_at hl 4 rfl) ?_
  refine lv_iload hx hb dL_law_1090 (lv_at hl 0 rfl) ?_
  refine lv_iconst (v := 5) hx hb dL_law_1092 (by decide) ?_
  refine lv_iadd hx hb dL_law_1093 ?_
  refine lv_topi (fun v5 ev5 => ?_)
  obtain rfl : v5 = 5 := by rw [ev5]; decide
  refine va_sld hx hb hX hbl hbA hS (by unfold vp_in; decide) dL_law_1094 ?_
  refine W.eq (g2 := F0 m 1095 ls [.int (xs 5), .int (xs 4), .long (((Int32.toInt64 (xs 2)) <<< (Int32.toInt64 32 &&& 63)) ||| ((Int32.toInt64 (xs 3)) &&& 4294967295)), .int (xs 1), .ref x]) rfl ?_
  refine k_i (va_runV (As := [.int (xs 1), .long (((Int32.toInt64 (xs 2)) <<< (Int32.toInt64 32 &&& 63)) ||| ((Int32.toInt64 (xs 3)) &&& 4294967295)), .int (xs 4), .int (xs 5)]) (rest := []) ⟨hx, hb, hml, hown, hts⟩ (f_X7_recovery l D cI cJ H.size x x0 x1 x2 x3 x4 x5 b0 b1 b2 b3 b4 b5 b6 b7 b8 b9 b10 b11 (xs 1) (xs 4) (xs 5) (((Int32.toInt64 (xs 2)) <<< (Int32.toInt64 32 &&& 63)) ||| ((Int32.toInt64 (xs 3)) &&& 4294967295))) (cwV 4 hts hL_law_X7_recovery rfl rfl rfl (by decide +kernel) ⟨Nat.le_of_ble_eq_true rfl, Nat.le_of_ble_eq_true rfl⟩) (k_preV hE hP hD [0, 1] (by decide) rfl 0 rfl rfl) rfl rfl hl.1 rfl (lv_room (Nat.le_of_ble_eq_true rfl)) dL_law_1095 ⟨Nat.le_of_ble_eq_true rfl, Nat.le_of_ble_eq_true rfl⟩) hP hD hS hA [0, 1] [2] rfl (wr := [(g, .inr (8, [.int 0, .int 0, .ref g2, .ref g3, .ref g4, .ref g5, .ref g6, .ref g7, .ref g8, .ref g9, .ref g10, .int 0, .ref g12, .ref g13, .int 0, .ref g15, .ref g16, .ref g17, .int 0, .ref g19, .ref g20, .ref g21, .ref g22, .ref g23, .ref g24, .ref g25, .ref g26, .ref g27, .ref g28, .int 0, .int 0, .int 0, .int 0, .ref g33, .ref g34, .ref g35, .ref g36, .ref g37, .ref g38, .ref g39, .int 0, .ref g41, .ref g42, .int 0, .ref g44, .ref g45]))]) rfl (by decide) (by decide) (fun r6 u H locs hw7 hP hD hS => ?_)
  obtain ⟨rfl, rfl⟩ := hw7
  have hP : va_P D vwCl [(g, .inr (8, [.int 0, .int 0, .ref g2, .ref g3, .ref g4, .ref g5, .ref g6, .ref g7, .ref g8, .ref g9, .ref g10, .int 0, .ref g12, .ref g13, .int 0, .ref g15, .ref g16, .ref g17, .int 0, .ref g19, .ref g20, .ref g21, .ref g22, .ref g23, .ref g24, .ref g25, .ref g26, .ref g27, .ref g28, .int 0, .int 0, .int 0, .int 0, .ref g33, .ref g34, .ref g35, .ref g36, .ref g37, .ref g38, .ref g39, .int 0, .ref g41, .ref g42, .int 0, .ref g44, .ref g45]))] H := hP
  have hD : va_D (fun q : Nat => s.heap.size ≤ q) [(g, .inr (8, [.int 0, .int 0, .ref g2, .ref g3, .ref g4, .ref g5, .ref g6, .ref g7, .ref g8, .ref g9, .ref g10, .int 0, .ref g12, .ref g13, .int 0, .ref g15, .ref g16, .ref g17, .int 0, .ref g19, .ref g20, .ref g21, .ref g22, .ref g23, .ref g24, .ref g25, .ref g26, .ref g27, .ref g28, .int 0, .int 0, .int 0, .int 0, .ref g33, .ref g34, .ref g35, .ref g36, .ref g37, .ref g38, .ref g39, .int 0, .ref g41, .ref g42, .int 0, .ref g44, .ref g45]))] := hD
  refine lv_aload_n hx hb dL_law_1098 rfl (lv_at hl 2 rfl) ?_
  refine lv_aload_n hx hb dL_law_1099 rfl (lv_at hl 4 rfl) ?_
  refine lv_iload hx hb dL_law_1100 (lv_at hl 0 rfl) ?_
  refine lv_iconst (v := 1) hx hb dL_law_1102 (by decide) ?_
  refine lv_iadd hx hb dL_law_1103 ?_
  refine lv_topi (fun v8 ev8 => ?_)
  obtain rfl : v8 = 1 := by rw [ev8]; decide
  refine va_sld hx hb hX hbl hbA hS (by unfold vp_in; decide) dL_law_1104 ?_
  refine W.eq (g2 := F0 m 1105 ls [.int (xs 1), .ref g, .int (-1)]) rfl ?_
  refine lv_aload_n hx hb dL_law_1105 rfl (lv_at hl 4 rfl) ?_
  refine lv_iload hx hb dL_law_1106 (lv_at hl 0 rfl) ?_
  refine lv_iconst (v := 2) hx hb dL_law_1108 (by decide) ?_
  refine lv_iadd hx hb dL_law_1109 ?_
  refine lv_topi (fun v9 ev9 => ?_)
  obtain rfl : v9 = 2 := by rw [ev9]; decide
  refine va_sld hx hb hX hbl hbA hS (by unfold vp_in; decide) dL_law_1110 ?_
  refine W.eq (g2 := F0 m 1111 ls [.int (xs 2), .int (xs 1), .ref g, .int (-1)]) rfl ?_
  refine lv_i2l hx hb dL_law_1111 rfl ?_
  refine lv_bipush (v := 32) hx hb dL_law_1112 (by decide) ?_
  refine lv_lshl hx hb dL_law_1114 rfl ?_
  refine lv_aload_n hx hb dL_law_1115 rfl (lv_at hl 4 rfl) ?_
  refine lv_iload hx hb dL_law_1116 (lv_at hl 0 rfl) ?_
  refine lv_iconst (v := 3) hx hb dL_law_1118 (by decide) ?_
  refine lv_iadd hx hb dL_law_1119 ?_
  refine lv_topi (fun v10 ev10 => ?_)
  obtain rfl : v10 = 3 := by rw [ev10]; decide
  refine va_sld hx hb hX hbl hbA hS (by unfold vp_in; decide) dL_law_1120 ?_
  refine W.eq (g2 := F0 m 1121 ls [.int (xs 3), .long ((Int32.toInt64 (xs 2)) <<< (Int32.toInt64 32 &&& 63)), .int (xs 1), .ref g, .int (-1)]) rfl ?_
  refine lv_i2l hx hb dL_law_1121 rfl ?_
  refine lv_ldc2 (v := 4294967295) hx hb hown (hts _ wd1_7) dL_law_1122 ?_
  refine lv_land hx hb dL_law_1125 ?_
  refine lv_lor hx hb dL_law_1126 ?_
  refine lv_aload_n hx hb dL_law_1127 rfl (lv_at hl 4 rfl) ?_
  refine lv_iload hx hb dL_law_1128 (lv_at hl 0 rfl) ?_
  refine lv_iconst (v := 4) hx hb dL_law_1130 (by decide) ?_
  refine lv_iadd hx hb dL_law_1131 ?_
  refine lv_topi (fun v11 ev11 => ?_)
  obtain rfl : v11 = 4 := by rw [ev11]; decide
  refine va_sld hx hb hX hbl hbA hS (by unfold vp_in; decide) dL_law_1132 ?_
  refine W.eq (g2 := F0 m 1133 ls [.int (xs 4), .long (((Int32.toInt64 (xs 2)) <<< (Int32.toInt64 32 &&& 63)) ||| ((Int32.toInt64 (xs 3)) &&& 4294967295)), .int (xs 1), .ref g, .int (-1)]) rfl ?_
  refine lv_aload_n hx hb dL_law_1133 rfl (lv_at hl 4 rfl) ?_
  refine lv_iload hx hb dL_law_1134 (lv_at hl 0 rfl) ?_
  refine lv_iconst (v := 5) hx hb dL_law_1136 (by decide) ?_
  refine lv_iadd hx hb dL_law_1137 ?_
  refine lv_topi (fun v12 ev12 => ?_)
  obtain rfl : v12 = 5 := by rw [ev12]; decide
  refine va_sld hx hb hX hbl hbA hS (by unfold vp_in; decide) dL_law_1138 ?_
  refine W.eq (g2 := F0 m 1139 ls [.int (xs 5), .int (xs 4), .long (((Int32.toInt64 (xs 2)) <<< (Int32.toInt64 32 &&& 63)) ||| ((Int32.toInt64 (xs 3)) &&& 4294967295)), .int (xs 1), .ref g, .int (-1)]) rfl ?_
  refine k_i (va_runV (As := [.int (xs 1), .long (((Int32.toInt64 (xs 2)) <<< (Int32.toInt64 32 &&& 63)) ||| ((Int32.toInt64 (xs 3)) &&& 4294967295)), .int (xs 4), .int (xs 5)]) (rest := [.int (-1)]) ⟨hx, hb, hml, hown, hts⟩ (f_X8_recovery l D cI cJ H.size g g2 g3 g4 g5 g6 g7 g8 g9 g10 g12 g13 g15 g16 g17 g19 g20 g21 g22 g23 g24 g25 g26 g27 g28 g33 g34 g35 g36 g37 g38 g39 g41 g42 g44 g45 (xs 1) (xs 4) (xs 5) (((Int32.toInt64 (xs 2)) <<< (Int32.toInt64 32 &&& 63)) ||| ((Int32.toInt64 (xs 3)) &&& 4294967295))) (cwV 4 hts hL_law_X8_recovery rfl rfl rfl (by decide +kernel) ⟨Nat.le_of_ble_eq_true rfl, Nat.le_of_ble_eq_true rfl⟩) (k_preV hE hP hD [0] (by decide) rfl 0 rfl rfl) rfl rfl hl.1 rfl (lv_room (Nat.le_of_ble_eq_true rfl)) dL_law_1139 ⟨Nat.le_of_ble_eq_true rfl, Nat.le_of_ble_eq_true rfl⟩) hP hD hS hA [0] [] rfl (wr := []) rfl (by decide) (by decide) (fun r13 u H locs hw14 hP hD hS => ?_)
  obtain ⟨rfl, rfl⟩ := hw14
  have hP : va_P D vwCl [] H := hP
  have hD : va_D (fun q : Nat => s.heap.size ≤ q) [] := hD
  refine lv_icmp_eq (tgt := 1651) hx hb dL_law_1142 (by decide) (fun _ => ?_) (fun c15 => absurd (by decide) c15)
  refine W.widen (k := 90) (n := 1144) (Nat.le_of_ble_eq_true rfl) (Nat.le_of_ble_eq_true rfl) ?_
  exact kend _ _ _ hS (lv_sub hl [0, 1, 2, 3, 4] rfl)
set_option maxHeartbeats 4000000 in
set_option maxRecDepth 100000 in
theorem arm_20 {p : Program} {l : Launch} {e : Env} {s : State} {m : MethodId} {below : List Frame} {meth : Method} {c : Code} {b : Nat} {xs : Nat → Int32} {D : va_G} {cI cJ : ClassId} {Q : State → Prop} (C : LC p l s m c b xs D cI cJ) {x x0 x1 x2 x3 x4 x5 s1 s2 s5 s6 s7 s8 s9 s10 s11 b0 b1 b2 b3 b4 b5 b6 b7 b8 b9 b10 b11 w0 w1 w2 w3 w4 w8 d0 d1 d2 y0 y1 c0 c1 c2 c3 c6 c8 z0 z1 g g2 g3 g4 g5 g6 g7 g8 g9 g10 g12 g13 g15 g16 g17 g19 g20 g21 g22 g23 g24 g25 g26 g27 g28 g33 g34 g35 g36 g37 g38 g39 g41 g42 g44 g45 o : Nat} {H : Heap} {locs : List Loc} (hP : va_P D vwCl (LWS cI cJ x x0 x1 x2 x3 x4 x5 s1 s2 s5 s6 s7 s8 s9 s10 s11 b0 b1 b2 b3 b4 b5 b6 b7 b8 b9 b10 b11 w0 w1 w2 w3 w4 w8 d0 d1 d2 y0 y1 c0 c1 c2 c3 c6 c8 z0 z1 g g2 g3 g4 g5 g6 g7 g8 g9 g10 g12 g13 g15 g16 g17 g19 g20 g21 g22 g23 g24 g25 g26 g27 g28 g33 g34 g35 g36 g37 g38 g39 g41 g42 g44 g45 o) H) (hD : va_D (fun q : Nat => s.heap.size ≤ q) (LWS cI cJ x x0 x1 x2 x3 x4 x5 s1 s2 s5 s6 s7 s8 s9 s10 s11 b0 b1 b2 b3 b4 b5 b6 b7 b8 b9 b10 b11 w0 w1 w2 w3 w4 w8 d0 d1 d2 y0 y1 c0 c1 c2 c3 c6 c8 z0 z1 g g2 g3 g4 g5 g6 g7 g8 g9 g10 g12 g13 g15 g16 g17 g19 g20 g21 g22 g23 g24 g25 g26 g27 g28 g33 g34 g35 g36 g37 g38 g39 g41 g42 g44 g45 o)) (hS : va_S (fun q : Nat => s.heap.size ≤ q) s.heap H locs) {ls : Array Slot} (hl : lv_has ls 7 [(4, .int 0), (3, .ref o), (2, .ref g), (1, .ref x), (0, .ref b)])
    (kend : ∀ (H1 : Heap) (locs1 : List Loc) (ls1 : Array Slot), va_S (fun q : Nat => s.heap.size ≤ q) s.heap H1 locs1 → lv_has ls1 7 [(4, .int 0), (3, .ref o), (2, .ref g), (1, .ref x), (0, .ref b)] → W p l e room_1 s m #[Value.ref b] below meth c H1 locs1 90 1144 Q (F0 m 1651 ls1 [])) : W p l e room_1 s m #[Value.ref b] below meth c H locs 84 1104 Q (F0 m 1147 ls []) := by
  obtain ⟨hx, hb, hml, hown, hts, hE, hX, hbl, hXw, hl9⟩ := C
  have hA : ∀ q : Nat, s.heap.size ≤ q → (fun q : Nat => s.heap.size ≤ q) q := fun _ h => h
  have hbA : ¬ (fun q : Nat => s.heap.size ≤ q) b := Nat.not_le.mpr hbl
  have hP : va_P D vwCl [(x, .inr (7, [.ref x0, .ref x1, .ref x2, .ref x3, .ref x4, .ref x5])), (x0, .inr (0, [.ref b0, .ref b1, .ref b2, .ref b3, .ref b4, .ref b5, .ref b6, .ref b7, .ref b8, .ref b9, .ref b10, .ref b11, .int 0, .int 0, .int 0])), (g, .inr (8, [.int 0, .int 0, .ref g2, .ref g3, .ref g4, .ref g5, .ref g6, .ref g7, .ref g8, .ref g9, .ref g10, .int 0, .ref g12, .ref g13, .int 0, .ref g15, .ref g16, .ref g17, .int 0, .ref g19, .ref g20, .ref g21, .ref g22, .ref g23, .ref g24, .ref g25, .ref g26, .ref g27, .ref g28, .int 0, .int 0, .int 0, .int 0, .ref g33, .ref g34, .ref g35, .ref g36, .ref g37, .ref g38, .ref g39, .int 0, .ref g41, .ref g42, .int 0, .ref g44, .ref g45]))] H := k_sub hP [0, 10, 47] rfl
  have hD : va_D (fun q : Nat => s.heap.size ≤ q) [(x, .inr (7, [.ref x0, .ref x1, .ref x2, .ref x3, .ref x4, .ref x5])), (x0, .inr (0, [.ref b0, .ref b1, .ref b2, .ref b3, .ref b4, .ref b5, .ref b6, .ref b7, .ref b8, .ref b9, .ref b10, .ref b11, .int 0, .int 0, .int 0])), (g, .inr (8, [.int 0, .int 0, .ref g2, .ref g3, .ref g4, .ref g5, .ref g6, .ref g7, .ref g8, .ref g9, .ref g10, .int 0, .ref g12, .ref g13, .int 0, .ref g15, .ref g16, .ref g17, .int 0, .ref g19, .ref g20, .ref g21, .ref g22, .ref g23, .ref g24, .ref g25, .ref g26, .ref g27, .ref g28, .int 0, .int 0, .int 0, .int 0, .ref g33, .ref g34, .ref g35, .ref g36, .ref g37, .ref g38, .ref g39, .int 0, .ref g41, .ref g42, .int 0, .ref g44, .ref g45]))] := hD.sub [0, 10, 47] (by decide) rfl
  refine lv_aload_n hx hb dL_law_1147 rfl (lv_at hl 3 rfl) ?_
  refine lv_aload_n hx hb dL_law_1148 rfl (lv_at hl 4 rfl) ?_
  refine lv_iload hx hb dL_law_1149 (lv_at hl 0 rfl) ?_
  refine lv_iconst (v := 1) hx hb dL_law_1151 (by decide) ?_
  refine lv_iadd hx hb dL_law_1152 ?_
  refine lv_topi (fun v1 ev1 => ?_)
  obtain rfl : v1 = 1 := by rw [ev1]; decide
  refine va_sld hx hb hX hbl hbA hS (by unfold vp_in; decide) dL_law_1153 ?_
  refine W.eq (g2 := F0 m 1154 ls [.int (xs 1), .ref x]) rfl ?_
  refine lv_aload_n hx hb dL_law_1154 rfl (lv_at hl 4 rfl) ?_
  refine lv_iload hx hb dL_law_1155 (lv_at hl 0 rfl) ?_
  refine lv_iconst (v := 2) hx hb dL_law_1157 (by decide) ?_
  refine lv_iadd hx hb dL_law_1158 ?_
  refine lv_topi (fun v2 ev2 => ?_)
  obtain rfl : v2 = 2 := by rw [ev2]; decide
  refine va_sld hx hb hX hbl hbA hS (by unfold vp_in; decide) dL_law_1159 ?_
  refine W.eq (g2 := F0 m 1160 ls [.int (xs 2), .int (xs 1), .ref x]) rfl ?_
  refine lv_aload_n hx hb dL_law_1160 rfl (lv_at hl 4 rfl) ?_
  refine lv_iload hx hb dL_law_1161 (lv_at hl 0 rfl) ?_
  refine lv_iconst (v := 3) hx hb dL_law_1163 (by decide) ?_
  refine lv_iadd hx hb dL_law_1164 ?_
  refine lv_topi (fun v3 ev3 => ?_)
  obtain rfl : v3 = 3 := by rw [ev3]; decide
  refine va_sld hx hb hX hbl hbA hS (by unfold vp_in; decide) dL_law_1165 ?_
  refine W.eq (g2 := F0 m 1166 ls [.int (xs 3), .int (xs 2), .int (xs 1), .ref x]) rfl ?_
  refine k_i (va_runV (As := [.int (xs 1), .int (xs 2), .int (xs 3)]) (rest := []) ⟨hx, hb, hml, hown, hts⟩ (f_X7_broke l D cI cJ H.size x x0 x1 x2 x3 x4 x5 b0 b1 b2 b3 b4 b5 b6 b7 b8 b9 b10 b11 (xs 1) (xs 2) (xs 3)) (cwV 3 hts hL_law_X7_broke rfl rfl rfl (by decide +kernel) ⟨Nat.le_of_ble_eq_true rfl, Nat.le_of_ble_eq_true rfl⟩) (k_preV hE hP hD [0, 1] (by decide) rfl 0 rfl rfl) rfl rfl hl.1 rfl (lv_room (Nat.le_of_ble_eq_true rfl)) dL_law_1166 ⟨Nat.le_of_ble_eq_true rfl, Nat.le_of_ble_eq_true rfl⟩) hP hD hS hA [0, 1] [2] rfl (wr := [(g, .inr (8, [.int 0, .int 0, .ref g2, .ref g3, .ref g4, .ref g5, .ref g6, .ref g7, .ref g8, .ref g9, .ref g10, .int 0, .ref g12, .ref g13, .int 0, .ref g15, .ref g16, .ref g17, .int 0, .ref g19, .ref g20, .ref g21, .ref g22, .ref g23, .ref g24, .ref g25, .ref g26, .ref g27, .ref g28, .int 0, .int 0, .int 0, .int 0, .ref g33, .ref g34, .ref g35, .ref g36, .ref g37, .ref g38, .ref g39, .int 0, .ref g41, .ref g42, .int 0, .ref g44, .ref g45]))]) rfl (by decide) (by decide) (fun r4 u H locs hw5 hP hD hS => ?_)
  obtain ⟨rfl, rfl⟩ := hw5
  have hP : va_P D vwCl [(g, .inr (8, [.int 0, .int 0, .ref g2, .ref g3, .ref g4, .ref g5, .ref g6, .ref g7, .ref g8, .ref g9, .ref g10, .int 0, .ref g12, .ref g13, .int 0, .ref g15, .ref g16, .ref g17, .int 0, .ref g19, .ref g20, .ref g21, .ref g22, .ref g23, .ref g24, .ref g25, .ref g26, .ref g27, .ref g28, .int 0, .int 0, .int 0, .int 0, .ref g33, .ref g34, .ref g35, .ref g36, .ref g37, .ref g38, .ref g39, .int 0, .ref g41, .ref g42, .int 0, .ref g44, .ref g45]))] H := hP
  have hD : va_D (fun q : Nat => s.heap.size ≤ q) [(g, .inr (8, [.int 0, .int 0, .ref g2, .ref g3, .ref g4, .ref g5, .ref g6, .ref g7, .ref g8, .ref g9, .ref g10, .int 0, .ref g12, .ref g13, .int 0, .ref g15, .ref g16, .ref g17, .int 0, .ref g19, .ref g20, .ref g21, .ref g22, .ref g23, .ref g24, .ref g25, .ref g26, .ref g27, .ref g28, .int 0, .int 0, .int 0, .int 0, .ref g33, .ref g34, .ref g35, .ref g36, .ref g37, .ref g38, .ref g39, .int 0, .ref g41, .ref g42, .int 0, .ref g44, .ref g45]))] := hD
  refine lv_aload_n hx hb dL_law_1169 rfl (lv_at hl 2 rfl) ?_
  refine lv_aload_n hx hb dL_law_1170 rfl (lv_at hl 4 rfl) ?_
  refine lv_iload hx hb dL_law_1171 (lv_at hl 0 rfl) ?_
  refine lv_iconst (v := 1) hx hb dL_law_1173 (by decide) ?_
  refine lv_iadd hx hb dL_law_1174 ?_
  refine lv_topi (fun v6 ev6 => ?_)
  obtain rfl : v6 = 1 := by rw [ev6]; decide
  refine va_sld hx hb hX hbl hbA hS (by unfold vp_in; decide) dL_law_1175 ?_
  refine W.eq (g2 := F0 m 1176 ls [.int (xs 1), .ref g, .int (-1)]) rfl ?_
  refine lv_aload_n hx hb dL_law_1176 rfl (lv_at hl 4 rfl) ?_
  refine lv_iload hx hb dL_law_1177 (lv_at hl 0 rfl) ?_
  refine lv_iconst (v := 2) hx hb dL_law_1179 (by decide) ?_
  refine lv_iadd hx hb dL_law_1180 ?_
  refine lv_topi (fun v7 ev7 => ?_)
  obtain rfl : v7 = 2 := by rw [ev7]; decide
  refine va_sld hx hb hX hbl hbA hS (by unfold vp_in; decide) dL_law_1181 ?_
  refine W.eq (g2 := F0 m 1182 ls [.int (xs 2), .int (xs 1), .ref g, .int (-1)]) rfl ?_
  refine lv_aload_n hx hb dL_law_1182 rfl (lv_at hl 4 rfl) ?_
  refine lv_iload hx hb dL_law_1183 (lv_at hl 0 rfl) ?_
  refine lv_iconst (v := 3) hx hb dL_law_1185 (by decide) ?_
  refine lv_iadd hx hb dL_law_1186 ?_
  refine lv_topi (fun v8 ev8 => ?_)
  obtain rfl : v8 = 3 := by rw [ev8]; decide
  refine va_sld hx hb hX hbl hbA hS (by unfold vp_in; decide) dL_law_1187 ?_
  refine W.eq (g2 := F0 m 1188 ls [.int (xs 3), .int (xs 2), .int (xs 1), .ref g, .int (-1)]) rfl ?_
  refine k_i (va_runV (As := [.int (xs 1), .int (xs 2), .int (xs 3)]) (rest := [.int (-1)]) ⟨hx, hb, hml, hown, hts⟩ (f_X8_broke l D cI cJ H.size g g2 g3 g4 g5 g6 g7 g8 g9 g10 g12 g13 g15 g16 g17 g19 g20 g21 g22 g23 g24 g25 g26 g27 g28 g33 g34 g35 g36 g37 g38 g39 g41 g42 g44 g45 (xs 1) (xs 2) (xs 3)) (cwV 3 hts hL_law_X8_broke rfl rfl rfl (by decide +kernel) ⟨Nat.le_of_ble_eq_true rfl, Nat.le_of_ble_eq_true rfl⟩) (k_preV hE hP hD [0] (by decide) rfl 0 rfl rfl) rfl rfl hl.1 rfl (lv_room (Nat.le_of_ble_eq_true rfl)) dL_law_1188 ⟨Nat.le_of_ble_eq_true rfl, Nat.le_of_ble_eq_true rfl⟩) hP hD hS hA [0] [] rfl (wr := []) rfl (by decide) (by decide) (fun r9 u H locs hw10 hP hD hS => ?_)
  obtain ⟨rfl, rfl⟩ := hw10
  have hP : va_P D vwCl [] H := hP
  have hD : va_D (fun q : Nat => s.heap.size ≤ q) [] := hD
  refine lv_icmp_eq (tgt := 1651) hx hb dL_law_1191 (by decide) (fun _ => ?_) (fun c11 => absurd (by decide) c11)
  refine W.widen (k := 90) (n := 1144) (Nat.le_of_ble_eq_true rfl) (Nat.le_of_ble_eq_true rfl) ?_
  exact kend _ _ _ hS (lv_sub hl [0, 1, 2, 3, 4] rfl)
set_option maxHeartbeats 4000000 in
set_option maxRecDepth 100000 in
theorem arm_21 {p : Program} {l : Launch} {e : Env} {s : State} {m : MethodId} {below : List Frame} {meth : Method} {c : Code} {b : Nat} {xs : Nat → Int32} {D : va_G} {cI cJ : ClassId} {Q : State → Prop} (C : LC p l s m c b xs D cI cJ) {x x0 x1 x2 x3 x4 x5 s1 s2 s5 s6 s7 s8 s9 s10 s11 b0 b1 b2 b3 b4 b5 b6 b7 b8 b9 b10 b11 w0 w1 w2 w3 w4 w8 d0 d1 d2 y0 y1 c0 c1 c2 c3 c6 c8 z0 z1 g g2 g3 g4 g5 g6 g7 g8 g9 g10 g12 g13 g15 g16 g17 g19 g20 g21 g22 g23 g24 g25 g26 g27 g28 g33 g34 g35 g36 g37 g38 g39 g41 g42 g44 g45 o : Nat} {H : Heap} {locs : List Loc} (hP : va_P D vwCl (LWS cI cJ x x0 x1 x2 x3 x4 x5 s1 s2 s5 s6 s7 s8 s9 s10 s11 b0 b1 b2 b3 b4 b5 b6 b7 b8 b9 b10 b11 w0 w1 w2 w3 w4 w8 d0 d1 d2 y0 y1 c0 c1 c2 c3 c6 c8 z0 z1 g g2 g3 g4 g5 g6 g7 g8 g9 g10 g12 g13 g15 g16 g17 g19 g20 g21 g22 g23 g24 g25 g26 g27 g28 g33 g34 g35 g36 g37 g38 g39 g41 g42 g44 g45 o) H) (hD : va_D (fun q : Nat => s.heap.size ≤ q) (LWS cI cJ x x0 x1 x2 x3 x4 x5 s1 s2 s5 s6 s7 s8 s9 s10 s11 b0 b1 b2 b3 b4 b5 b6 b7 b8 b9 b10 b11 w0 w1 w2 w3 w4 w8 d0 d1 d2 y0 y1 c0 c1 c2 c3 c6 c8 z0 z1 g g2 g3 g4 g5 g6 g7 g8 g9 g10 g12 g13 g15 g16 g17 g19 g20 g21 g22 g23 g24 g25 g26 g27 g28 g33 g34 g35 g36 g37 g38 g39 g41 g42 g44 g45 o)) (hS : va_S (fun q : Nat => s.heap.size ≤ q) s.heap H locs) {ls : Array Slot} (hl : lv_has ls 7 [(4, .int 0), (3, .ref o), (2, .ref g), (1, .ref x), (0, .ref b)])
    (kend : ∀ (H1 : Heap) (locs1 : List Loc) (ls1 : Array Slot), va_S (fun q : Nat => s.heap.size ≤ q) s.heap H1 locs1 → lv_has ls1 7 [(4, .int 0), (3, .ref o), (2, .ref g), (1, .ref x), (0, .ref b)] → W p l e room_1 s m #[Value.ref b] below meth c H1 locs1 90 1144 Q (F0 m 1651 ls1 [])) : W p l e room_1 s m #[Value.ref b] below meth c H locs 84 1104 Q (F0 m 1196 ls []) := by
  obtain ⟨hx, hb, hml, hown, hts, hE, hX, hbl, hXw, hl9⟩ := C
  have hA : ∀ q : Nat, s.heap.size ≤ q → (fun q : Nat => s.heap.size ≤ q) q := fun _ h => h
  have hbA : ¬ (fun q : Nat => s.heap.size ≤ q) b := Nat.not_le.mpr hbl
  have hP : va_P D vwCl [(x, .inr (7, [.ref x0, .ref x1, .ref x2, .ref x3, .ref x4, .ref x5])), (x0, .inr (0, [.ref b0, .ref b1, .ref b2, .ref b3, .ref b4, .ref b5, .ref b6, .ref b7, .ref b8, .ref b9, .ref b10, .ref b11, .int 0, .int 0, .int 0])), (g, .inr (8, [.int 0, .int 0, .ref g2, .ref g3, .ref g4, .ref g5, .ref g6, .ref g7, .ref g8, .ref g9, .ref g10, .int 0, .ref g12, .ref g13, .int 0, .ref g15, .ref g16, .ref g17, .int 0, .ref g19, .ref g20, .ref g21, .ref g22, .ref g23, .ref g24, .ref g25, .ref g26, .ref g27, .ref g28, .int 0, .int 0, .int 0, .int 0, .ref g33, .ref g34, .ref g35, .ref g36, .ref g37, .ref g38, .ref g39, .int 0, .ref g41, .ref g42, .int 0, .ref g44, .ref g45]))] H := k_sub hP [0, 10, 47] rfl
  have hD : va_D (fun q : Nat => s.heap.size ≤ q) [(x, .inr (7, [.ref x0, .ref x1, .ref x2, .ref x3, .ref x4, .ref x5])), (x0, .inr (0, [.ref b0, .ref b1, .ref b2, .ref b3, .ref b4, .ref b5, .ref b6, .ref b7, .ref b8, .ref b9, .ref b10, .ref b11, .int 0, .int 0, .int 0])), (g, .inr (8, [.int 0, .int 0, .ref g2, .ref g3, .ref g4, .ref g5, .ref g6, .ref g7, .ref g8, .ref g9, .ref g10, .int 0, .ref g12, .ref g13, .int 0, .ref g15, .ref g16, .ref g17, .int 0, .ref g19, .ref g20, .ref g21, .ref g22, .ref g23, .ref g24, .ref g25, .ref g26, .ref g27, .ref g28, .int 0, .int 0, .int 0, .int 0, .ref g33, .ref g34, .ref g35, .ref g36, .ref g37, .ref g38, .ref g39, .int 0, .ref g41, .ref g42, .int 0, .ref g44, .ref g45]))] := hD.sub [0, 10, 47] (by decide) rfl
  refine lv_aload_n hx hb dL_law_1196 rfl (lv_at hl 3 rfl) ?_
  refine lv_aload_n hx hb dL_law_1197 rfl (lv_at hl 4 rfl) ?_
  refine lv_iload hx hb dL_law_1198 (lv_at hl 0 rfl) ?_
  refine lv_iconst (v := 1) hx hb dL_law_1200 (by decide) ?_
  refine lv_iadd hx hb dL_law_1201 ?_
  refine lv_topi (fun v1 ev1 => ?_)
  obtain rfl : v1 = 1 := by rw [ev1]; decide
  refine va_sld hx hb hX hbl hbA hS (by unfold vp_in; decide) dL_law_1202 ?_
  refine W.eq (g2 := F0 m 1203 ls [.int (xs 1), .ref x]) rfl ?_
  refine lv_aload_n hx hb dL_law_1203 rfl (lv_at hl 4 rfl) ?_
  refine lv_iload hx hb dL_law_1204 (lv_at hl 0 rfl) ?_
  refine lv_iconst (v := 2) hx hb dL_law_1206 (by decide) ?_
  refine lv_iadd hx hb dL_law_1207 ?_
  refine lv_topi (fun v2 ev2 => ?_)
  obtain rfl : v2 = 2 := by rw [ev2]; decide
  refine va_sld hx hb hX hbl hbA hS (by unfold vp_in; decide) dL_law_1208 ?_
  refine W.eq (g2 := F0 m 1209 ls [.int (xs 2), .int (xs 1), .ref x]) rfl ?_
  refine k_i (va_runV (As := [.int (xs 1), .int (xs 2)]) (rest := []) ⟨hx, hb, hml, hown, hts⟩ (f_X7_without l D cI cJ H.size x x0 x1 x2 x3 x4 x5 b0 b1 b2 b3 b4 b5 b6 b7 b8 b9 b10 b11 (xs 1) (xs 2)) (cwV 2 hts hL_law_X7_without rfl rfl rfl (by decide +kernel) ⟨Nat.le_of_ble_eq_true rfl, Nat.le_of_ble_eq_true rfl⟩) (k_preV hE hP hD [0, 1] (by decide) rfl 0 rfl rfl) rfl rfl hl.1 rfl (lv_room (Nat.le_of_ble_eq_true rfl)) dL_law_1209 ⟨Nat.le_of_ble_eq_true rfl, Nat.le_of_ble_eq_true rfl⟩) hP hD hS hA [0, 1] [2] rfl (wr := [(g, .inr (8, [.int 0, .int 0, .ref g2, .ref g3, .ref g4, .ref g5, .ref g6, .ref g7, .ref g8, .ref g9, .ref g10, .int 0, .ref g12, .ref g13, .int 0, .ref g15, .ref g16, .ref g17, .int 0, .ref g19, .ref g20, .ref g21, .ref g22, .ref g23, .ref g24, .ref g25, .ref g26, .ref g27, .ref g28, .int 0, .int 0, .int 0, .int 0, .ref g33, .ref g34, .ref g35, .ref g36, .ref g37, .ref g38, .ref g39, .int 0, .ref g41, .ref g42, .int 0, .ref g44, .ref g45]))]) rfl (by decide) (by decide) (fun r3 u H locs hw4 hP hD hS => ?_)
  obtain ⟨rfl, rfl⟩ := hw4
  have hP : va_P D vwCl [(g, .inr (8, [.int 0, .int 0, .ref g2, .ref g3, .ref g4, .ref g5, .ref g6, .ref g7, .ref g8, .ref g9, .ref g10, .int 0, .ref g12, .ref g13, .int 0, .ref g15, .ref g16, .ref g17, .int 0, .ref g19, .ref g20, .ref g21, .ref g22, .ref g23, .ref g24, .ref g25, .ref g26, .ref g27, .ref g28, .int 0, .int 0, .int 0, .int 0, .ref g33, .ref g34, .ref g35, .ref g36, .ref g37, .ref g38, .ref g39, .int 0, .ref g41, .ref g42, .int 0, .ref g44, .ref g45]))] H := hP
  have hD : va_D (fun q : Nat => s.heap.size ≤ q) [(g, .inr (8, [.int 0, .int 0, .ref g2, .ref g3, .ref g4, .ref g5, .ref g6, .ref g7, .ref g8, .ref g9, .ref g10, .int 0, .ref g12, .ref g13, .int 0, .ref g15, .ref g16, .ref g17, .int 0, .ref g19, .ref g20, .ref g21, .ref g22, .ref g23, .ref g24, .ref g25, .ref g26, .ref g27, .ref g28, .int 0, .int 0, .int 0, .int 0, .ref g33, .ref g34, .ref g35, .ref g36, .ref g37, .ref g38, .ref g39, .int 0, .ref g41, .ref g42, .int 0, .ref g44, .ref g45]))] := hD
  refine lv_aload_n hx hb dL_law_1212 rfl (lv_at hl 2 rfl) ?_
  refine lv_aload_n hx hb dL_law_1213 rfl (lv_at hl 4 rfl) ?_
  refine lv_iload hx hb dL_law_1214 (lv_at hl 0 rfl) ?_
  refine lv_iconst (v := 1) hx hb dL_law_1216 (by decide) ?_
  refine lv_iadd hx hb dL_law_1217 ?_
  refine lv_topi (fun v5 ev5 => ?_)
  obtain rfl : v5 = 1 := by rw [ev5]; decide
  refine va_sld hx hb hX hbl hbA hS (by unfold vp_in; decide) dL_law_1218 ?_
  refine W.eq (g2 := F0 m 1219 ls [.int (xs 1), .ref g, .int (-1)]) rfl ?_
  refine lv_aload_n hx hb dL_law_1219 rfl (lv_at hl 4 rfl) ?_
  refine lv_iload hx hb dL_law_1220 (lv_at hl 0 rfl) ?_
  refine lv_iconst (v := 2) hx hb dL_law_1222 (by decide) ?_
  refine lv_iadd hx hb dL_law_1223 ?_
  refine lv_topi (fun v6 ev6 => ?_)
  obtain rfl : v6 = 2 := by rw [ev6]; decide
  refine va_sld hx hb hX hbl hbA hS (by unfold vp_in; decide) dL_law_1224 ?_
  refine W.eq (g2 := F0 m 1225 ls [.int (xs 2), .int (xs 1), .ref g, .int (-1)]) rfl ?_
  refine k_i (va_runV (As := [.int (xs 1), .int (xs 2)]) (rest := [.int (-1)]) ⟨hx, hb, hml, hown, hts⟩ (f_X8_without l D cI cJ H.size g g2 g3 g4 g5 g6 g7 g8 g9 g10 g12 g13 g15 g16 g17 g19 g20 g21 g22 g23 g24 g25 g26 g27 g28 g33 g34 g35 g36 g37 g38 g39 g41 g42 g44 g45 (xs 1) (xs 2)) (cwV 2 hts hL_law_X8_without rfl rfl rfl (by decide +kernel) ⟨Nat.le_of_ble_eq_true rfl, Nat.le_of_ble_eq_true rfl⟩) (k_preV hE hP hD [0] (by decide) rfl 0 rfl rfl) rfl rfl hl.1 rfl (lv_room (Nat.le_of_ble_eq_true rfl)) dL_law_1225 ⟨Nat.le_of_ble_eq_true rfl, Nat.le_of_ble_eq_true rfl⟩) hP hD hS hA [0] [] rfl (wr := []) rfl (by decide) (by decide) (fun r7 u H locs hw8 hP hD hS => ?_)
  obtain ⟨rfl, rfl⟩ := hw8
  have hP : va_P D vwCl [] H := hP
  have hD : va_D (fun q : Nat => s.heap.size ≤ q) [] := hD
  refine lv_icmp_eq (tgt := 1651) hx hb dL_law_1228 (by decide) (fun _ => ?_) (fun c9 => absurd (by decide) c9)
  refine W.widen (k := 90) (n := 1144) (Nat.le_of_ble_eq_true rfl) (Nat.le_of_ble_eq_true rfl) ?_
  exact kend _ _ _ hS (lv_sub hl [0, 1, 2, 3, 4] rfl)
set_option maxHeartbeats 4000000 in
set_option maxRecDepth 100000 in
theorem arm_22 {p : Program} {l : Launch} {e : Env} {s : State} {m : MethodId} {below : List Frame} {meth : Method} {c : Code} {b : Nat} {xs : Nat → Int32} {D : va_G} {cI cJ : ClassId} {Q : State → Prop} (C : LC p l s m c b xs D cI cJ) {x x0 x1 x2 x3 x4 x5 s1 s2 s5 s6 s7 s8 s9 s10 s11 b0 b1 b2 b3 b4 b5 b6 b7 b8 b9 b10 b11 w0 w1 w2 w3 w4 w8 d0 d1 d2 y0 y1 c0 c1 c2 c3 c6 c8 z0 z1 g g2 g3 g4 g5 g6 g7 g8 g9 g10 g12 g13 g15 g16 g17 g19 g20 g21 g22 g23 g24 g25 g26 g27 g28 g33 g34 g35 g36 g37 g38 g39 g41 g42 g44 g45 o : Nat} {H : Heap} {locs : List Loc} (hP : va_P D vwCl (LWS cI cJ x x0 x1 x2 x3 x4 x5 s1 s2 s5 s6 s7 s8 s9 s10 s11 b0 b1 b2 b3 b4 b5 b6 b7 b8 b9 b10 b11 w0 w1 w2 w3 w4 w8 d0 d1 d2 y0 y1 c0 c1 c2 c3 c6 c8 z0 z1 g g2 g3 g4 g5 g6 g7 g8 g9 g10 g12 g13 g15 g16 g17 g19 g20 g21 g22 g23 g24 g25 g26 g27 g28 g33 g34 g35 g36 g37 g38 g39 g41 g42 g44 g45 o) H) (hD : va_D (fun q : Nat => s.heap.size ≤ q) (LWS cI cJ x x0 x1 x2 x3 x4 x5 s1 s2 s5 s6 s7 s8 s9 s10 s11 b0 b1 b2 b3 b4 b5 b6 b7 b8 b9 b10 b11 w0 w1 w2 w3 w4 w8 d0 d1 d2 y0 y1 c0 c1 c2 c3 c6 c8 z0 z1 g g2 g3 g4 g5 g6 g7 g8 g9 g10 g12 g13 g15 g16 g17 g19 g20 g21 g22 g23 g24 g25 g26 g27 g28 g33 g34 g35 g36 g37 g38 g39 g41 g42 g44 g45 o)) (hS : va_S (fun q : Nat => s.heap.size ≤ q) s.heap H locs) {ls : Array Slot} (hl : lv_has ls 7 [(4, .int 0), (3, .ref o), (2, .ref g), (1, .ref x), (0, .ref b)])
    (kend : ∀ (H1 : Heap) (locs1 : List Loc) (ls1 : Array Slot), va_S (fun q : Nat => s.heap.size ≤ q) s.heap H1 locs1 → lv_has ls1 7 [(4, .int 0), (3, .ref o), (2, .ref g), (1, .ref x), (0, .ref b)] → W p l e room_1 s m #[Value.ref b] below meth c H1 locs1 90 1144 Q (F0 m 1651 ls1 [])) : W p l e room_1 s m #[Value.ref b] below meth c H locs 84 1104 Q (F0 m 1233 ls []) := by
  obtain ⟨hx, hb, hml, hown, hts, hE, hX, hbl, hXw, hl9⟩ := C
  have hA : ∀ q : Nat, s.heap.size ≤ q → (fun q : Nat => s.heap.size ≤ q) q := fun _ h => h
  have hbA : ¬ (fun q : Nat => s.heap.size ≤ q) b := Nat.not_le.mpr hbl
  have hP : va_P D vwCl [(x, .inr (7, [.ref x0, .ref x1, .ref x2, .ref x3, .ref x4, .ref x5])), (x0, .inr (0, [.ref b0, .ref b1, .ref b2, .ref b3, .ref b4, .ref b5, .ref b6, .ref b7, .ref b8, .ref b9, .ref b10, .ref b11, .int 0, .int 0, .int 0])), (g, .inr (8, [.int 0, .int 0, .ref g2, .ref g3, .ref g4, .ref g5, .ref g6, .ref g7, .ref g8, .ref g9, .ref g10, .int 0, .ref g12, .ref g13, .int 0, .ref g15, .ref g16, .ref g17, .int 0, .ref g19, .ref g20, .ref g21, .ref g22, .ref g23, .ref g24, .ref g25, .ref g26, .ref g27, .ref g28, .int 0, .int 0, .int 0, .int 0, .ref g33, .ref g34, .ref g35, .ref g36, .ref g37, .ref g38, .ref g39, .int 0, .ref g41, .ref g42, .int 0, .ref g44, .ref g45]))] H := k_sub hP [0, 10, 47] rfl
  have hD : va_D (fun q : Nat => s.heap.size ≤ q) [(x, .inr (7, [.ref x0, .ref x1, .ref x2, .ref x3, .ref x4, .ref x5])), (x0, .inr (0, [.ref b0, .ref b1, .ref b2, .ref b3, .ref b4, .ref b5, .ref b6, .ref b7, .ref b8, .ref b9, .ref b10, .ref b11, .int 0, .int 0, .int 0])), (g, .inr (8, [.int 0, .int 0, .ref g2, .ref g3, .ref g4, .ref g5, .ref g6, .ref g7, .ref g8, .ref g9, .ref g10, .int 0, .ref g12, .ref g13, .int 0, .ref g15, .ref g16, .ref g17, .int 0, .ref g19, .ref g20, .ref g21, .ref g22, .ref g23, .ref g24, .ref g25, .ref g26, .ref g27, .ref g28, .int 0, .int 0, .int 0, .int 0, .ref g33, .ref g34, .ref g35, .ref g36, .ref g37, .ref g38, .ref g39, .int 0, .ref g41, .ref g42, .int 0, .ref g44, .ref g45]))] := hD.sub [0, 10, 47] (by decide) rfl
  refine lv_aload_n hx hb dL_law_1233 rfl (lv_at hl 3 rfl) ?_
  refine lv_aload_n hx hb dL_law_1234 rfl (lv_at hl 4 rfl) ?_
  refine lv_iload hx hb dL_law_1235 (lv_at hl 0 rfl) ?_
  refine lv_iconst (v := 1) hx hb dL_law_1237 (by decide) ?_
  refine lv_iadd hx hb dL_law_1238 ?_
  refine lv_topi (fun v1 ev1 => ?_)
  obtain rfl : v1 = 1 := by rw [ev1]; decide
  refine va_sld hx hb hX hbl hbA hS (by unfold vp_in; decide) dL_law_1239 ?_
  refine W.eq (g2 := F0 m 1240 ls [.int (xs 1), .ref x]) rfl ?_
  refine lv_aload_n hx hb dL_law_1240 rfl (lv_at hl 4 rfl) ?_
  refine lv_iload hx hb dL_law_1241 (lv_at hl 0 rfl) ?_
  refine lv_iconst (v := 2) hx hb dL_law_1243 (by decide) ?_
  refine lv_iadd hx hb dL_law_1244 ?_
  refine lv_topi (fun v2 ev2 => ?_)
  obtain rfl : v2 = 2 := by rw [ev2]; decide
  refine va_sld hx hb hX hbl hbA hS (by unfold vp_in; decide) dL_law_1245 ?_
  refine W.eq (g2 := F0 m 1246 ls [.int (xs 2), .int (xs 1), .ref x]) rfl ?_
  refine k_i (va_runV (As := [.int (xs 1), .int (xs 2)]) (rest := []) ⟨hx, hb, hml, hown, hts⟩ (f_X7_other l D cI cJ H.size x x0 x1 x2 x3 x4 x5 b0 b1 b2 b3 b4 b5 b6 b7 b8 b9 b10 b11 (xs 1) (xs 2)) (cwV 2 hts hL_law_X7_other rfl rfl rfl (by decide +kernel) ⟨Nat.le_of_ble_eq_true rfl, Nat.le_of_ble_eq_true rfl⟩) (k_preV hE hP hD [0, 1] (by decide) rfl 0 rfl rfl) rfl rfl hl.1 rfl (lv_room (Nat.le_of_ble_eq_true rfl)) dL_law_1246 ⟨Nat.le_of_ble_eq_true rfl, Nat.le_of_ble_eq_true rfl⟩) hP hD hS hA [0, 1] [2] rfl (wr := [(g, .inr (8, [.int 0, .int 0, .ref g2, .ref g3, .ref g4, .ref g5, .ref g6, .ref g7, .ref g8, .ref g9, .ref g10, .int 0, .ref g12, .ref g13, .int 0, .ref g15, .ref g16, .ref g17, .int 0, .ref g19, .ref g20, .ref g21, .ref g22, .ref g23, .ref g24, .ref g25, .ref g26, .ref g27, .ref g28, .int 0, .int 0, .int 0, .int 0, .ref g33, .ref g34, .ref g35, .ref g36, .ref g37, .ref g38, .ref g39, .int 0, .ref g41, .ref g42, .int 0, .ref g44, .ref g45]))]) rfl (by decide) (by decide) (fun r3 u H locs hw4 hP hD hS => ?_)
  obtain ⟨rfl, rfl⟩ := hw4
  have hP : va_P D vwCl [(g, .inr (8, [.int 0, .int 0, .ref g2, .ref g3, .ref g4, .ref g5, .ref g6, .ref g7, .ref g8, .ref g9, .ref g10, .int 0, .ref g12, .ref g13, .int 0, .ref g15, .ref g16, .ref g17, .int 0, .ref g19, .ref g20, .ref g21, .ref g22, .ref g23, .ref g24, .ref g25, .ref g26, .ref g27, .ref g28, .int 0, .int 0, .int 0, .int 0, .ref g33, .ref g34, .ref g35, .ref g36, .ref g37, .ref g38, .ref g39, .int 0, .ref g41, .ref g42, .int 0, .ref g44, .ref g45]))] H := hP
  have hD : va_D (fun q : Nat => s.heap.size ≤ q) [(g, .inr (8, [.int 0, .int 0, .ref g2, .ref g3, .ref g4, .ref g5, .ref g6, .ref g7, .ref g8, .ref g9, .ref g10, .int 0, .ref g12, .ref g13, .int 0, .ref g15, .ref g16, .ref g17, .int 0, .ref g19, .ref g20, .ref g21, .ref g22, .ref g23, .ref g24, .ref g25, .ref g26, .ref g27, .ref g28, .int 0, .int 0, .int 0, .int 0, .ref g33, .ref g34, .ref g35, .ref g36, .ref g37, .ref g38, .ref g39, .int 0, .ref g41, .ref g42, .int 0, .ref g44, .ref g45]))] := hD
  refine lv_aload_n hx hb dL_law_1249 rfl (lv_at hl 2 rfl) ?_
  refine lv_aload_n hx hb dL_law_1250 rfl (lv_at hl 4 rfl) ?_
  refine lv_iload hx hb dL_law_1251 (lv_at hl 0 rfl) ?_
  refine lv_iconst (v := 1) hx hb dL_law_1253 (by decide) ?_
  refine lv_iadd hx hb dL_law_1254 ?_
  refine lv_topi (fun v5 ev5 => ?_)
  obtain rfl : v5 = 1 := by rw [ev5]; decide
  refine va_sld hx hb hX hbl hbA hS (by unfold vp_in; decide) dL_law_1255 ?_
  refine W.eq (g2 := F0 m 1256 ls [.int (xs 1), .ref g, .int (-1)]) rfl ?_
  refine lv_aload_n hx hb dL_law_1256 rfl (lv_at hl 4 rfl) ?_
  refine lv_iload hx hb dL_law_1257 (lv_at hl 0 rfl) ?_
  refine lv_iconst (v := 2) hx hb dL_law_1259 (by decide) ?_
  refine lv_iadd hx hb dL_law_1260 ?_
  refine lv_topi (fun v6 ev6 => ?_)
  obtain rfl : v6 = 2 := by rw [ev6]; decide
  refine va_sld hx hb hX hbl hbA hS (by unfold vp_in; decide) dL_law_1261 ?_
  refine W.eq (g2 := F0 m 1262 ls [.int (xs 2), .int (xs 1), .ref g, .int (-1)]) rfl ?_
  refine k_i (va_runV (As := [.int (xs 1), .int (xs 2)]) (rest := [.int (-1)]) ⟨hx, hb, hml, hown, hts⟩ (f_X8_other l D cI cJ H.size g g2 g3 g4 g5 g6 g7 g8 g9 g10 g12 g13 g15 g16 g17 g19 g20 g21 g22 g23 g24 g25 g26 g27 g28 g33 g34 g35 g36 g37 g38 g39 g41 g42 g44 g45 (xs 1) (xs 2)) (cwV 2 hts hL_law_X8_other rfl rfl rfl (by decide +kernel) ⟨Nat.le_of_ble_eq_true rfl, Nat.le_of_ble_eq_true rfl⟩) (k_preV hE hP hD [0] (by decide) rfl 0 rfl rfl) rfl rfl hl.1 rfl (lv_room (Nat.le_of_ble_eq_true rfl)) dL_law_1262 ⟨Nat.le_of_ble_eq_true rfl, Nat.le_of_ble_eq_true rfl⟩) hP hD hS hA [0] [] rfl (wr := []) rfl (by decide) (by decide) (fun r7 u H locs hw8 hP hD hS => ?_)
  obtain ⟨rfl, rfl⟩ := hw8
  have hP : va_P D vwCl [] H := hP
  have hD : va_D (fun q : Nat => s.heap.size ≤ q) [] := hD
  refine lv_icmp_eq (tgt := 1651) hx hb dL_law_1265 (by decide) (fun _ => ?_) (fun c9 => absurd (by decide) c9)
  refine W.widen (k := 90) (n := 1144) (Nat.le_of_ble_eq_true rfl) (Nat.le_of_ble_eq_true rfl) ?_
  exact kend _ _ _ hS (lv_sub hl [0, 1, 2, 3, 4] rfl)
set_option maxHeartbeats 4000000 in
set_option maxRecDepth 100000 in
theorem arm_23 {p : Program} {l : Launch} {e : Env} {s : State} {m : MethodId} {below : List Frame} {meth : Method} {c : Code} {b : Nat} {xs : Nat → Int32} {D : va_G} {cI cJ : ClassId} {Q : State → Prop} (C : LC p l s m c b xs D cI cJ) {x x0 x1 x2 x3 x4 x5 s1 s2 s5 s6 s7 s8 s9 s10 s11 b0 b1 b2 b3 b4 b5 b6 b7 b8 b9 b10 b11 w0 w1 w2 w3 w4 w8 d0 d1 d2 y0 y1 c0 c1 c2 c3 c6 c8 z0 z1 g g2 g3 g4 g5 g6 g7 g8 g9 g10 g12 g13 g15 g16 g17 g19 g20 g21 g22 g23 g24 g25 g26 g27 g28 g33 g34 g35 g36 g37 g38 g39 g41 g42 g44 g45 o : Nat} {H : Heap} {locs : List Loc} (hP : va_P D vwCl (LWS cI cJ x x0 x1 x2 x3 x4 x5 s1 s2 s5 s6 s7 s8 s9 s10 s11 b0 b1 b2 b3 b4 b5 b6 b7 b8 b9 b10 b11 w0 w1 w2 w3 w4 w8 d0 d1 d2 y0 y1 c0 c1 c2 c3 c6 c8 z0 z1 g g2 g3 g4 g5 g6 g7 g8 g9 g10 g12 g13 g15 g16 g17 g19 g20 g21 g22 g23 g24 g25 g26 g27 g28 g33 g34 g35 g36 g37 g38 g39 g41 g42 g44 g45 o) H) (hD : va_D (fun q : Nat => s.heap.size ≤ q) (LWS cI cJ x x0 x1 x2 x3 x4 x5 s1 s2 s5 s6 s7 s8 s9 s10 s11 b0 b1 b2 b3 b4 b5 b6 b7 b8 b9 b10 b11 w0 w1 w2 w3 w4 w8 d0 d1 d2 y0 y1 c0 c1 c2 c3 c6 c8 z0 z1 g g2 g3 g4 g5 g6 g7 g8 g9 g10 g12 g13 g15 g16 g17 g19 g20 g21 g22 g23 g24 g25 g26 g27 g28 g33 g34 g35 g36 g37 g38 g39 g41 g42 g44 g45 o)) (hS : va_S (fun q : Nat => s.heap.size ≤ q) s.heap H locs) {ls : Array Slot} (hl : lv_has ls 7 [(4, .int 0), (3, .ref o), (2, .ref g), (1, .ref x), (0, .ref b)])
    (kend : ∀ (H1 : Heap) (locs1 : List Loc) (ls1 : Array Slot), va_S (fun q : Nat => s.heap.size ≤ q) s.heap H1 locs1 → lv_has ls1 7 [(4, .int 0), (3, .ref o), (2, .ref g), (1, .ref x), (0, .ref b)] → W p l e room_1 s m #[Value.ref b] below meth c H1 locs1 90 1144 Q (F0 m 1651 ls1 [])) : W p l e room_1 s m #[Value.ref b] below meth c H locs 84 1104 Q (F0 m 1270 ls []) := by
  obtain ⟨hx, hb, hml, hown, hts, hE, hX, hbl, hXw, hl9⟩ := C
  have hA : ∀ q : Nat, s.heap.size ≤ q → (fun q : Nat => s.heap.size ≤ q) q := fun _ h => h
  have hbA : ¬ (fun q : Nat => s.heap.size ≤ q) b := Nat.not_le.mpr hbl
  have hP : va_P D vwCl [(x, .inr (7, [.ref x0, .ref x1, .ref x2, .ref x3, .ref x4, .ref x5])), (x0, .inr (0, [.ref b0, .ref b1, .ref b2, .ref b3, .ref b4, .ref b5, .ref b6, .ref b7, .ref b8, .ref b9, .ref b10, .ref b11, .int 0, .int 0, .int 0])), (g, .inr (8, [.int 0, .int 0, .ref g2, .ref g3, .ref g4, .ref g5, .ref g6, .ref g7, .ref g8, .ref g9, .ref g10, .int 0, .ref g12, .ref g13, .int 0, .ref g15, .ref g16, .ref g17, .int 0, .ref g19, .ref g20, .ref g21, .ref g22, .ref g23, .ref g24, .ref g25, .ref g26, .ref g27, .ref g28, .int 0, .int 0, .int 0, .int 0, .ref g33, .ref g34, .ref g35, .ref g36, .ref g37, .ref g38, .ref g39, .int 0, .ref g41, .ref g42, .int 0, .ref g44, .ref g45]))] H := k_sub hP [0, 10, 47] rfl
  have hD : va_D (fun q : Nat => s.heap.size ≤ q) [(x, .inr (7, [.ref x0, .ref x1, .ref x2, .ref x3, .ref x4, .ref x5])), (x0, .inr (0, [.ref b0, .ref b1, .ref b2, .ref b3, .ref b4, .ref b5, .ref b6, .ref b7, .ref b8, .ref b9, .ref b10, .ref b11, .int 0, .int 0, .int 0])), (g, .inr (8, [.int 0, .int 0, .ref g2, .ref g3, .ref g4, .ref g5, .ref g6, .ref g7, .ref g8, .ref g9, .ref g10, .int 0, .ref g12, .ref g13, .int 0, .ref g15, .ref g16, .ref g17, .int 0, .ref g19, .ref g20, .ref g21, .ref g22, .ref g23, .ref g24, .ref g25, .ref g26, .ref g27, .ref g28, .int 0, .int 0, .int 0, .int 0, .ref g33, .ref g34, .ref g35, .ref g36, .ref g37, .ref g38, .ref g39, .int 0, .ref g41, .ref g42, .int 0, .ref g44, .ref g45]))] := hD.sub [0, 10, 47] (by decide) rfl
  refine lv_aload_n hx hb dL_law_1270 rfl (lv_at hl 3 rfl) ?_
  refine lv_aload_n hx hb dL_law_1271 rfl (lv_at hl 4 rfl) ?_
  refine lv_iload hx hb dL_law_1272 (lv_at hl 0 rfl) ?_
  refine lv_iconst (v := 1) hx hb dL_law_1274 (by decide) ?_
  refine lv_iadd hx hb dL_law_1275 ?_
  refine lv_topi (fun v1 ev1 => ?_)
  obtain rfl : v1 = 1 := by rw [ev1]; decide
  refine va_sld hx hb hX hbl hbA hS (by unfold vp_in; decide) dL_law_1276 ?_
  refine W.eq (g2 := F0 m 1277 ls [.int (xs 1), .ref x]) rfl ?_
  refine lv_aload_n hx hb dL_law_1277 rfl (lv_at hl 4 rfl) ?_
  refine lv_iload hx hb dL_law_1278 (lv_at hl 0 rfl) ?_
  refine lv_iconst (v := 2) hx hb dL_law_1280 (by decide) ?_
  refine lv_iadd hx hb dL_law_1281 ?_
  refine lv_topi (fun v2 ev2 => ?_)
  obtain rfl : v2 = 2 := by rw [ev2]; decide
  refine va_sld hx hb hX hbl hbA hS (by unfold vp_in; decide) dL_law_1282 ?_
  refine W.eq (g2 := F0 m 1283 ls [.int (xs 2), .int (xs 1), .ref x]) rfl ?_
  refine k_i (va_runV (As := [.int (xs 1), .int (xs 2)]) (rest := []) ⟨hx, hb, hml, hown, hts⟩ (f_X7_set l D cI cJ H.size x x0 x1 x2 x3 x4 x5 b0 b1 b2 b3 b4 b5 b6 b7 b8 b9 b10 b11 (xs 1) (xs 2)) (cwV 2 hts hL_law_X7_set rfl rfl rfl (by decide +kernel) ⟨Nat.le_of_ble_eq_true rfl, Nat.le_of_ble_eq_true rfl⟩) (k_preV hE hP hD [0, 1] (by decide) rfl 0 rfl rfl) rfl rfl hl.1 rfl (lv_room (Nat.le_of_ble_eq_true rfl)) dL_law_1283 ⟨Nat.le_of_ble_eq_true rfl, Nat.le_of_ble_eq_true rfl⟩) hP hD hS hA [0, 1] [2] rfl (wr := [(g, .inr (8, [.int 0, .int 0, .ref g2, .ref g3, .ref g4, .ref g5, .ref g6, .ref g7, .ref g8, .ref g9, .ref g10, .int 0, .ref g12, .ref g13, .int 0, .ref g15, .ref g16, .ref g17, .int 0, .ref g19, .ref g20, .ref g21, .ref g22, .ref g23, .ref g24, .ref g25, .ref g26, .ref g27, .ref g28, .int 0, .int 0, .int 0, .int 0, .ref g33, .ref g34, .ref g35, .ref g36, .ref g37, .ref g38, .ref g39, .int 0, .ref g41, .ref g42, .int 0, .ref g44, .ref g45]))]) rfl (by decide) (by decide) (fun r3 u H locs hw4 hP hD hS => ?_)
  obtain ⟨rfl, rfl⟩ := hw4
  have hP : va_P D vwCl [(g, .inr (8, [.int 0, .int 0, .ref g2, .ref g3, .ref g4, .ref g5, .ref g6, .ref g7, .ref g8, .ref g9, .ref g10, .int 0, .ref g12, .ref g13, .int 0, .ref g15, .ref g16, .ref g17, .int 0, .ref g19, .ref g20, .ref g21, .ref g22, .ref g23, .ref g24, .ref g25, .ref g26, .ref g27, .ref g28, .int 0, .int 0, .int 0, .int 0, .ref g33, .ref g34, .ref g35, .ref g36, .ref g37, .ref g38, .ref g39, .int 0, .ref g41, .ref g42, .int 0, .ref g44, .ref g45]))] H := hP
  have hD : va_D (fun q : Nat => s.heap.size ≤ q) [(g, .inr (8, [.int 0, .int 0, .ref g2, .ref g3, .ref g4, .ref g5, .ref g6, .ref g7, .ref g8, .ref g9, .ref g10, .int 0, .ref g12, .ref g13, .int 0, .ref g15, .ref g16, .ref g17, .int 0, .ref g19, .ref g20, .ref g21, .ref g22, .ref g23, .ref g24, .ref g25, .ref g26, .ref g27, .ref g28, .int 0, .int 0, .int 0, .int 0, .ref g33, .ref g34, .ref g35, .ref g36, .ref g37, .ref g38, .ref g39, .int 0, .ref g41, .ref g42, .int 0, .ref g44, .ref g45]))] := hD
  refine lv_aload_n hx hb dL_law_1286 rfl (lv_at hl 2 rfl) ?_
  refine lv_aload_n hx hb dL_law_1287 rfl (lv_at hl 4 rfl) ?_
  refine lv_iload hx hb dL_law_1288 (lv_at hl 0 rfl) ?_
  refine lv_iconst (v := 1) hx hb dL_law_1290 (by decide) ?_
  refine lv_iadd hx hb dL_law_1291 ?_
  refine lv_topi (fun v5 ev5 => ?_)
  obtain rfl : v5 = 1 := by rw [ev5]; decide
  refine va_sld hx hb hX hbl hbA hS (by unfold vp_in; decide) dL_law_1292 ?_
  refine W.eq (g2 := F0 m 1293 ls [.int (xs 1), .ref g, .int (-1)]) rfl ?_
  refine lv_aload_n hx hb dL_law_1293 rfl (lv_at hl 4 rfl) ?_
  refine lv_iload hx hb dL_law_1294 (lv_at hl 0 rfl) ?_
  refine lv_iconst (v := 2) hx hb dL_law_1296 (by decide) ?_
  refine lv_iadd hx hb dL_law_1297 ?_
  refine lv_topi (fun v6 ev6 => ?_)
  obtain rfl : v6 = 2 := by rw [ev6]; decide
  refine va_sld hx hb hX hbl hbA hS (by unfold vp_in; decide) dL_law_1298 ?_
  refine W.eq (g2 := F0 m 1299 ls [.int (xs 2), .int (xs 1), .ref g, .int (-1)]) rfl ?_
  refine k_i (va_runV (As := [.int (xs 1), .int (xs 2)]) (rest := [.int (-1)]) ⟨hx, hb, hml, hown, hts⟩ (f_X8_set l D cI cJ H.size g g2 g3 g4 g5 g6 g7 g8 g9 g10 g12 g13 g15 g16 g17 g19 g20 g21 g22 g23 g24 g25 g26 g27 g28 g33 g34 g35 g36 g37 g38 g39 g41 g42 g44 g45 (xs 1) (xs 2)) (cwV 2 hts hL_law_X8_set rfl rfl rfl (by decide +kernel) ⟨Nat.le_of_ble_eq_true rfl, Nat.le_of_ble_eq_true rfl⟩) (k_preV hE hP hD [0] (by decide) rfl 0 rfl rfl) rfl rfl hl.1 rfl (lv_room (Nat.le_of_ble_eq_true rfl)) dL_law_1299 ⟨Nat.le_of_ble_eq_true rfl, Nat.le_of_ble_eq_true rfl⟩) hP hD hS hA [0] [] rfl (wr := []) rfl (by decide) (by decide) (fun r7 u H locs hw8 hP hD hS => ?_)
  obtain ⟨rfl, rfl⟩ := hw8
  have hP : va_P D vwCl [] H := hP
  have hD : va_D (fun q : Nat => s.heap.size ≤ q) [] := hD
  refine lv_icmp_eq (tgt := 1651) hx hb dL_law_1302 (by decide) (fun _ => ?_) (fun c9 => absurd (by decide) c9)
  refine W.widen (k := 90) (n := 1144) (Nat.le_of_ble_eq_true rfl) (Nat.le_of_ble_eq_true rfl) ?_
  exact kend _ _ _ hS (lv_sub hl [0, 1, 2, 3, 4] rfl)
set_option maxHeartbeats 4000000 in
set_option maxRecDepth 100000 in
theorem arm_24 {p : Program} {l : Launch} {e : Env} {s : State} {m : MethodId} {below : List Frame} {meth : Method} {c : Code} {b : Nat} {xs : Nat → Int32} {D : va_G} {cI cJ : ClassId} {Q : State → Prop} (C : LC p l s m c b xs D cI cJ) {x x0 x1 x2 x3 x4 x5 s1 s2 s5 s6 s7 s8 s9 s10 s11 b0 b1 b2 b3 b4 b5 b6 b7 b8 b9 b10 b11 w0 w1 w2 w3 w4 w8 d0 d1 d2 y0 y1 c0 c1 c2 c3 c6 c8 z0 z1 g g2 g3 g4 g5 g6 g7 g8 g9 g10 g12 g13 g15 g16 g17 g19 g20 g21 g22 g23 g24 g25 g26 g27 g28 g33 g34 g35 g36 g37 g38 g39 g41 g42 g44 g45 o : Nat} {H : Heap} {locs : List Loc} (hP : va_P D vwCl (LWS cI cJ x x0 x1 x2 x3 x4 x5 s1 s2 s5 s6 s7 s8 s9 s10 s11 b0 b1 b2 b3 b4 b5 b6 b7 b8 b9 b10 b11 w0 w1 w2 w3 w4 w8 d0 d1 d2 y0 y1 c0 c1 c2 c3 c6 c8 z0 z1 g g2 g3 g4 g5 g6 g7 g8 g9 g10 g12 g13 g15 g16 g17 g19 g20 g21 g22 g23 g24 g25 g26 g27 g28 g33 g34 g35 g36 g37 g38 g39 g41 g42 g44 g45 o) H) (hD : va_D (fun q : Nat => s.heap.size ≤ q) (LWS cI cJ x x0 x1 x2 x3 x4 x5 s1 s2 s5 s6 s7 s8 s9 s10 s11 b0 b1 b2 b3 b4 b5 b6 b7 b8 b9 b10 b11 w0 w1 w2 w3 w4 w8 d0 d1 d2 y0 y1 c0 c1 c2 c3 c6 c8 z0 z1 g g2 g3 g4 g5 g6 g7 g8 g9 g10 g12 g13 g15 g16 g17 g19 g20 g21 g22 g23 g24 g25 g26 g27 g28 g33 g34 g35 g36 g37 g38 g39 g41 g42 g44 g45 o)) (hS : va_S (fun q : Nat => s.heap.size ≤ q) s.heap H locs) {ls : Array Slot} (hl : lv_has ls 7 [(4, .int 0), (3, .ref o), (2, .ref g), (1, .ref x), (0, .ref b)])
    (kend : ∀ (H1 : Heap) (locs1 : List Loc) (ls1 : Array Slot), va_S (fun q : Nat => s.heap.size ≤ q) s.heap H1 locs1 → lv_has ls1 7 [(4, .int 0), (3, .ref o), (2, .ref g), (1, .ref x), (0, .ref b)] → W p l e room_1 s m #[Value.ref b] below meth c H1 locs1 90 1144 Q (F0 m 1651 ls1 [])) : W p l e room_1 s m #[Value.ref b] below meth c H locs 84 1104 Q (F0 m 1307 ls []) := by
  obtain ⟨hx, hb, hml, hown, hts, hE, hX, hbl, hXw, hl9⟩ := C
  have hA : ∀ q : Nat, s.heap.size ≤ q → (fun q : Nat => s.heap.size ≤ q) q := fun _ h => h
  have hbA : ¬ (fun q : Nat => s.heap.size ≤ q) b := Nat.not_le.mpr hbl
  have hP : va_P D vwCl [(x, .inr (7, [.ref x0, .ref x1, .ref x2, .ref x3, .ref x4, .ref x5])), (x0, .inr (0, [.ref b0, .ref b1, .ref b2, .ref b3, .ref b4, .ref b5, .ref b6, .ref b7, .ref b8, .ref b9, .ref b10, .ref b11, .int 0, .int 0, .int 0])), (g, .inr (8, [.int 0, .int 0, .ref g2, .ref g3, .ref g4, .ref g5, .ref g6, .ref g7, .ref g8, .ref g9, .ref g10, .int 0, .ref g12, .ref g13, .int 0, .ref g15, .ref g16, .ref g17, .int 0, .ref g19, .ref g20, .ref g21, .ref g22, .ref g23, .ref g24, .ref g25, .ref g26, .ref g27, .ref g28, .int 0, .int 0, .int 0, .int 0, .ref g33, .ref g34, .ref g35, .ref g36, .ref g37, .ref g38, .ref g39, .int 0, .ref g41, .ref g42, .int 0, .ref g44, .ref g45]))] H := k_sub hP [0, 10, 47] rfl
  have hD : va_D (fun q : Nat => s.heap.size ≤ q) [(x, .inr (7, [.ref x0, .ref x1, .ref x2, .ref x3, .ref x4, .ref x5])), (x0, .inr (0, [.ref b0, .ref b1, .ref b2, .ref b3, .ref b4, .ref b5, .ref b6, .ref b7, .ref b8, .ref b9, .ref b10, .ref b11, .int 0, .int 0, .int 0])), (g, .inr (8, [.int 0, .int 0, .ref g2, .ref g3, .ref g4, .ref g5, .ref g6, .ref g7, .ref g8, .ref g9, .ref g10, .int 0, .ref g12, .ref g13, .int 0, .ref g15, .ref g16, .ref g17, .int 0, .ref g19, .ref g20, .ref g21, .ref g22, .ref g23, .ref g24, .ref g25, .ref g26, .ref g27, .ref g28, .int 0, .int 0, .int 0, .int 0, .ref g33, .ref g34, .ref g35, .ref g36, .ref g37, .ref g38, .ref g39, .int 0, .ref g41, .ref g42, .int 0, .ref g44, .ref g45]))] := hD.sub [0, 10, 47] (by decide) rfl
  refine lv_aload_n hx hb dL_law_1307 rfl (lv_at hl 3 rfl) ?_
  refine lv_aload_n hx hb dL_law_1308 rfl (lv_at hl 4 rfl) ?_
  refine lv_iload hx hb dL_law_1309 (lv_at hl 0 rfl) ?_
  refine lv_iconst (v := 1) hx hb dL_law_1311 (by decide) ?_
  refine lv_iadd hx hb dL_law_1312 ?_
  refine lv_topi (fun v1 ev1 => ?_)
  obtain rfl : v1 = 1 := by rw [ev1]; decide
  refine va_sld hx hb hX hbl hbA hS (by unfold vp_in; decide) dL_law_1313 ?_
  refine W.eq (g2 := F0 m 1314 ls [.int (xs 1), .ref x]) rfl ?_
  refine lv_aload_n hx hb dL_law_1314 rfl (lv_at hl 4 rfl) ?_
  refine lv_iload hx hb dL_law_1315 (lv_at hl 0 rfl) ?_
  refine lv_iconst (v := 2) hx hb dL_law_1317 (by decide) ?_
  refine lv_iadd hx hb dL_law_1318 ?_
  refine lv_topi (fun v2 ev2 => ?_)
  obtain rfl : v2 = 2 := by rw [ev2]; decide
  refine va_sld hx hb hX hbl hbA hS (by unfold vp_in; decide) dL_law_1319 ?_
  refine W.eq (g2 := F0 m 1320 ls [.int (xs 2), .int (xs 1), .ref x]) rfl ?_
  refine k_l (va_runV (As := [.int (xs 1), .int (xs 2)]) (rest := []) ⟨hx, hb, hml, hown, hts⟩ (f_X7_shapley l D cI cJ H.size x x0 x1 x2 x3 x4 x5 b0 b1 b2 b3 b4 b5 b6 b7 b8 b9 b10 b11 (xs 1) (xs 2)) (cwV 2 hts hL_law_X7_shapley rfl rfl rfl (by decide +kernel) ⟨Nat.le_of_ble_eq_true rfl, Nat.le_of_ble_eq_true rfl⟩) (k_preV hE hP hD [0, 1] (by decide) rfl 0 rfl rfl) rfl rfl hl.1 rfl (lv_room (Nat.le_of_ble_eq_true rfl)) dL_law_1320 ⟨Nat.le_of_ble_eq_true rfl, Nat.le_of_ble_eq_true rfl⟩) hP hD hS hA [0, 1] [2] rfl (wr := [(g, .inr (8, [.int 0, .int 0, .ref g2, .ref g3, .ref g4, .ref g5, .ref g6, .ref g7, .ref g8, .ref g9, .ref g10, .int 0, .ref g12, .ref g13, .int 0, .ref g15, .ref g16, .ref g17, .int 0, .ref g19, .ref g20, .ref g21, .ref g22, .ref g23, .ref g24, .ref g25, .ref g26, .ref g27, .ref g28, .int 0, .int 0, .int 0, .int 0, .ref g33, .ref g34, .ref g35, .ref g36, .ref g37, .ref g38, .ref g39, .int 0, .ref g41, .ref g42, .int 0, .ref g44, .ref g45]))]) rfl (by decide) (by decide) (fun r3 u H locs hw4 hP hD hS => ?_)
  obtain ⟨rfl, rfl⟩ := hw4
  have hP : va_P D vwCl [(g, .inr (8, [.int 0, .int 0, .ref g2, .ref g3, .ref g4, .ref g5, .ref g6, .ref g7, .ref g8, .ref g9, .ref g10, .int 0, .ref g12, .ref g13, .int 0, .ref g15, .ref g16, .ref g17, .int 0, .ref g19, .ref g20, .ref g21, .ref g22, .ref g23, .ref g24, .ref g25, .ref g26, .ref g27, .ref g28, .int 0, .int 0, .int 0, .int 0, .ref g33, .ref g34, .ref g35, .ref g36, .ref g37, .ref g38, .ref g39, .int 0, .ref g41, .ref g42, .int 0, .ref g44, .ref g45]))] H := hP
  have hD : va_D (fun q : Nat => s.heap.size ≤ q) [(g, .inr (8, [.int 0, .int 0, .ref g2, .ref g3, .ref g4, .ref g5, .ref g6, .ref g7, .ref g8, .ref g9, .ref g10, .int 0, .ref g12, .ref g13, .int 0, .ref g15, .ref g16, .ref g17, .int 0, .ref g19, .ref g20, .ref g21, .ref g22, .ref g23, .ref g24, .ref g25, .ref g26, .ref g27, .ref g28, .int 0, .int 0, .int 0, .int 0, .ref g33, .ref g34, .ref g35, .ref g36, .ref g37, .ref g38, .ref g39, .int 0, .ref g41, .ref g42, .int 0, .ref g44, .ref g45]))] := hD
  refine lv_aload_n hx hb dL_law_1323 rfl (lv_at hl 2 rfl) ?_
  refine lv_aload_n hx hb dL_law_1324 rfl (lv_at hl 4 rfl) ?_
  refine lv_iload hx hb dL_law_1325 (lv_at hl 0 rfl) ?_
  refine lv_iconst (v := 1) hx hb dL_law_1327 (by decide) ?_
  refine lv_iadd hx hb dL_law_1328 ?_
  refine lv_topi (fun v5 ev5 => ?_)
  obtain rfl : v5 = 1 := by rw [ev5]; decide
  refine va_sld hx hb hX hbl hbA hS (by unfold vp_in; decide) dL_law_1329 ?_
  refine W.eq (g2 := F0 m 1330 ls [.int (xs 1), .ref g, .long (-1)]) rfl ?_
  refine lv_aload_n hx hb dL_law_1330 rfl (lv_at hl 4 rfl) ?_
  refine lv_iload hx hb dL_law_1331 (lv_at hl 0 rfl) ?_
  refine lv_iconst (v := 2) hx hb dL_law_1333 (by decide) ?_
  refine lv_iadd hx hb dL_law_1334 ?_
  refine lv_topi (fun v6 ev6 => ?_)
  obtain rfl : v6 = 2 := by rw [ev6]; decide
  refine va_sld hx hb hX hbl hbA hS (by unfold vp_in; decide) dL_law_1335 ?_
  refine W.eq (g2 := F0 m 1336 ls [.int (xs 2), .int (xs 1), .ref g, .long (-1)]) rfl ?_
  refine k_l (va_runV (As := [.int (xs 1), .int (xs 2)]) (rest := [.long (-1)]) ⟨hx, hb, hml, hown, hts⟩ (f_X8_shapley l D cI cJ H.size g g2 g3 g4 g5 g6 g7 g8 g9 g10 g12 g13 g15 g16 g17 g19 g20 g21 g22 g23 g24 g25 g26 g27 g28 g33 g34 g35 g36 g37 g38 g39 g41 g42 g44 g45 (xs 1) (xs 2)) (cwV 2 hts hL_law_X8_shapley rfl rfl rfl (by decide +kernel) ⟨Nat.le_of_ble_eq_true rfl, Nat.le_of_ble_eq_true rfl⟩) (k_preV hE hP hD [0] (by decide) rfl 0 rfl rfl) rfl rfl hl.1 rfl (lv_room (Nat.le_of_ble_eq_true rfl)) dL_law_1336 ⟨Nat.le_of_ble_eq_true rfl, Nat.le_of_ble_eq_true rfl⟩) hP hD hS hA [0] [] rfl (wr := []) rfl (by decide) (by decide) (fun r7 u H locs hw8 hP hD hS => ?_)
  obtain ⟨rfl, rfl⟩ := hw8
  have hP : va_P D vwCl [] H := hP
  have hD : va_D (fun q : Nat => s.heap.size ≤ q) [] := hD
  refine k_lcmp_eq (tgt := 1651) hx hb dL_law_1339 dL_law_1340 (by decide) (fun _ => ?_) (fun c9 => absurd (by decide) c9)
  refine W.widen (k := 90) (n := 1144) (Nat.le_of_ble_eq_true rfl) (Nat.le_of_ble_eq_true rfl) ?_
  exact kend _ _ _ hS (lv_sub hl [0, 1, 2, 3, 4] rfl)
set_option maxHeartbeats 4000000 in
set_option maxRecDepth 100000 in
theorem arm_25 {p : Program} {l : Launch} {e : Env} {s : State} {m : MethodId} {below : List Frame} {meth : Method} {c : Code} {b : Nat} {xs : Nat → Int32} {D : va_G} {cI cJ : ClassId} {Q : State → Prop} (C : LC p l s m c b xs D cI cJ) {x x0 x1 x2 x3 x4 x5 s1 s2 s5 s6 s7 s8 s9 s10 s11 b0 b1 b2 b3 b4 b5 b6 b7 b8 b9 b10 b11 w0 w1 w2 w3 w4 w8 d0 d1 d2 y0 y1 c0 c1 c2 c3 c6 c8 z0 z1 g g2 g3 g4 g5 g6 g7 g8 g9 g10 g12 g13 g15 g16 g17 g19 g20 g21 g22 g23 g24 g25 g26 g27 g28 g33 g34 g35 g36 g37 g38 g39 g41 g42 g44 g45 o : Nat} {H : Heap} {locs : List Loc} (hP : va_P D vwCl (LWS cI cJ x x0 x1 x2 x3 x4 x5 s1 s2 s5 s6 s7 s8 s9 s10 s11 b0 b1 b2 b3 b4 b5 b6 b7 b8 b9 b10 b11 w0 w1 w2 w3 w4 w8 d0 d1 d2 y0 y1 c0 c1 c2 c3 c6 c8 z0 z1 g g2 g3 g4 g5 g6 g7 g8 g9 g10 g12 g13 g15 g16 g17 g19 g20 g21 g22 g23 g24 g25 g26 g27 g28 g33 g34 g35 g36 g37 g38 g39 g41 g42 g44 g45 o) H) (hD : va_D (fun q : Nat => s.heap.size ≤ q) (LWS cI cJ x x0 x1 x2 x3 x4 x5 s1 s2 s5 s6 s7 s8 s9 s10 s11 b0 b1 b2 b3 b4 b5 b6 b7 b8 b9 b10 b11 w0 w1 w2 w3 w4 w8 d0 d1 d2 y0 y1 c0 c1 c2 c3 c6 c8 z0 z1 g g2 g3 g4 g5 g6 g7 g8 g9 g10 g12 g13 g15 g16 g17 g19 g20 g21 g22 g23 g24 g25 g26 g27 g28 g33 g34 g35 g36 g37 g38 g39 g41 g42 g44 g45 o)) (hS : va_S (fun q : Nat => s.heap.size ≤ q) s.heap H locs) {ls : Array Slot} (hl : lv_has ls 7 [(4, .int 0), (3, .ref o), (2, .ref g), (1, .ref x), (0, .ref b)])
    (kend : ∀ (H1 : Heap) (locs1 : List Loc) (ls1 : Array Slot), va_S (fun q : Nat => s.heap.size ≤ q) s.heap H1 locs1 → lv_has ls1 7 [(4, .int 0), (3, .ref o), (2, .ref g), (1, .ref x), (0, .ref b)] → W p l e room_1 s m #[Value.ref b] below meth c H1 locs1 90 1144 Q (F0 m 1651 ls1 [])) : W p l e room_1 s m #[Value.ref b] below meth c H locs 84 1104 Q (F0 m 1345 ls []) := by
  obtain ⟨hx, hb, hml, hown, hts, hE, hX, hbl, hXw, hl9⟩ := C
  have hA : ∀ q : Nat, s.heap.size ≤ q → (fun q : Nat => s.heap.size ≤ q) q := fun _ h => h
  have hbA : ¬ (fun q : Nat => s.heap.size ≤ q) b := Nat.not_le.mpr hbl
  have hP : va_P D vwCl [(x, .inr (7, [.ref x0, .ref x1, .ref x2, .ref x3, .ref x4, .ref x5])), (x0, .inr (0, [.ref b0, .ref b1, .ref b2, .ref b3, .ref b4, .ref b5, .ref b6, .ref b7, .ref b8, .ref b9, .ref b10, .ref b11, .int 0, .int 0, .int 0])), (b9, .inl (cI, 8, .inl (fun _ => 0))), (g, .inr (8, [.int 0, .int 0, .ref g2, .ref g3, .ref g4, .ref g5, .ref g6, .ref g7, .ref g8, .ref g9, .ref g10, .int 0, .ref g12, .ref g13, .int 0, .ref g15, .ref g16, .ref g17, .int 0, .ref g19, .ref g20, .ref g21, .ref g22, .ref g23, .ref g24, .ref g25, .ref g26, .ref g27, .ref g28, .int 0, .int 0, .int 0, .int 0, .ref g33, .ref g34, .ref g35, .ref g36, .ref g37, .ref g38, .ref g39, .int 0, .ref g41, .ref g42, .int 0, .ref g44, .ref g45])), (g15, .inl (cI, 8, .inl (fun _ => 0)))] H := k_sub hP [0, 10, 20, 47, 59] rfl
  have hD : va_D (fun q : Nat => s.heap.size ≤ q) [(x, .inr (7, [.ref x0, .ref x1, .ref x2, .ref x3, .ref x4, .ref x5])), (x0, .inr (0, [.ref b0, .ref b1, .ref b2, .ref b3, .ref b4, .ref b5, .ref b6, .ref b7, .ref b8, .ref b9, .ref b10, .ref b11, .int 0, .int 0, .int 0])), (b9, .inl (cI, 8, .inl (fun _ => 0))), (g, .inr (8, [.int 0, .int 0, .ref g2, .ref g3, .ref g4, .ref g5, .ref g6, .ref g7, .ref g8, .ref g9, .ref g10, .int 0, .ref g12, .ref g13, .int 0, .ref g15, .ref g16, .ref g17, .int 0, .ref g19, .ref g20, .ref g21, .ref g22, .ref g23, .ref g24, .ref g25, .ref g26, .ref g27, .ref g28, .int 0, .int 0, .int 0, .int 0, .ref g33, .ref g34, .ref g35, .ref g36, .ref g37, .ref g38, .ref g39, .int 0, .ref g41, .ref g42, .int 0, .ref g44, .ref g45])), (g15, .inl (cI, 8, .inl (fun _ => 0)))] := hD.sub [0, 10, 20, 47, 59] (by decide) rfl
  refine lv_aload_n hx hb dL_law_1345 rfl (lv_at hl 3 rfl) ?_
  refine lv_aload_n hx hb dL_law_1346 rfl (lv_at hl 4 rfl) ?_
  refine lv_iload hx hb dL_law_1347 (lv_at hl 0 rfl) ?_
  refine lv_iconst (v := 1) hx hb dL_law_1349 (by decide) ?_
  refine lv_iadd hx hb dL_law_1350 ?_
  refine lv_topi (fun v1 ev1 => ?_)
  obtain rfl : v1 = 1 := by rw [ev1]; decide
  refine va_sld hx hb hX hbl hbA hS (by unfold vp_in; decide) dL_law_1351 ?_
  refine W.eq (g2 := F0 m 1352 ls [.int (xs 1), .ref x]) rfl ?_
  refine lv_aload_n hx hb dL_law_1352 rfl (lv_at hl 4 rfl) ?_
  refine lv_iload hx hb dL_law_1353 (lv_at hl 0 rfl) ?_
  refine lv_iconst (v := 2) hx hb dL_law_1355 (by decide) ?_
  refine lv_iadd hx hb dL_law_1356 ?_
  refine lv_topi (fun v2 ev2 => ?_)
  obtain rfl : v2 = 2 := by rw [ev2]; decide
  refine va_sld hx hb hX hbl hbA hS (by unfold vp_in; decide) dL_law_1357 ?_
  refine W.eq (g2 := F0 m 1358 ls [.int (xs 2), .int (xs 1), .ref x]) rfl ?_
  refine k_i (va_runV (As := [.int (xs 1), .int (xs 2)]) (rest := []) ⟨hx, hb, hml, hown, hts⟩ (f_X7_returned l D cI cJ H.size x x0 x1 x2 x3 x4 x5 b0 b1 b2 b3 b4 b5 b6 b7 b8 b9 b10 b11 (xs 1) (xs 2)) (cwV 2 hts hL_law_X7_returned rfl rfl rfl (by decide +kernel) ⟨Nat.le_of_ble_eq_true rfl, Nat.le_of_ble_eq_true rfl⟩) (k_preV hE hP hD [0, 1, 2] (by decide) rfl 0 rfl rfl) rfl rfl hl.1 rfl (lv_room (Nat.le_of_ble_eq_true rfl)) dL_law_1358 ⟨Nat.le_of_ble_eq_true rfl, Nat.le_of_ble_eq_true rfl⟩) hP hD hS hA [0, 1, 2] [3, 4] rfl (wr := [(g, .inr (8, [.int 0, .int 0, .ref g2, .ref g3, .ref g4, .ref g5, .ref g6, .ref g7, .ref g8, .ref g9, .ref g10, .int 0, .ref g12, .ref g13, .int 0, .ref g15, .ref g16, .ref g17, .int 0, .ref g19, .ref g20, .ref g21, .ref g22, .ref g23, .ref g24, .ref g25, .ref g26, .ref g27, .ref g28, .int 0, .int 0, .int 0, .int 0, .ref g33, .ref g34, .ref g35, .ref g36, .ref g37, .ref g38, .ref g39, .int 0, .ref g41, .ref g42, .int 0, .ref g44, .ref g45])), (g15, .inl (cI, 8, .inl (fun _ => 0)))]) rfl (by decide) (by decide) (fun r3 u H locs hw4 hP hD hS => ?_)
  obtain ⟨rfl, rfl⟩ := hw4
  have hP : va_P D vwCl [(g, .inr (8, [.int 0, .int 0, .ref g2, .ref g3, .ref g4, .ref g5, .ref g6, .ref g7, .ref g8, .ref g9, .ref g10, .int 0, .ref g12, .ref g13, .int 0, .ref g15, .ref g16, .ref g17, .int 0, .ref g19, .ref g20, .ref g21, .ref g22, .ref g23, .ref g24, .ref g25, .ref g26, .ref g27, .ref g28, .int 0, .int 0, .int 0, .int 0, .ref g33, .ref g34, .ref g35, .ref g36, .ref g37, .ref g38, .ref g39, .int 0, .ref g41, .ref g42, .int 0, .ref g44, .ref g45])), (g15, .inl (cI, 8, .inl (fun _ => 0)))] H := hP
  have hD : va_D (fun q : Nat => s.heap.size ≤ q) [(g, .inr (8, [.int 0, .int 0, .ref g2, .ref g3, .ref g4, .ref g5, .ref g6, .ref g7, .ref g8, .ref g9, .ref g10, .int 0, .ref g12, .ref g13, .int 0, .ref g15, .ref g16, .ref g17, .int 0, .ref g19, .ref g20, .ref g21, .ref g22, .ref g23, .ref g24, .ref g25, .ref g26, .ref g27, .ref g28, .int 0, .int 0, .int 0, .int 0, .ref g33, .ref g34, .ref g35, .ref g36, .ref g37, .ref g38, .ref g39, .int 0, .ref g41, .ref g42, .int 0, .ref g44, .ref g45])), (g15, .inl (cI, 8, .inl (fun _ => 0)))] := hD
  refine lv_aload_n hx hb dL_law_1361 rfl (lv_at hl 2 rfl) ?_
  refine lv_aload_n hx hb dL_law_1362 rfl (lv_at hl 4 rfl) ?_
  refine lv_iload hx hb dL_law_1363 (lv_at hl 0 rfl) ?_
  refine lv_iconst (v := 1) hx hb dL_law_1365 (by decide) ?_
  refine lv_iadd hx hb dL_law_1366 ?_
  refine lv_topi (fun v5 ev5 => ?_)
  obtain rfl : v5 = 1 := by rw [ev5]; decide
  refine va_sld hx hb hX hbl hbA hS (by unfold vp_in; decide) dL_law_1367 ?_
  refine W.eq (g2 := F0 m 1368 ls [.int (xs 1), .ref g, .int (-1)]) rfl ?_
  refine lv_aload_n hx hb dL_law_1368 rfl (lv_at hl 4 rfl) ?_
  refine lv_iload hx hb dL_law_1369 (lv_at hl 0 rfl) ?_
  refine lv_iconst (v := 2) hx hb dL_law_1371 (by decide) ?_
  refine lv_iadd hx hb dL_law_1372 ?_
  refine lv_topi (fun v6 ev6 => ?_)
  obtain rfl : v6 = 2 := by rw [ev6]; decide
  refine va_sld hx hb hX hbl hbA hS (by unfold vp_in; decide) dL_law_1373 ?_
  refine W.eq (g2 := F0 m 1374 ls [.int (xs 2), .int (xs 1), .ref g, .int (-1)]) rfl ?_
  refine k_i (va_runV (As := [.int (xs 1), .int (xs 2)]) (rest := [.int (-1)]) ⟨hx, hb, hml, hown, hts⟩ (f_X8_returned l D cI cJ H.size g g2 g3 g4 g5 g6 g7 g8 g9 g10 g12 g13 g15 g16 g17 g19 g20 g21 g22 g23 g24 g25 g26 g27 g28 g33 g34 g35 g36 g37 g38 g39 g41 g42 g44 g45 (xs 1) (xs 2)) (cwV 2 hts hL_law_X8_returned rfl rfl rfl (by decide +kernel) ⟨Nat.le_of_ble_eq_true rfl, Nat.le_of_ble_eq_true rfl⟩) (k_preV hE hP hD [0, 1] (by decide) rfl 0 rfl rfl) rfl rfl hl.1 rfl (lv_room (Nat.le_of_ble_eq_true rfl)) dL_law_1374 ⟨Nat.le_of_ble_eq_true rfl, Nat.le_of_ble_eq_true rfl⟩) hP hD hS hA [0, 1] [] rfl (wr := []) rfl (by decide) (by decide) (fun r7 u H locs hw8 hP hD hS => ?_)
  obtain ⟨rfl, rfl⟩ := hw8
  have hP : va_P D vwCl [] H := hP
  have hD : va_D (fun q : Nat => s.heap.size ≤ q) [] := hD
  refine lv_icmp_eq (tgt := 1651) hx hb dL_law_1377 (by decide) (fun _ => ?_) (fun c9 => absurd (by decide) c9)
  refine W.widen (k := 90) (n := 1144) (Nat.le_of_ble_eq_true rfl) (Nat.le_of_ble_eq_true rfl) ?_
  exact kend _ _ _ hS (lv_sub hl [0, 1, 2, 3, 4] rfl)
set_option maxHeartbeats 4000000 in
set_option maxRecDepth 100000 in
theorem arm_26 {p : Program} {l : Launch} {e : Env} {s : State} {m : MethodId} {below : List Frame} {meth : Method} {c : Code} {b : Nat} {xs : Nat → Int32} {D : va_G} {cI cJ : ClassId} {Q : State → Prop} (C : LC p l s m c b xs D cI cJ) {x x0 x1 x2 x3 x4 x5 s1 s2 s5 s6 s7 s8 s9 s10 s11 b0 b1 b2 b3 b4 b5 b6 b7 b8 b9 b10 b11 w0 w1 w2 w3 w4 w8 d0 d1 d2 y0 y1 c0 c1 c2 c3 c6 c8 z0 z1 g g2 g3 g4 g5 g6 g7 g8 g9 g10 g12 g13 g15 g16 g17 g19 g20 g21 g22 g23 g24 g25 g26 g27 g28 g33 g34 g35 g36 g37 g38 g39 g41 g42 g44 g45 o : Nat} {H : Heap} {locs : List Loc} (hP : va_P D vwCl (LWS cI cJ x x0 x1 x2 x3 x4 x5 s1 s2 s5 s6 s7 s8 s9 s10 s11 b0 b1 b2 b3 b4 b5 b6 b7 b8 b9 b10 b11 w0 w1 w2 w3 w4 w8 d0 d1 d2 y0 y1 c0 c1 c2 c3 c6 c8 z0 z1 g g2 g3 g4 g5 g6 g7 g8 g9 g10 g12 g13 g15 g16 g17 g19 g20 g21 g22 g23 g24 g25 g26 g27 g28 g33 g34 g35 g36 g37 g38 g39 g41 g42 g44 g45 o) H) (hD : va_D (fun q : Nat => s.heap.size ≤ q) (LWS cI cJ x x0 x1 x2 x3 x4 x5 s1 s2 s5 s6 s7 s8 s9 s10 s11 b0 b1 b2 b3 b4 b5 b6 b7 b8 b9 b10 b11 w0 w1 w2 w3 w4 w8 d0 d1 d2 y0 y1 c0 c1 c2 c3 c6 c8 z0 z1 g g2 g3 g4 g5 g6 g7 g8 g9 g10 g12 g13 g15 g16 g17 g19 g20 g21 g22 g23 g24 g25 g26 g27 g28 g33 g34 g35 g36 g37 g38 g39 g41 g42 g44 g45 o)) (hS : va_S (fun q : Nat => s.heap.size ≤ q) s.heap H locs) {ls : Array Slot} (hl : lv_has ls 7 [(4, .int 0), (3, .ref o), (2, .ref g), (1, .ref x), (0, .ref b)])
    (kend : ∀ (H1 : Heap) (locs1 : List Loc) (ls1 : Array Slot), va_S (fun q : Nat => s.heap.size ≤ q) s.heap H1 locs1 → lv_has ls1 7 [(4, .int 0), (3, .ref o), (2, .ref g), (1, .ref x), (0, .ref b)] → W p l e room_1 s m #[Value.ref b] below meth c H1 locs1 90 1144 Q (F0 m 1651 ls1 [])) : W p l e room_1 s m #[Value.ref b] below meth c H locs 84 1104 Q (F0 m 1382 ls []) := by
  obtain ⟨hx, hb, hml, hown, hts, hE, hX, hbl, hXw, hl9⟩ := C
  have hA : ∀ q : Nat, s.heap.size ≤ q → (fun q : Nat => s.heap.size ≤ q) q := fun _ h => h
  have hbA : ¬ (fun q : Nat => s.heap.size ≤ q) b := Nat.not_le.mpr hbl
  have hP : va_P D vwCl [(x, .inr (7, [.ref x0, .ref x1, .ref x2, .ref x3, .ref x4, .ref x5])), (x0, .inr (0, [.ref b0, .ref b1, .ref b2, .ref b3, .ref b4, .ref b5, .ref b6, .ref b7, .ref b8, .ref b9, .ref b10, .ref b11, .int 0, .int 0, .int 0])), (g, .inr (8, [.int 0, .int 0, .ref g2, .ref g3, .ref g4, .ref g5, .ref g6, .ref g7, .ref g8, .ref g9, .ref g10, .int 0, .ref g12, .ref g13, .int 0, .ref g15, .ref g16, .ref g17, .int 0, .ref g19, .ref g20, .ref g21, .ref g22, .ref g23, .ref g24, .ref g25, .ref g26, .ref g27, .ref g28, .int 0, .int 0, .int 0, .int 0, .ref g33, .ref g34, .ref g35, .ref g36, .ref g37, .ref g38, .ref g39, .int 0, .ref g41, .ref g42, .int 0, .ref g44, .ref g45]))] H := k_sub hP [0, 10, 47] rfl
  have hD : va_D (fun q : Nat => s.heap.size ≤ q) [(x, .inr (7, [.ref x0, .ref x1, .ref x2, .ref x3, .ref x4, .ref x5])), (x0, .inr (0, [.ref b0, .ref b1, .ref b2, .ref b3, .ref b4, .ref b5, .ref b6, .ref b7, .ref b8, .ref b9, .ref b10, .ref b11, .int 0, .int 0, .int 0])), (g, .inr (8, [.int 0, .int 0, .ref g2, .ref g3, .ref g4, .ref g5, .ref g6, .ref g7, .ref g8, .ref g9, .ref g10, .int 0, .ref g12, .ref g13, .int 0, .ref g15, .ref g16, .ref g17, .int 0, .ref g19, .ref g20, .ref g21, .ref g22, .ref g23, .ref g24, .ref g25, .ref g26, .ref g27, .ref g28, .int 0, .int 0, .int 0, .int 0, .ref g33, .ref g34, .ref g35, .ref g36, .ref g37, .ref g38, .ref g39, .int 0, .ref g41, .ref g42, .int 0, .ref g44, .ref g45]))] := hD.sub [0, 10, 47] (by decide) rfl
  refine lv_aload_n hx hb dL_law_1382 rfl (lv_at hl 3 rfl) ?_
  refine lv_aload_n hx hb dL_law_1383 rfl (lv_at hl 4 rfl) ?_
  refine lv_iload hx hb dL_law_1384 (lv_at hl 0 rfl) ?_
  refine lv_iconst (v := 1) hx hb dL_law_1386 (by decide) ?_
  refine lv_iadd hx hb dL_law_1387 ?_
  refine lv_topi (fun v1 ev1 => ?_)
  obtain rfl : v1 = 1 := by rw [ev1]; decide
  refine va_sld hx hb hX hbl hbA hS (by unfold vp_in; decide) dL_law_1388 ?_
  refine W.eq (g2 := F0 m 1389 ls [.int (xs 1), .ref x]) rfl ?_
  refine lv_aload_n hx hb dL_law_1389 rfl (lv_at hl 4 rfl) ?_
  refine lv_iload hx hb dL_law_1390 (lv_at hl 0 rfl) ?_
  refine lv_iconst (v := 2) hx hb dL_law_1392 (by decide) ?_
  refine lv_iadd hx hb dL_law_1393 ?_
  refine lv_topi (fun v2 ev2 => ?_)
  obtain rfl : v2 = 2 := by rw [ev2]; decide
  refine va_sld hx hb hX hbl hbA hS (by unfold vp_in; decide) dL_law_1394 ?_
  refine W.eq (g2 := F0 m 1395 ls [.int (xs 2), .int (xs 1), .ref x]) rfl ?_
  refine lv_if_eq (tgt := 1402) hx hb dL_law_1395 (by decide) (fun c3 => ?_) (fun c3 => ?_)
  · skip
    refine lv_iconst (v := 0) hx hb dL_law_1402 (by decide) ?_
    refine k_i (va_runV (As := [.int (xs 1), .int 0]) (rest := []) ⟨hx, hb, hml, hown, hts⟩ (f_X7_ringless l D cI cJ H.size x x0 x1 x2 x3 x4 x5 b0 b1 b2 b3 b4 b5 b6 b7 b8 b9 b10 b11 (xs 1) 0) (cwV 2 hts hL_law_X7_ringless rfl rfl rfl (by decide +kernel) ⟨Nat.le_of_ble_eq_true rfl, Nat.le_of_ble_eq_true rfl⟩) (k_preV hE hP hD [0, 1] (by decide) rfl 0 rfl rfl) rfl rfl hl.1 rfl (lv_room (Nat.le_of_ble_eq_true rfl)) dL_law_1403 ⟨Nat.le_of_ble_eq_true rfl, Nat.le_of_ble_eq_true rfl⟩) hP hD hS hA [0, 1] [2] rfl (wr := [(g, .inr (8, [.int 0, .int 0, .ref g2, .ref g3, .ref g4, .ref g5, .ref g6, .ref g7, .ref g8, .ref g9, .ref g10, .int 0, .ref g12, .ref g13, .int 0, .ref g15, .ref g16, .ref g17, .int 0, .ref g19, .ref g20, .ref g21, .ref g22, .ref g23, .ref g24, .ref g25, .ref g26, .ref g27, .ref g28, .int 0, .int 0, .int 0, .int 0, .ref g33, .ref g34, .ref g35, .ref g36, .ref g37, .ref g38, .ref g39, .int 0, .ref g41, .ref g42, .int 0, .ref g44, .ref g45]))]) rfl (by decide) (by decide) (fun r4 u H locs hw5 hP hD hS => ?_)
    obtain ⟨rfl, rfl⟩ := hw5
    have hP : va_P D vwCl [(g, .inr (8, [.int 0, .int 0, .ref g2, .ref g3, .ref g4, .ref g5, .ref g6, .ref g7, .ref g8, .ref g9, .ref g10, .int 0, .ref g12, .ref g13, .int 0, .ref g15, .ref g16, .ref g17, .int 0, .ref g19, .ref g20, .ref g21, .ref g22, .ref g23, .ref g24, .ref g25, .ref g26, .ref g27, .ref g28, .int 0, .int 0, .int 0, .int 0, .ref g33, .ref g34, .ref g35, .ref g36, .ref g37, .ref g38, .ref g39, .int 0, .ref g41, .ref g42, .int 0, .ref g44, .ref g45]))] H := hP
    have hD : va_D (fun q : Nat => s.heap.size ≤ q) [(g, .inr (8, [.int 0, .int 0, .ref g2, .ref g3, .ref g4, .ref g5, .ref g6, .ref g7, .ref g8, .ref g9, .ref g10, .int 0, .ref g12, .ref g13, .int 0, .ref g15, .ref g16, .ref g17, .int 0, .ref g19, .ref g20, .ref g21, .ref g22, .ref g23, .ref g24, .ref g25, .ref g26, .ref g27, .ref g28, .int 0, .int 0, .int 0, .int 0, .ref g33, .ref g34, .ref g35, .ref g36, .ref g37, .ref g38, .ref g39, .int 0, .ref g41, .ref g42, .int 0, .ref g44, .ref g45]))] := hD
    refine lv_aload_n hx hb dL_law_1406 rfl (lv_at hl 2 rfl) ?_
    refine lv_aload_n hx hb dL_law_1407 rfl (lv_at hl 4 rfl) ?_
    refine lv_iload hx hb dL_law_1408 (lv_at hl 0 rfl) ?_
    refine lv_iconst (v := 1) hx hb dL_law_1410 (by decide) ?_
    refine lv_iadd hx hb dL_law_1411 ?_
    refine lv_topi (fun v6 ev6 => ?_)
    obtain rfl : v6 = 1 := by rw [ev6]; decide
    refine va_sld hx hb hX hbl hbA hS (by unfold vp_in; decide) dL_law_1412 ?_
    refine W.eq (g2 := F0 m 1413 ls [.int (xs 1), .ref g, .int (-1)]) rfl ?_
    refine lv_aload_n hx hb dL_law_1413 rfl (lv_at hl 4 rfl) ?_
    refine lv_iload hx hb dL_law_1414 (lv_at hl 0 rfl) ?_
    refine lv_iconst (v := 2) hx hb dL_law_1416 (by decide) ?_
    refine lv_iadd hx hb dL_law_1417 ?_
    refine lv_topi (fun v7 ev7 => ?_)
    obtain rfl : v7 = 2 := by rw [ev7]; decide
    refine va_sld hx hb hX hbl hbA hS (by unfold vp_in; decide) dL_law_1418 ?_
    refine W.eq (g2 := F0 m 1419 ls [.int (xs 2), .int (xs 1), .ref g, .int (-1)]) rfl ?_
    refine lv_if_eq (tgt := 1426) hx hb dL_law_1419 (by decide) (fun _ => ?_) (fun c8 => absurd c3 c8)
    refine lv_iconst (v := 0) hx hb dL_law_1426 (by decide) ?_
    refine k_i (va_runV (As := [.int (xs 1), .int 0]) (rest := [.int (-1)]) ⟨hx, hb, hml, hown, hts⟩ (f_X8_ringless l D cI cJ H.size g g2 g3 g4 g5 g6 g7 g8 g9 g10 g12 g13 g15 g16 g17 g19 g20 g21 g22 g23 g24 g25 g26 g27 g28 g33 g34 g35 g36 g37 g38 g39 g41 g42 g44 g45 (xs 1) 0) (cwV 2 hts hL_law_X8_ringless rfl rfl rfl (by decide +kernel) ⟨Nat.le_of_ble_eq_true rfl, Nat.le_of_ble_eq_true rfl⟩) (k_preV hE hP hD [0] (by decide) rfl 0 rfl rfl) rfl rfl hl.1 rfl (lv_room (Nat.le_of_ble_eq_true rfl)) dL_law_1427 ⟨Nat.le_of_ble_eq_true rfl, Nat.le_of_ble_eq_true rfl⟩) hP hD hS hA [0] [] rfl (wr := []) rfl (by decide) (by decide) (fun r9 u H locs hw10 hP hD hS => ?_)
    obtain ⟨rfl, rfl⟩ := hw10
    have hP : va_P D vwCl [] H := hP
    have hD : va_D (fun q : Nat => s.heap.size ≤ q) [] := hD
    refine lv_icmp_eq (tgt := 1651) hx hb dL_law_1430 (by decide) (fun _ => ?_) (fun c11 => absurd (by decide) c11)
    refine W.widen (k := 90) (n := 1144) (Nat.le_of_ble_eq_true rfl) (Nat.le_of_ble_eq_true rfl) ?_
    exact kend _ _ _ hS (lv_sub hl [0, 1, 2, 3, 4] rfl)
  · skip
    refine lv_iconst (v := 1) hx hb dL_law_1398 (by decide) ?_
    refine lv_goto (tgt := 1403) hx hb dL_law_1399 (by decide) ?_
    refine k_i (va_runV (As := [.int (xs 1), .int 1]) (rest := []) ⟨hx, hb, hml, hown, hts⟩ (f_X7_ringless l D cI cJ H.size x x0 x1 x2 x3 x4 x5 b0 b1 b2 b3 b4 b5 b6 b7 b8 b9 b10 b11 (xs 1) 1) (cwV 2 hts hL_law_X7_ringless rfl rfl rfl (by decide +kernel) ⟨Nat.le_of_ble_eq_true rfl, Nat.le_of_ble_eq_true rfl⟩) (k_preV hE hP hD [0, 1] (by decide) rfl 0 rfl rfl) rfl rfl hl.1 rfl (lv_room (Nat.le_of_ble_eq_true rfl)) dL_law_1403 ⟨Nat.le_of_ble_eq_true rfl, Nat.le_of_ble_eq_true rfl⟩) hP hD hS hA [0, 1] [2] rfl (wr := [(g, .inr (8, [.int 0, .int 0, .ref g2, .ref g3, .ref g4, .ref g5, .ref g6, .ref g7, .ref g8, .ref g9, .ref g10, .int 0, .ref g12, .ref g13, .int 0, .ref g15, .ref g16, .ref g17, .int 0, .ref g19, .ref g20, .ref g21, .ref g22, .ref g23, .ref g24, .ref g25, .ref g26, .ref g27, .ref g28, .int 0, .int 0, .int 0, .int 0, .ref g33, .ref g34, .ref g35, .ref g36, .ref g37, .ref g38, .ref g39, .int 0, .ref g41, .ref g42, .int 0, .ref g44, .ref g45]))]) rfl (by decide) (by decide) (fun r12 u H locs hw13 hP hD hS => ?_)
    obtain ⟨rfl, rfl⟩ := hw13
    have hP : va_P D vwCl [(g, .inr (8, [.int 0, .int 0, .ref g2, .ref g3, .ref g4, .ref g5, .ref g6, .ref g7, .ref g8, .ref g9, .ref g10, .int 0, .ref g12, .ref g13, .int 0, .ref g15, .ref g16, .ref g17, .int 0, .ref g19, .ref g20, .ref g21, .ref g22, .ref g23, .ref g24, .ref g25, .ref g26, .ref g27, .ref g28, .int 0, .int 0, .int 0, .int 0, .ref g33, .ref g34, .ref g35, .ref g36, .ref g37, .ref g38, .ref g39, .int 0, .ref g41, .ref g42, .int 0, .ref g44, .ref g45]))] H := hP
    have hD : va_D (fun q : Nat => s.heap.size ≤ q) [(g, .inr (8, [.int 0, .int 0, .ref g2, .ref g3, .ref g4, .ref g5, .ref g6, .ref g7, .ref g8, .ref g9, .ref g10, .int 0, .ref g12, .ref g13, .int 0, .ref g15, .ref g16, .ref g17, .int 0, .ref g19, .ref g20, .ref g21, .ref g22, .ref g23, .ref g24, .ref g25, .ref g26, .ref g27, .ref g28, .int 0, .int 0, .int 0, .int 0, .ref g33, .ref g34, .ref g35, .ref g36, .ref g37, .ref g38, .ref g39, .int 0, .ref g41, .ref g42, .int 0, .ref g44, .ref g45]))] := hD
    refine lv_aload_n hx hb dL_law_1406 rfl (lv_at hl 2 rfl) ?_
    refine lv_aload_n hx hb dL_law_1407 rfl (lv_at hl 4 rfl) ?_
    refine lv_iload hx hb dL_law_1408 (lv_at hl 0 rfl) ?_
    refine lv_iconst (v := 1) hx hb dL_law_1410 (by decide) ?_
    refine lv_iadd hx hb dL_law_1411 ?_
    refine lv_topi (fun v14 ev14 => ?_)
    obtain rfl : v14 = 1 := by rw [ev14]; decide
    refine va_sld hx hb hX hbl hbA hS (by unfold vp_in; decide) dL_law_1412 ?_
    refine W.eq (g2 := F0 m 1413 ls [.int (xs 1), .ref g, .int (-1)]) rfl ?_
    refine lv_aload_n hx hb dL_law_1413 rfl (lv_at hl 4 rfl) ?_
    refine lv_iload hx hb dL_law_1414 (lv_at hl 0 rfl) ?_
    refine lv_iconst (v := 2) hx hb dL_law_1416 (by decide) ?_
    refine lv_iadd hx hb dL_law_1417 ?_
    refine lv_topi (fun v15 ev15 => ?_)
    obtain rfl : v15 = 2 := by rw [ev15]; decide
    refine va_sld hx hb hX hbl hbA hS (by unfold vp_in; decide) dL_law_1418 ?_
    refine W.eq (g2 := F0 m 1419 ls [.int (xs 2), .int (xs 1), .ref g, .int (-1)]) rfl ?_
    refine lv_if_eq (tgt := 1426) hx hb dL_law_1419 (by decide) (fun c16 => absurd c16 c3) (fun _ => ?_)
    refine lv_iconst (v := 1) hx hb dL_law_1422 (by decide) ?_
    refine lv_goto (tgt := 1427) hx hb dL_law_1423 (by decide) ?_
    refine k_i (va_runV (As := [.int (xs 1), .int 1]) (rest := [.int (-1)]) ⟨hx, hb, hml, hown, hts⟩ (f_X8_ringless l D cI cJ H.size g g2 g3 g4 g5 g6 g7 g8 g9 g10 g12 g13 g15 g16 g17 g19 g20 g21 g22 g23 g24 g25 g26 g27 g28 g33 g34 g35 g36 g37 g38 g39 g41 g42 g44 g45 (xs 1) 1) (cwV 2 hts hL_law_X8_ringless rfl rfl rfl (by decide +kernel) ⟨Nat.le_of_ble_eq_true rfl, Nat.le_of_ble_eq_true rfl⟩) (k_preV hE hP hD [0] (by decide) rfl 0 rfl rfl) rfl rfl hl.1 rfl (lv_room (Nat.le_of_ble_eq_true rfl)) dL_law_1427 ⟨Nat.le_of_ble_eq_true rfl, Nat.le_of_ble_eq_true rfl⟩) hP hD hS hA [0] [] rfl (wr := []) rfl (by decide) (by decide) (fun r17 u H locs hw18 hP hD hS => ?_)
    obtain ⟨rfl, rfl⟩ := hw18
    have hP : va_P D vwCl [] H := hP
    have hD : va_D (fun q : Nat => s.heap.size ≤ q) [] := hD
    refine lv_icmp_eq (tgt := 1651) hx hb dL_law_1430 (by decide) (fun _ => ?_) (fun c19 => absurd (by decide) c19)
    refine W.widen (k := 90) (n := 1144) (Nat.le_of_ble_eq_true rfl) (Nat.le_of_ble_eq_true rfl) ?_
    exact kend _ _ _ hS (lv_sub hl [0, 1, 2, 3, 4] rfl)
set_option maxHeartbeats 4000000 in
set_option maxRecDepth 100000 in
theorem arm_27 {p : Program} {l : Launch} {e : Env} {s : State} {m : MethodId} {below : List Frame} {meth : Method} {c : Code} {b : Nat} {xs : Nat → Int32} {D : va_G} {cI cJ : ClassId} {Q : State → Prop} (C : LC p l s m c b xs D cI cJ) {x x0 x1 x2 x3 x4 x5 s1 s2 s5 s6 s7 s8 s9 s10 s11 b0 b1 b2 b3 b4 b5 b6 b7 b8 b9 b10 b11 w0 w1 w2 w3 w4 w8 d0 d1 d2 y0 y1 c0 c1 c2 c3 c6 c8 z0 z1 g g2 g3 g4 g5 g6 g7 g8 g9 g10 g12 g13 g15 g16 g17 g19 g20 g21 g22 g23 g24 g25 g26 g27 g28 g33 g34 g35 g36 g37 g38 g39 g41 g42 g44 g45 o : Nat} {H : Heap} {locs : List Loc} (hP : va_P D vwCl (LWS cI cJ x x0 x1 x2 x3 x4 x5 s1 s2 s5 s6 s7 s8 s9 s10 s11 b0 b1 b2 b3 b4 b5 b6 b7 b8 b9 b10 b11 w0 w1 w2 w3 w4 w8 d0 d1 d2 y0 y1 c0 c1 c2 c3 c6 c8 z0 z1 g g2 g3 g4 g5 g6 g7 g8 g9 g10 g12 g13 g15 g16 g17 g19 g20 g21 g22 g23 g24 g25 g26 g27 g28 g33 g34 g35 g36 g37 g38 g39 g41 g42 g44 g45 o) H) (hD : va_D (fun q : Nat => s.heap.size ≤ q) (LWS cI cJ x x0 x1 x2 x3 x4 x5 s1 s2 s5 s6 s7 s8 s9 s10 s11 b0 b1 b2 b3 b4 b5 b6 b7 b8 b9 b10 b11 w0 w1 w2 w3 w4 w8 d0 d1 d2 y0 y1 c0 c1 c2 c3 c6 c8 z0 z1 g g2 g3 g4 g5 g6 g7 g8 g9 g10 g12 g13 g15 g16 g17 g19 g20 g21 g22 g23 g24 g25 g26 g27 g28 g33 g34 g35 g36 g37 g38 g39 g41 g42 g44 g45 o)) (hS : va_S (fun q : Nat => s.heap.size ≤ q) s.heap H locs) {ls : Array Slot} (hl : lv_has ls 7 [(4, .int 0), (3, .ref o), (2, .ref g), (1, .ref x), (0, .ref b)])
    (kend : ∀ (H1 : Heap) (locs1 : List Loc) (ls1 : Array Slot), va_S (fun q : Nat => s.heap.size ≤ q) s.heap H1 locs1 → lv_has ls1 7 [(4, .int 0), (3, .ref o), (2, .ref g), (1, .ref x), (0, .ref b)] → W p l e room_1 s m #[Value.ref b] below meth c H1 locs1 90 1144 Q (F0 m 1651 ls1 [])) : W p l e room_1 s m #[Value.ref b] below meth c H locs 84 1104 Q (F0 m 1435 ls []) := by
  obtain ⟨hx, hb, hml, hown, hts, hE, hX, hbl, hXw, hl9⟩ := C
  have hA : ∀ q : Nat, s.heap.size ≤ q → (fun q : Nat => s.heap.size ≤ q) q := fun _ h => h
  have hbA : ¬ (fun q : Nat => s.heap.size ≤ q) b := Nat.not_le.mpr hbl
  have hP : va_P D vwCl [(x, .inr (7, [.ref x0, .ref x1, .ref x2, .ref x3, .ref x4, .ref x5])), (x0, .inr (0, [.ref b0, .ref b1, .ref b2, .ref b3, .ref b4, .ref b5, .ref b6, .ref b7, .ref b8, .ref b9, .ref b10, .ref b11, .int 0, .int 0, .int 0])), (g, .inr (8, [.int 0, .int 0, .ref g2, .ref g3, .ref g4, .ref g5, .ref g6, .ref g7, .ref g8, .ref g9, .ref g10, .int 0, .ref g12, .ref g13, .int 0, .ref g15, .ref g16, .ref g17, .int 0, .ref g19, .ref g20, .ref g21, .ref g22, .ref g23, .ref g24, .ref g25, .ref g26, .ref g27, .ref g28, .int 0, .int 0, .int 0, .int 0, .ref g33, .ref g34, .ref g35, .ref g36, .ref g37, .ref g38, .ref g39, .int 0, .ref g41, .ref g42, .int 0, .ref g44, .ref g45]))] H := k_sub hP [0, 10, 47] rfl
  have hD : va_D (fun q : Nat => s.heap.size ≤ q) [(x, .inr (7, [.ref x0, .ref x1, .ref x2, .ref x3, .ref x4, .ref x5])), (x0, .inr (0, [.ref b0, .ref b1, .ref b2, .ref b3, .ref b4, .ref b5, .ref b6, .ref b7, .ref b8, .ref b9, .ref b10, .ref b11, .int 0, .int 0, .int 0])), (g, .inr (8, [.int 0, .int 0, .ref g2, .ref g3, .ref g4, .ref g5, .ref g6, .ref g7, .ref g8, .ref g9, .ref g10, .int 0, .ref g12, .ref g13, .int 0, .ref g15, .ref g16, .ref g17, .int 0, .ref g19, .ref g20, .ref g21, .ref g22, .ref g23, .ref g24, .ref g25, .ref g26, .ref g27, .ref g28, .int 0, .int 0, .int 0, .int 0, .ref g33, .ref g34, .ref g35, .ref g36, .ref g37, .ref g38, .ref g39, .int 0, .ref g41, .ref g42, .int 0, .ref g44, .ref g45]))] := hD.sub [0, 10, 47] (by decide) rfl
  refine lv_aload_n hx hb dL_law_1435 rfl (lv_at hl 3 rfl) ?_
  refine lv_aload_n hx hb dL_law_1436 rfl (lv_at hl 4 rfl) ?_
  refine lv_iload hx hb dL_law_1437 (lv_at hl 0 rfl) ?_
  refine lv_iconst (v := 1) hx hb dL_law_1439 (by decide) ?_
  refine lv_iadd hx hb dL_law_1440 ?_
  refine lv_topi (fun v1 ev1 => ?_)
  obtain rfl : v1 = 1 := by rw [ev1]; decide
  refine va_sld hx hb hX hbl hbA hS (by unfold vp_in; decide) dL_law_1441 ?_
  refine W.eq (g2 := F0 m 1442 ls [.int (xs 1), .ref x]) rfl ?_
  refine lv_aload_n hx hb dL_law_1442 rfl (lv_at hl 4 rfl) ?_
  refine lv_iload hx hb dL_law_1443 (lv_at hl 0 rfl) ?_
  refine lv_iconst (v := 2) hx hb dL_law_1445 (by decide) ?_
  refine lv_iadd hx hb dL_law_1446 ?_
  refine lv_topi (fun v2 ev2 => ?_)
  obtain rfl : v2 = 2 := by rw [ev2]; decide
  refine va_sld hx hb hX hbl hbA hS (by unfold vp_in; decide) dL_law_1447 ?_
  refine W.eq (g2 := F0 m 1448 ls [.int (xs 2), .int (xs 1), .ref x]) rfl ?_
  refine lv_if_eq (tgt := 1455) hx hb dL_law_1448 (by decide) (fun c3 => ?_) (fun c3 => ?_)
  · skip
    refine lv_iconst (v := 0) hx hb dL_law_1455 (by decide) ?_
    refine k_i (va_runV (As := [.int (xs 1), .int 0]) (rest := []) ⟨hx, hb, hml, hown, hts⟩ (f_X7_fewest l D cI cJ H.size x x0 x1 x2 x3 x4 x5 b0 b1 b2 b3 b4 b5 b6 b7 b8 b9 b10 b11 (xs 1) 0) (cwV 2 hts hL_law_X7_fewest rfl rfl rfl (by decide +kernel) ⟨Nat.le_of_ble_eq_true rfl, Nat.le_of_ble_eq_true rfl⟩) (k_preV hE hP hD [0, 1] (by decide) rfl 0 rfl rfl) rfl rfl hl.1 rfl (lv_room (Nat.le_of_ble_eq_true rfl)) dL_law_1456 ⟨Nat.le_of_ble_eq_true rfl, Nat.le_of_ble_eq_true rfl⟩) hP hD hS hA [0, 1] [2] rfl (wr := [(g, .inr (8, [.int 0, .int 0, .ref g2, .ref g3, .ref g4, .ref g5, .ref g6, .ref g7, .ref g8, .ref g9, .ref g10, .int 0, .ref g12, .ref g13, .int 0, .ref g15, .ref g16, .ref g17, .int 0, .ref g19, .ref g20, .ref g21, .ref g22, .ref g23, .ref g24, .ref g25, .ref g26, .ref g27, .ref g28, .int 0, .int 0, .int 0, .int 0, .ref g33, .ref g34, .ref g35, .ref g36, .ref g37, .ref g38, .ref g39, .int 0, .ref g41, .ref g42, .int 0, .ref g44, .ref g45]))]) rfl (by decide) (by decide) (fun r4 u H locs hw5 hP hD hS => ?_)
    obtain ⟨rfl, rfl⟩ := hw5
    have hP : va_P D vwCl [(g, .inr (8, [.int 0, .int 0, .ref g2, .ref g3, .ref g4, .ref g5, .ref g6, .ref g7, .ref g8, .ref g9, .ref g10, .int 0, .ref g12, .ref g13, .int 0, .ref g15, .ref g16, .ref g17, .int 0, .ref g19, .ref g20, .ref g21, .ref g22, .ref g23, .ref g24, .ref g25, .ref g26, .ref g27, .ref g28, .int 0, .int 0, .int 0, .int 0, .ref g33, .ref g34, .ref g35, .ref g36, .ref g37, .ref g38, .ref g39, .int 0, .ref g41, .ref g42, .int 0, .ref g44, .ref g45]))] H := hP
    have hD : va_D (fun q : Nat => s.heap.size ≤ q) [(g, .inr (8, [.int 0, .int 0, .ref g2, .ref g3, .ref g4, .ref g5, .ref g6, .ref g7, .ref g8, .ref g9, .ref g10, .int 0, .ref g12, .ref g13, .int 0, .ref g15, .ref g16, .ref g17, .int 0, .ref g19, .ref g20, .ref g21, .ref g22, .ref g23, .ref g24, .ref g25, .ref g26, .ref g27, .ref g28, .int 0, .int 0, .int 0, .int 0, .ref g33, .ref g34, .ref g35, .ref g36, .ref g37, .ref g38, .ref g39, .int 0, .ref g41, .ref g42, .int 0, .ref g44, .ref g45]))] := hD
    refine lv_aload_n hx hb dL_law_1459 rfl (lv_at hl 2 rfl) ?_
    refine lv_aload_n hx hb dL_law_1460 rfl (lv_at hl 4 rfl) ?_
    refine lv_iload hx hb dL_law_1461 (lv_at hl 0 rfl) ?_
    refine lv_iconst (v := 1) hx hb dL_law_1463 (by decide) ?_
    refine lv_iadd hx hb dL_law_1464 ?_
    refine lv_topi (fun v6 ev6 => ?_)
    obtain rfl : v6 = 1 := by rw [ev6]; decide
    refine va_sld hx hb hX hbl hbA hS (by unfold vp_in; decide) dL_law_1465 ?_
    refine W.eq (g2 := F0 m 1466 ls [.int (xs 1), .ref g, .int (-1)]) rfl ?_
    refine lv_aload_n hx hb dL_law_1466 rfl (lv_at hl 4 rfl) ?_
    refine lv_iload hx hb dL_law_1467 (lv_at hl 0 rfl) ?_
    refine lv_iconst (v := 2) hx hb dL_law_1469 (by decide) ?_
    refine lv_iadd hx hb dL_law_1470 ?_
    refine lv_topi (fun v7 ev7 => ?_)
    obtain rfl : v7 = 2 := by rw [ev7]; decide
    refine va_sld hx hb hX hbl hbA hS (by unfold vp_in; decide) dL_law_1471 ?_
    refine W.eq (g2 := F0 m 1472 ls [.int (xs 2), .int (xs 1), .ref g, .int (-1)]) rfl ?_
    refine lv_if_eq (tgt := 1479) hx hb dL_law_1472 (by decide) (fun _ => ?_) (fun c8 => absurd c3 c8)
    refine lv_iconst (v := 0) hx hb dL_law_1479 (by decide) ?_
    refine k_i (va_runV (As := [.int (xs 1), .int 0]) (rest := [.int (-1)]) ⟨hx, hb, hml, hown, hts⟩ (f_X8_fewest l D cI cJ H.size g g2 g3 g4 g5 g6 g7 g8 g9 g10 g12 g13 g15 g16 g17 g19 g20 g21 g22 g23 g24 g25 g26 g27 g28 g33 g34 g35 g36 g37 g38 g39 g41 g42 g44 g45 (xs 1) 0) (cwV 2 hts hL_law_X8_fewest rfl rfl rfl (by decide +kernel) ⟨Nat.le_of_ble_eq_true rfl, Nat.le_of_ble_eq_true rfl⟩) (k_preV hE hP hD [0] (by decide) rfl 0 rfl rfl) rfl rfl hl.1 rfl (lv_room (Nat.le_of_ble_eq_true rfl)) dL_law_1480 ⟨Nat.le_of_ble_eq_true rfl, Nat.le_of_ble_eq_true rfl⟩) hP hD hS hA [0] [] rfl (wr := []) rfl (by decide) (by decide) (fun r9 u H locs hw10 hP hD hS => ?_)
    obtain ⟨rfl, rfl⟩ := hw10
    have hP : va_P D vwCl [] H := hP
    have hD : va_D (fun q : Nat => s.heap.size ≤ q) [] := hD
    refine lv_icmp_eq (tgt := 1651) hx hb dL_law_1483 (by decide) (fun _ => ?_) (fun c11 => absurd (by decide) c11)
    refine W.widen (k := 90) (n := 1144) (Nat.le_of_ble_eq_true rfl) (Nat.le_of_ble_eq_true rfl) ?_
    exact kend _ _ _ hS (lv_sub hl [0, 1, 2, 3, 4] rfl)
  · skip
    refine lv_iconst (v := 1) hx hb dL_law_1451 (by decide) ?_
    refine lv_goto (tgt := 1456) hx hb dL_law_1452 (by decide) ?_
    refine k_i (va_runV (As := [.int (xs 1), .int 1]) (rest := []) ⟨hx, hb, hml, hown, hts⟩ (f_X7_fewest l D cI cJ H.size x x0 x1 x2 x3 x4 x5 b0 b1 b2 b3 b4 b5 b6 b7 b8 b9 b10 b11 (xs 1) 1) (cwV 2 hts hL_law_X7_fewest rfl rfl rfl (by decide +kernel) ⟨Nat.le_of_ble_eq_true rfl, Nat.le_of_ble_eq_true rfl⟩) (k_preV hE hP hD [0, 1] (by decide) rfl 0 rfl rfl) rfl rfl hl.1 rfl (lv_room (Nat.le_of_ble_eq_true rfl)) dL_law_1456 ⟨Nat.le_of_ble_eq_true rfl, Nat.le_of_ble_eq_true rfl⟩) hP hD hS hA [0, 1] [2] rfl (wr := [(g, .inr (8, [.int 0, .int 0, .ref g2, .ref g3, .ref g4, .ref g5, .ref g6, .ref g7, .ref g8, .ref g9, .ref g10, .int 0, .ref g12, .ref g13, .int 0, .ref g15, .ref g16, .ref g17, .int 0, .ref g19, .ref g20, .ref g21, .ref g22, .ref g23, .ref g24, .ref g25, .ref g26, .ref g27, .ref g28, .int 0, .int 0, .int 0, .int 0, .ref g33, .ref g34, .ref g35, .ref g36, .ref g37, .ref g38, .ref g39, .int 0, .ref g41, .ref g42, .int 0, .ref g44, .ref g45]))]) rfl (by decide) (by decide) (fun r12 u H locs hw13 hP hD hS => ?_)
    obtain ⟨rfl, rfl⟩ := hw13
    have hP : va_P D vwCl [(g, .inr (8, [.int 0, .int 0, .ref g2, .ref g3, .ref g4, .ref g5, .ref g6, .ref g7, .ref g8, .ref g9, .ref g10, .int 0, .ref g12, .ref g13, .int 0, .ref g15, .ref g16, .ref g17, .int 0, .ref g19, .ref g20, .ref g21, .ref g22, .ref g23, .ref g24, .ref g25, .ref g26, .ref g27, .ref g28, .int 0, .int 0, .int 0, .int 0, .ref g33, .ref g34, .ref g35, .ref g36, .ref g37, .ref g38, .ref g39, .int 0, .ref g41, .ref g42, .int 0, .ref g44, .ref g45]))] H := hP
    have hD : va_D (fun q : Nat => s.heap.size ≤ q) [(g, .inr (8, [.int 0, .int 0, .ref g2, .ref g3, .ref g4, .ref g5, .ref g6, .ref g7, .ref g8, .ref g9, .ref g10, .int 0, .ref g12, .ref g13, .int 0, .ref g15, .ref g16, .ref g17, .int 0, .ref g19, .ref g20, .ref g21, .ref g22, .ref g23, .ref g24, .ref g25, .ref g26, .ref g27, .ref g28, .int 0, .int 0, .int 0, .int 0, .ref g33, .ref g34, .ref g35, .ref g36, .ref g37, .ref g38, .ref g39, .int 0, .ref g41, .ref g42, .int 0, .ref g44, .ref g45]))] := hD
    refine lv_aload_n hx hb dL_law_1459 rfl (lv_at hl 2 rfl) ?_
    refine lv_aload_n hx hb dL_law_1460 rfl (lv_at hl 4 rfl) ?_
    refine lv_iload hx hb dL_law_1461 (lv_at hl 0 rfl) ?_
    refine lv_iconst (v := 1) hx hb dL_law_1463 (by decide) ?_
    refine lv_iadd hx hb dL_law_1464 ?_
    refine lv_topi (fun v14 ev14 => ?_)
    obtain rfl : v14 = 1 := by rw [ev14]; decide
    refine va_sld hx hb hX hbl hbA hS (by unfold vp_in; decide) dL_law_1465 ?_
    refine W.eq (g2 := F0 m 1466 ls [.int (xs 1), .ref g, .int (-1)]) rfl ?_
    refine lv_aload_n hx hb dL_law_1466 rfl (lv_at hl 4 rfl) ?_
    refine lv_iload hx hb dL_law_1467 (lv_at hl 0 rfl) ?_
    refine lv_iconst (v := 2) hx hb dL_law_1469 (by decide) ?_
    refine lv_iadd hx hb dL_law_1470 ?_
    refine lv_topi (fun v15 ev15 => ?_)
    obtain rfl : v15 = 2 := by rw [ev15]; decide
    refine va_sld hx hb hX hbl hbA hS (by unfold vp_in; decide) dL_law_1471 ?_
    refine W.eq (g2 := F0 m 1472 ls [.int (xs 2), .int (xs 1), .ref g, .int (-1)]) rfl ?_
    refine lv_if_eq (tgt := 1479) hx hb dL_law_1472 (by decide) (fun c16 => absurd c16 c3) (fun _ => ?_)
    refine lv_iconst (v := 1) hx hb dL_law_1475 (by decide) ?_
    refine lv_goto (tgt := 1480) hx hb dL_law_1476 (by decide) ?_
    refine k_i (va_runV (As := [.int (xs 1), .int 1]) (rest := [.int (-1)]) ⟨hx, hb, hml, hown, hts⟩ (f_X8_fewest l D cI cJ H.size g g2 g3 g4 g5 g6 g7 g8 g9 g10 g12 g13 g15 g16 g17 g19 g20 g21 g22 g23 g24 g25 g26 g27 g28 g33 g34 g35 g36 g37 g38 g39 g41 g42 g44 g45 (xs 1) 1) (cwV 2 hts hL_law_X8_fewest rfl rfl rfl (by decide +kernel) ⟨Nat.le_of_ble_eq_true rfl, Nat.le_of_ble_eq_true rfl⟩) (k_preV hE hP hD [0] (by decide) rfl 0 rfl rfl) rfl rfl hl.1 rfl (lv_room (Nat.le_of_ble_eq_true rfl)) dL_law_1480 ⟨Nat.le_of_ble_eq_true rfl, Nat.le_of_ble_eq_true rfl⟩) hP hD hS hA [0] [] rfl (wr := []) rfl (by decide) (by decide) (fun r17 u H locs hw18 hP hD hS => ?_)
    obtain ⟨rfl, rfl⟩ := hw18
    have hP : va_P D vwCl [] H := hP
    have hD : va_D (fun q : Nat => s.heap.size ≤ q) [] := hD
    refine lv_icmp_eq (tgt := 1651) hx hb dL_law_1483 (by decide) (fun _ => ?_) (fun c19 => absurd (by decide) c19)
    refine W.widen (k := 90) (n := 1144) (Nat.le_of_ble_eq_true rfl) (Nat.le_of_ble_eq_true rfl) ?_
    exact kend _ _ _ hS (lv_sub hl [0, 1, 2, 3, 4] rfl)
set_option maxHeartbeats 4000000 in
set_option maxRecDepth 100000 in
theorem arm_28 {p : Program} {l : Launch} {e : Env} {s : State} {m : MethodId} {below : List Frame} {meth : Method} {c : Code} {b : Nat} {xs : Nat → Int32} {D : va_G} {cI cJ : ClassId} {Q : State → Prop} (C : LC p l s m c b xs D cI cJ) {x x0 x1 x2 x3 x4 x5 s1 s2 s5 s6 s7 s8 s9 s10 s11 b0 b1 b2 b3 b4 b5 b6 b7 b8 b9 b10 b11 w0 w1 w2 w3 w4 w8 d0 d1 d2 y0 y1 c0 c1 c2 c3 c6 c8 z0 z1 g g2 g3 g4 g5 g6 g7 g8 g9 g10 g12 g13 g15 g16 g17 g19 g20 g21 g22 g23 g24 g25 g26 g27 g28 g33 g34 g35 g36 g37 g38 g39 g41 g42 g44 g45 o : Nat} {H : Heap} {locs : List Loc} (hP : va_P D vwCl (LWS cI cJ x x0 x1 x2 x3 x4 x5 s1 s2 s5 s6 s7 s8 s9 s10 s11 b0 b1 b2 b3 b4 b5 b6 b7 b8 b9 b10 b11 w0 w1 w2 w3 w4 w8 d0 d1 d2 y0 y1 c0 c1 c2 c3 c6 c8 z0 z1 g g2 g3 g4 g5 g6 g7 g8 g9 g10 g12 g13 g15 g16 g17 g19 g20 g21 g22 g23 g24 g25 g26 g27 g28 g33 g34 g35 g36 g37 g38 g39 g41 g42 g44 g45 o) H) (hD : va_D (fun q : Nat => s.heap.size ≤ q) (LWS cI cJ x x0 x1 x2 x3 x4 x5 s1 s2 s5 s6 s7 s8 s9 s10 s11 b0 b1 b2 b3 b4 b5 b6 b7 b8 b9 b10 b11 w0 w1 w2 w3 w4 w8 d0 d1 d2 y0 y1 c0 c1 c2 c3 c6 c8 z0 z1 g g2 g3 g4 g5 g6 g7 g8 g9 g10 g12 g13 g15 g16 g17 g19 g20 g21 g22 g23 g24 g25 g26 g27 g28 g33 g34 g35 g36 g37 g38 g39 g41 g42 g44 g45 o)) (hS : va_S (fun q : Nat => s.heap.size ≤ q) s.heap H locs) {ls : Array Slot} (hl : lv_has ls 7 [(4, .int 0), (3, .ref o), (2, .ref g), (1, .ref x), (0, .ref b)])
    (kend : ∀ (H1 : Heap) (locs1 : List Loc) (ls1 : Array Slot), va_S (fun q : Nat => s.heap.size ≤ q) s.heap H1 locs1 → lv_has ls1 7 [(4, .int 0), (3, .ref o), (2, .ref g), (1, .ref x), (0, .ref b)] → W p l e room_1 s m #[Value.ref b] below meth c H1 locs1 90 1144 Q (F0 m 1651 ls1 [])) : W p l e room_1 s m #[Value.ref b] below meth c H locs 84 1104 Q (F0 m 1488 ls []) := by
  obtain ⟨hx, hb, hml, hown, hts, hE, hX, hbl, hXw, hl9⟩ := C
  have hA : ∀ q : Nat, s.heap.size ≤ q → (fun q : Nat => s.heap.size ≤ q) q := fun _ h => h
  have hbA : ¬ (fun q : Nat => s.heap.size ≤ q) b := Nat.not_le.mpr hbl
  have hP : va_P D vwCl [(x, .inr (7, [.ref x0, .ref x1, .ref x2, .ref x3, .ref x4, .ref x5])), (x0, .inr (0, [.ref b0, .ref b1, .ref b2, .ref b3, .ref b4, .ref b5, .ref b6, .ref b7, .ref b8, .ref b9, .ref b10, .ref b11, .int 0, .int 0, .int 0])), (g, .inr (8, [.int 0, .int 0, .ref g2, .ref g3, .ref g4, .ref g5, .ref g6, .ref g7, .ref g8, .ref g9, .ref g10, .int 0, .ref g12, .ref g13, .int 0, .ref g15, .ref g16, .ref g17, .int 0, .ref g19, .ref g20, .ref g21, .ref g22, .ref g23, .ref g24, .ref g25, .ref g26, .ref g27, .ref g28, .int 0, .int 0, .int 0, .int 0, .ref g33, .ref g34, .ref g35, .ref g36, .ref g37, .ref g38, .ref g39, .int 0, .ref g41, .ref g42, .int 0, .ref g44, .ref g45]))] H := k_sub hP [0, 10, 47] rfl
  have hD : va_D (fun q : Nat => s.heap.size ≤ q) [(x, .inr (7, [.ref x0, .ref x1, .ref x2, .ref x3, .ref x4, .ref x5])), (x0, .inr (0, [.ref b0, .ref b1, .ref b2, .ref b3, .ref b4, .ref b5, .ref b6, .ref b7, .ref b8, .ref b9, .ref b10, .ref b11, .int 0, .int 0, .int 0])), (g, .inr (8, [.int 0, .int 0, .ref g2, .ref g3, .ref g4, .ref g5, .ref g6, .ref g7, .ref g8, .ref g9, .ref g10, .int 0, .ref g12, .ref g13, .int 0, .ref g15, .ref g16, .ref g17, .int 0, .ref g19, .ref g20, .ref g21, .ref g22, .ref g23, .ref g24, .ref g25, .ref g26, .ref g27, .ref g28, .int 0, .int 0, .int 0, .int 0, .ref g33, .ref g34, .ref g35, .ref g36, .ref g37, .ref g38, .ref g39, .int 0, .ref g41, .ref g42, .int 0, .ref g44, .ref g45]))] := hD.sub [0, 10, 47] (by decide) rfl
  refine lv_aload_n hx hb dL_law_1488 rfl (lv_at hl 3 rfl) ?_
  refine lv_aload_n hx hb dL_law_1489 rfl (lv_at hl 4 rfl) ?_
  refine lv_iload hx hb dL_law_1490 (lv_at hl 0 rfl) ?_
  refine lv_iconst (v := 1) hx hb dL_law_1492 (by decide) ?_
  refine lv_iadd hx hb dL_law_1493 ?_
  refine lv_topi (fun v1 ev1 => ?_)
  obtain rfl : v1 = 1 := by rw [ev1]; decide
  refine va_sld hx hb hX hbl hbA hS (by unfold vp_in; decide) dL_law_1494 ?_
  refine W.eq (g2 := F0 m 1495 ls [.int (xs 1), .ref x]) rfl ?_
  refine lv_aload_n hx hb dL_law_1495 rfl (lv_at hl 4 rfl) ?_
  refine lv_iload hx hb dL_law_1496 (lv_at hl 0 rfl) ?_
  refine lv_iconst (v := 2) hx hb dL_law_1498 (by decide) ?_
  refine lv_iadd hx hb dL_law_1499 ?_
  refine lv_topi (fun v2 ev2 => ?_)
  obtain rfl : v2 = 2 := by rw [ev2]; decide
  refine va_sld hx hb hX hbl hbA hS (by unfold vp_in; decide) dL_law_1500 ?_
  refine W.eq (g2 := F0 m 1501 ls [.int (xs 2), .int (xs 1), .ref x]) rfl ?_
  refine lv_aload_n hx hb dL_law_1501 rfl (lv_at hl 4 rfl) ?_
  refine lv_iload hx hb dL_law_1502 (lv_at hl 0 rfl) ?_
  refine lv_iconst (v := 3) hx hb dL_law_1504 (by decide) ?_
  refine lv_iadd hx hb dL_law_1505 ?_
  refine lv_topi (fun v3 ev3 => ?_)
  obtain rfl : v3 = 3 := by rw [ev3]; decide
  refine va_sld hx hb hX hbl hbA hS (by unfold vp_in; decide) dL_law_1506 ?_
  refine W.eq (g2 := F0 m 1507 ls [.int (xs 3), .int (xs 2), .int (xs 1), .ref x]) rfl ?_
  refine k_i (va_runV (As := [.int (xs 1), .int (xs 2), .int (xs 3)]) (rest := []) ⟨hx, hb, hml, hown, hts⟩ (f_X7_moved l D cI cJ H.size x x0 x1 x2 x3 x4 x5 b0 b1 b2 b3 b4 b5 b6 b7 b8 b9 b10 b11 (xs 1) (xs 2) (xs 3)) (cwV 3 hts hL_law_X7_moved rfl rfl rfl (by decide +kernel) ⟨Nat.le_of_ble_eq_true rfl, Nat.le_of_ble_eq_true rfl⟩) (k_preV hE hP hD [0, 1] (by decide) rfl 0 rfl rfl) rfl rfl hl.1 rfl (lv_room (Nat.le_of_ble_eq_true rfl)) dL_law_1507 ⟨Nat.le_of_ble_eq_true rfl, Nat.le_of_ble_eq_true rfl⟩) hP hD hS hA [0, 1] [2] rfl (wr := [(g, .inr (8, [.int 0, .int 0, .ref g2, .ref g3, .ref g4, .ref g5, .ref g6, .ref g7, .ref g8, .ref g9, .ref g10, .int 0, .ref g12, .ref g13, .int 0, .ref g15, .ref g16, .ref g17, .int 0, .ref g19, .ref g20, .ref g21, .ref g22, .ref g23, .ref g24, .ref g25, .ref g26, .ref g27, .ref g28, .int 0, .int 0, .int 0, .int 0, .ref g33, .ref g34, .ref g35, .ref g36, .ref g37, .ref g38, .ref g39, .int 0, .ref g41, .ref g42, .int 0, .ref g44, .ref g45]))]) rfl (by decide) (by decide) (fun r4 u H locs hw5 hP hD hS => ?_)
  obtain ⟨rfl, rfl⟩ := hw5
  have hP : va_P D vwCl [(g, .inr (8, [.int 0, .int 0, .ref g2, .ref g3, .ref g4, .ref g5, .ref g6, .ref g7, .ref g8, .ref g9, .ref g10, .int 0, .ref g12, .ref g13, .int 0, .ref g15, .ref g16, .ref g17, .int 0, .ref g19, .ref g20, .ref g21, .ref g22, .ref g23, .ref g24, .ref g25, .ref g26, .ref g27, .ref g28, .int 0, .int 0, .int 0, .int 0, .ref g33, .ref g34, .ref g35, .ref g36, .ref g37, .ref g38, .ref g39, .int 0, .ref g41, .ref g42, .int 0, .ref g44, .ref g45]))] H := hP
  have hD : va_D (fun q : Nat => s.heap.size ≤ q) [(g, .inr (8, [.int 0, .int 0, .ref g2, .ref g3, .ref g4, .ref g5, .ref g6, .ref g7, .ref g8, .ref g9, .ref g10, .int 0, .ref g12, .ref g13, .int 0, .ref g15, .ref g16, .ref g17, .int 0, .ref g19, .ref g20, .ref g21, .ref g22, .ref g23, .ref g24, .ref g25, .ref g26, .ref g27, .ref g28, .int 0, .int 0, .int 0, .int 0, .ref g33, .ref g34, .ref g35, .ref g36, .ref g37, .ref g38, .ref g39, .int 0, .ref g41, .ref g42, .int 0, .ref g44, .ref g45]))] := hD
  refine lv_aload_n hx hb dL_law_1510 rfl (lv_at hl 2 rfl) ?_
  refine lv_aload_n hx hb dL_law_1511 rfl (lv_at hl 4 rfl) ?_
  refine lv_iload hx hb dL_law_1512 (lv_at hl 0 rfl) ?_
  refine lv_iconst (v := 1) hx hb dL_law_1514 (by decide) ?_
  refine lv_iadd hx hb dL_law_1515 ?_
  refine lv_topi (fun v6 ev6 => ?_)
  obtain rfl : v6 = 1 := by rw [ev6]; decide
  refine va_sld hx hb hX hbl hbA hS (by unfold vp_in; decide) dL_law_1516 ?_
  refine W.eq (g2 := F0 m 1517 ls [.int (xs 1), .ref g, .int (-1)]) rfl ?_
  refine lv_aload_n hx hb dL_law_1517 rfl (lv_at hl 4 rfl) ?_
  refine lv_iload hx hb dL_law_1518 (lv_at hl 0 rfl) ?_
  refine lv_iconst (v := 2) hx hb dL_law_1520 (by decide) ?_
  refine lv_iadd hx hb dL_law_1521 ?_
  refine lv_topi (fun v7 ev7 => ?_)
  obtain rfl : v7 = 2 := by rw [ev7]; decide
  refine va_sld hx hb hX hbl hbA hS (by unfold vp_in; decide) dL_law_1522 ?_
  refine W.eq (g2 := F0 m 1523 ls [.int (xs 2), .int (xs 1), .ref g, .int (-1)]) rfl ?_
  refine lv_aload_n hx hb dL_law_1523 rfl (lv_at hl 4 rfl) ?_
  refine lv_iload hx hb dL_law_1524 (lv_at hl 0 rfl) ?_
  refine lv_iconst (v := 3) hx hb dL_law_1526 (by decide) ?_
  refine lv_iadd hx hb dL_law_1527 ?_
  refine lv_topi (fun v8 ev8 => ?_)
  obtain rfl : v8 = 3 := by rw [ev8]; decide
  refine va_sld hx hb hX hbl hbA hS (by unfold vp_in; decide) dL_law_1528 ?_
  refine W.eq (g2 := F0 m 1529 ls [.int (xs 3), .int (xs 2), .int (xs 1), .ref g, .int (-1)]) rfl ?_
  refine k_i (va_runV (As := [.int (xs 1), .int (xs 2), .int (xs 3)]) (rest := [.int (-1)]) ⟨hx, hb, hml, hown, hts⟩ (f_X8_moved l D cI cJ H.size g g2 g3 g4 g5 g6 g7 g8 g9 g10 g12 g13 g15 g16 g17 g19 g20 g21 g22 g23 g24 g25 g26 g27 g28 g33 g34 g35 g36 g37 g38 g39 g41 g42 g44 g45 (xs 1) (xs 2) (xs 3)) (cwV 3 hts hL_law_X8_moved rfl rfl rfl (by decide +kernel) ⟨Nat.le_of_ble_eq_true rfl, Nat.le_of_ble_eq_true rfl⟩) (k_preV hE hP hD [0] (by decide) rfl 0 rfl rfl) rfl rfl hl.1 rfl (lv_room (Nat.le_of_ble_eq_true rfl)) dL_law_1529 ⟨Nat.le_of_ble_eq_true rfl, Nat.le_of_ble_eq_true rfl⟩) hP hD hS hA [0] [] rfl (wr := []) rfl (by decide) (by decide) (fun r9 u H locs hw10 hP hD hS => ?_)
  obtain ⟨rfl, rfl⟩ := hw10
  have hP : va_P D vwCl [] H := hP
  have hD : va_D (fun q : Nat => s.heap.size ≤ q) [] := hD
  refine lv_icmp_eq (tgt := 1651) hx hb dL_law_1532 (by decide) (fun _ => ?_) (fun c11 => absurd (by decide) c11)
  refine W.widen (k := 90) (n := 1144) (Nat.le_of_ble_eq_true rfl) (Nat.le_of_ble_eq_true rfl) ?_
  exact kend _ _ _ hS (lv_sub hl [0, 1, 2, 3, 4] rfl)
set_option maxHeartbeats 4000000 in
set_option maxRecDepth 100000 in
theorem arm_29 {p : Program} {l : Launch} {e : Env} {s : State} {m : MethodId} {below : List Frame} {meth : Method} {c : Code} {b : Nat} {xs : Nat → Int32} {D : va_G} {cI cJ : ClassId} {Q : State → Prop} (C : LC p l s m c b xs D cI cJ) {x x0 x1 x2 x3 x4 x5 s1 s2 s5 s6 s7 s8 s9 s10 s11 b0 b1 b2 b3 b4 b5 b6 b7 b8 b9 b10 b11 w0 w1 w2 w3 w4 w8 d0 d1 d2 y0 y1 c0 c1 c2 c3 c6 c8 z0 z1 g g2 g3 g4 g5 g6 g7 g8 g9 g10 g12 g13 g15 g16 g17 g19 g20 g21 g22 g23 g24 g25 g26 g27 g28 g33 g34 g35 g36 g37 g38 g39 g41 g42 g44 g45 o : Nat} {H : Heap} {locs : List Loc} (hP : va_P D vwCl (LWS cI cJ x x0 x1 x2 x3 x4 x5 s1 s2 s5 s6 s7 s8 s9 s10 s11 b0 b1 b2 b3 b4 b5 b6 b7 b8 b9 b10 b11 w0 w1 w2 w3 w4 w8 d0 d1 d2 y0 y1 c0 c1 c2 c3 c6 c8 z0 z1 g g2 g3 g4 g5 g6 g7 g8 g9 g10 g12 g13 g15 g16 g17 g19 g20 g21 g22 g23 g24 g25 g26 g27 g28 g33 g34 g35 g36 g37 g38 g39 g41 g42 g44 g45 o) H) (hD : va_D (fun q : Nat => s.heap.size ≤ q) (LWS cI cJ x x0 x1 x2 x3 x4 x5 s1 s2 s5 s6 s7 s8 s9 s10 s11 b0 b1 b2 b3 b4 b5 b6 b7 b8 b9 b10 b11 w0 w1 w2 w3 w4 w8 d0 d1 d2 y0 y1 c0 c1 c2 c3 c6 c8 z0 z1 g g2 g3 g4 g5 g6 g7 g8 g9 g10 g12 g13 g15 g16 g17 g19 g20 g21 g22 g23 g24 g25 g26 g27 g28 g33 g34 g35 g36 g37 g38 g39 g41 g42 g44 g45 o)) (hS : va_S (fun q : Nat => s.heap.size ≤ q) s.heap H locs) {ls : Array Slot} (hl : lv_has ls 7 [(4, .int 0), (3, .ref o), (2, .ref g), (1, .ref x), (0, .ref b)])
    (kend : ∀ (H1 : Heap) (locs1 : List Loc) (ls1 : Array Slot), va_S (fun q : Nat => s.heap.size ≤ q) s.heap H1 locs1 → lv_has ls1 7 [(4, .int 0), (3, .ref o), (2, .ref g), (1, .ref x), (0, .ref b)] → W p l e room_1 s m #[Value.ref b] below meth c H1 locs1 90 1144 Q (F0 m 1651 ls1 [])) : W p l e room_1 s m #[Value.ref b] below meth c H locs 84 1104 Q (F0 m 1537 ls []) := by
  obtain ⟨hx, hb, hml, hown, hts, hE, hX, hbl, hXw, hl9⟩ := C
  have hA : ∀ q : Nat, s.heap.size ≤ q → (fun q : Nat => s.heap.size ≤ q) q := fun _ h => h
  have hbA : ¬ (fun q : Nat => s.heap.size ≤ q) b := Nat.not_le.mpr hbl
  have hP : va_P D vwCl [(x, .inr (7, [.ref x0, .ref x1, .ref x2, .ref x3, .ref x4, .ref x5])), (x0, .inr (0, [.ref b0, .ref b1, .ref b2, .ref b3, .ref b4, .ref b5, .ref b6, .ref b7, .ref b8, .ref b9, .ref b10, .ref b11, .int 0, .int 0, .int 0])), (g, .inr (8, [.int 0, .int 0, .ref g2, .ref g3, .ref g4, .ref g5, .ref g6, .ref g7, .ref g8, .ref g9, .ref g10, .int 0, .ref g12, .ref g13, .int 0, .ref g15, .ref g16, .ref g17, .int 0, .ref g19, .ref g20, .ref g21, .ref g22, .ref g23, .ref g24, .ref g25, .ref g26, .ref g27, .ref g28, .int 0, .int 0, .int 0, .int 0, .ref g33, .ref g34, .ref g35, .ref g36, .ref g37, .ref g38, .ref g39, .int 0, .ref g41, .ref g42, .int 0, .ref g44, .ref g45]))] H := k_sub hP [0, 10, 47] rfl
  have hD : va_D (fun q : Nat => s.heap.size ≤ q) [(x, .inr (7, [.ref x0, .ref x1, .ref x2, .ref x3, .ref x4, .ref x5])), (x0, .inr (0, [.ref b0, .ref b1, .ref b2, .ref b3, .ref b4, .ref b5, .ref b6, .ref b7, .ref b8, .ref b9, .ref b10, .ref b11, .int 0, .int 0, .int 0])), (g, .inr (8, [.int 0, .int 0, .ref g2, .ref g3, .ref g4, .ref g5, .ref g6, .ref g7, .ref g8, .ref g9, .ref g10, .int 0, .ref g12, .ref g13, .int 0, .ref g15, .ref g16, .ref g17, .int 0, .ref g19, .ref g20, .ref g21, .ref g22, .ref g23, .ref g24, .ref g25, .ref g26, .ref g27, .ref g28, .int 0, .int 0, .int 0, .int 0, .ref g33, .ref g34, .ref g35, .ref g36, .ref g37, .ref g38, .ref g39, .int 0, .ref g41, .ref g42, .int 0, .ref g44, .ref g45]))] := hD.sub [0, 10, 47] (by decide) rfl
  refine lv_aload_n hx hb dL_law_1537 rfl (lv_at hl 3 rfl) ?_
  refine lv_aload_n hx hb dL_law_1538 rfl (lv_at hl 4 rfl) ?_
  refine lv_iload hx hb dL_law_1539 (lv_at hl 0 rfl) ?_
  refine lv_iconst (v := 1) hx hb dL_law_1541 (by decide) ?_
  refine lv_iadd hx hb dL_law_1542 ?_
  refine lv_topi (fun v1 ev1 => ?_)
  obtain rfl : v1 = 1 := by rw [ev1]; decide
  refine va_sld hx hb hX hbl hbA hS (by unfold vp_in; decide) dL_law_1543 ?_
  refine W.eq (g2 := F0 m 1544 ls [.int (xs 1), .ref x]) rfl ?_
  refine lv_aload_n hx hb dL_law_1544 rfl (lv_at hl 4 rfl) ?_
  refine lv_iload hx hb dL_law_1545 (lv_at hl 0 rfl) ?_
  refine lv_iconst (v := 2) hx hb dL_law_1547 (by decide) ?_
  refine lv_iadd hx hb dL_law_1548 ?_
  refine lv_topi (fun v2 ev2 => ?_)
  obtain rfl : v2 = 2 := by rw [ev2]; decide
  refine va_sld hx hb hX hbl hbA hS (by unfold vp_in; decide) dL_law_1549 ?_
  refine W.eq (g2 := F0 m 1550 ls [.int (xs 2), .int (xs 1), .ref x]) rfl ?_
  refine lv_aload_n hx hb dL_law_1550 rfl (lv_at hl 4 rfl) ?_
  refine lv_iload hx hb dL_law_1551 (lv_at hl 0 rfl) ?_
  refine lv_iconst (v := 3) hx hb dL_law_1553 (by decide) ?_
  refine lv_iadd hx hb dL_law_1554 ?_
  refine lv_topi (fun v3 ev3 => ?_)
  obtain rfl : v3 = 3 := by rw [ev3]; decide
  refine va_sld hx hb hX hbl hbA hS (by unfold vp_in; decide) dL_law_1555 ?_
  refine W.eq (g2 := F0 m 1556 ls [.int (xs 3), .int (xs 2), .int (xs 1), .ref x]) rfl ?_
  refine k_i (va_runV (As := [.int (xs 1), .int (xs 2), .int (xs 3)]) (rest := []) ⟨hx, hb, hml, hown, hts⟩ (f_X7_file l D cI cJ H.size x x0 x1 x2 x3 x4 x5 b0 b1 b2 b3 b4 b5 b6 b7 b8 b9 b10 b11 (xs 1) (xs 2) (xs 3)) (cwV 3 hts hL_law_X7_file rfl rfl rfl (by decide +kernel) ⟨Nat.le_of_ble_eq_true rfl, Nat.le_of_ble_eq_true rfl⟩) (k_preV hE hP hD [0, 1] (by decide) rfl 0 rfl rfl) rfl rfl hl.1 rfl (lv_room (Nat.le_of_ble_eq_true rfl)) dL_law_1556 ⟨Nat.le_of_ble_eq_true rfl, Nat.le_of_ble_eq_true rfl⟩) hP hD hS hA [0, 1] [2] rfl (wr := [(g, .inr (8, [.int 0, .int 0, .ref g2, .ref g3, .ref g4, .ref g5, .ref g6, .ref g7, .ref g8, .ref g9, .ref g10, .int 0, .ref g12, .ref g13, .int 0, .ref g15, .ref g16, .ref g17, .int 0, .ref g19, .ref g20, .ref g21, .ref g22, .ref g23, .ref g24, .ref g25, .ref g26, .ref g27, .ref g28, .int 0, .int 0, .int 0, .int 0, .ref g33, .ref g34, .ref g35, .ref g36, .ref g37, .ref g38, .ref g39, .int 0, .ref g41, .ref g42, .int 0, .ref g44, .ref g45]))]) rfl (by decide) (by decide) (fun r4 u H locs hw5 hP hD hS => ?_)
  obtain ⟨rfl, rfl⟩ := hw5
  have hP : va_P D vwCl [(g, .inr (8, [.int 0, .int 0, .ref g2, .ref g3, .ref g4, .ref g5, .ref g6, .ref g7, .ref g8, .ref g9, .ref g10, .int 0, .ref g12, .ref g13, .int 0, .ref g15, .ref g16, .ref g17, .int 0, .ref g19, .ref g20, .ref g21, .ref g22, .ref g23, .ref g24, .ref g25, .ref g26, .ref g27, .ref g28, .int 0, .int 0, .int 0, .int 0, .ref g33, .ref g34, .ref g35, .ref g36, .ref g37, .ref g38, .ref g39, .int 0, .ref g41, .ref g42, .int 0, .ref g44, .ref g45]))] H := hP
  have hD : va_D (fun q : Nat => s.heap.size ≤ q) [(g, .inr (8, [.int 0, .int 0, .ref g2, .ref g3, .ref g4, .ref g5, .ref g6, .ref g7, .ref g8, .ref g9, .ref g10, .int 0, .ref g12, .ref g13, .int 0, .ref g15, .ref g16, .ref g17, .int 0, .ref g19, .ref g20, .ref g21, .ref g22, .ref g23, .ref g24, .ref g25, .ref g26, .ref g27, .ref g28, .int 0, .int 0, .int 0, .int 0, .ref g33, .ref g34, .ref g35, .ref g36, .ref g37, .ref g38, .ref g39, .int 0, .ref g41, .ref g42, .int 0, .ref g44, .ref g45]))] := hD
  refine lv_aload_n hx hb dL_law_1559 rfl (lv_at hl 2 rfl) ?_
  refine lv_aload_n hx hb dL_law_1560 rfl (lv_at hl 4 rfl) ?_
  refine lv_iload hx hb dL_law_1561 (lv_at hl 0 rfl) ?_
  refine lv_iconst (v := 1) hx hb dL_law_1563 (by decide) ?_
  refine lv_iadd hx hb dL_law_1564 ?_
  refine lv_topi (fun v6 ev6 => ?_)
  obtain rfl : v6 = 1 := by rw [ev6]; decide
  refine va_sld hx hb hX hbl hbA hS (by unfold vp_in; decide) dL_law_1565 ?_
  refine W.eq (g2 := F0 m 1566 ls [.int (xs 1), .ref g, .int (-1)]) rfl ?_
  refine lv_aload_n hx hb dL_law_1566 rfl (lv_at hl 4 rfl) ?_
  refine lv_iload hx hb dL_law_1567 (lv_at hl 0 rfl) ?_
  refine lv_iconst (v := 2) hx hb dL_law_1569 (by decide) ?_
  refine lv_iadd hx hb dL_law_1570 ?_
  refine lv_topi (fun v7 ev7 => ?_)
  obtain rfl : v7 = 2 := by rw [ev7]; decide
  refine va_sld hx hb hX hbl hbA hS (by unfold vp_in; decide) dL_law_1571 ?_
  refine W.eq (g2 := F0 m 1572 ls [.int (xs 2), .int (xs 1), .ref g, .int (-1)]) rfl ?_
  refine lv_aload_n hx hb dL_law_1572 rfl (lv_at hl 4 rfl) ?_
  refine lv_iload hx hb dL_law_1573 (lv_at hl 0 rfl) ?_
  refine lv_iconst (v := 3) hx hb dL_law_1575 (by decide) ?_
  refine lv_iadd hx hb dL_law_1576 ?_
  refine lv_topi (fun v8 ev8 => ?_)
  obtain rfl : v8 = 3 := by rw [ev8]; decide
  refine va_sld hx hb hX hbl hbA hS (by unfold vp_in; decide) dL_law_1577 ?_
  refine W.eq (g2 := F0 m 1578 ls [.int (xs 3), .int (xs 2), .int (xs 1), .ref g, .int (-1)]) rfl ?_
  refine k_i (va_runV (As := [.int (xs 1), .int (xs 2), .int (xs 3)]) (rest := [.int (-1)]) ⟨hx, hb, hml, hown, hts⟩ (f_X8_file l D cI cJ H.size g g2 g3 g4 g5 g6 g7 g8 g9 g10 g12 g13 g15 g16 g17 g19 g20 g21 g22 g23 g24 g25 g26 g27 g28 g33 g34 g35 g36 g37 g38 g39 g41 g42 g44 g45 (xs 1) (xs 2) (xs 3)) (cwV 3 hts hL_law_X8_file rfl rfl rfl (by decide +kernel) ⟨Nat.le_of_ble_eq_true rfl, Nat.le_of_ble_eq_true rfl⟩) (k_preV hE hP hD [0] (by decide) rfl 0 rfl rfl) rfl rfl hl.1 rfl (lv_room (Nat.le_of_ble_eq_true rfl)) dL_law_1578 ⟨Nat.le_of_ble_eq_true rfl, Nat.le_of_ble_eq_true rfl⟩) hP hD hS hA [0] [] rfl (wr := []) rfl (by decide) (by decide) (fun r9 u H locs hw10 hP hD hS => ?_)
  obtain ⟨rfl, rfl⟩ := hw10
  have hP : va_P D vwCl [] H := hP
  have hD : va_D (fun q : Nat => s.heap.size ≤ q) [] := hD
  refine lv_icmp_eq (tgt := 1651) hx hb dL_law_1581 (by decide) (fun _ => ?_) (fun c11 => absurd (by decide) c11)
  refine W.widen (k := 90) (n := 1144) (Nat.le_of_ble_eq_true rfl) (Nat.le_of_ble_eq_true rfl) ?_
  exact kend _ _ _ hS (lv_sub hl [0, 1, 2, 3, 4] rfl)
set_option maxHeartbeats 4000000 in
set_option maxRecDepth 100000 in
theorem arm_30 {p : Program} {l : Launch} {e : Env} {s : State} {m : MethodId} {below : List Frame} {meth : Method} {c : Code} {b : Nat} {xs : Nat → Int32} {D : va_G} {cI cJ : ClassId} {Q : State → Prop} (C : LC p l s m c b xs D cI cJ) {x x0 x1 x2 x3 x4 x5 s1 s2 s5 s6 s7 s8 s9 s10 s11 b0 b1 b2 b3 b4 b5 b6 b7 b8 b9 b10 b11 w0 w1 w2 w3 w4 w8 d0 d1 d2 y0 y1 c0 c1 c2 c3 c6 c8 z0 z1 g g2 g3 g4 g5 g6 g7 g8 g9 g10 g12 g13 g15 g16 g17 g19 g20 g21 g22 g23 g24 g25 g26 g27 g28 g33 g34 g35 g36 g37 g38 g39 g41 g42 g44 g45 o : Nat} {H : Heap} {locs : List Loc} (hP : va_P D vwCl (LWS cI cJ x x0 x1 x2 x3 x4 x5 s1 s2 s5 s6 s7 s8 s9 s10 s11 b0 b1 b2 b3 b4 b5 b6 b7 b8 b9 b10 b11 w0 w1 w2 w3 w4 w8 d0 d1 d2 y0 y1 c0 c1 c2 c3 c6 c8 z0 z1 g g2 g3 g4 g5 g6 g7 g8 g9 g10 g12 g13 g15 g16 g17 g19 g20 g21 g22 g23 g24 g25 g26 g27 g28 g33 g34 g35 g36 g37 g38 g39 g41 g42 g44 g45 o) H) (hD : va_D (fun q : Nat => s.heap.size ≤ q) (LWS cI cJ x x0 x1 x2 x3 x4 x5 s1 s2 s5 s6 s7 s8 s9 s10 s11 b0 b1 b2 b3 b4 b5 b6 b7 b8 b9 b10 b11 w0 w1 w2 w3 w4 w8 d0 d1 d2 y0 y1 c0 c1 c2 c3 c6 c8 z0 z1 g g2 g3 g4 g5 g6 g7 g8 g9 g10 g12 g13 g15 g16 g17 g19 g20 g21 g22 g23 g24 g25 g26 g27 g28 g33 g34 g35 g36 g37 g38 g39 g41 g42 g44 g45 o)) (hS : va_S (fun q : Nat => s.heap.size ≤ q) s.heap H locs) {ls : Array Slot} (hl : lv_has ls 7 [(4, .int 0), (3, .ref o), (2, .ref g), (1, .ref x), (0, .ref b)])
    (kend : ∀ (H1 : Heap) (locs1 : List Loc) (ls1 : Array Slot), va_S (fun q : Nat => s.heap.size ≤ q) s.heap H1 locs1 → lv_has ls1 7 [(4, .int 0), (3, .ref o), (2, .ref g), (1, .ref x), (0, .ref b)] → W p l e room_1 s m #[Value.ref b] below meth c H1 locs1 90 1144 Q (F0 m 1651 ls1 [])) : W p l e room_1 s m #[Value.ref b] below meth c H locs 84 1104 Q (F0 m 1586 ls []) := by
  obtain ⟨hx, hb, hml, hown, hts, hE, hX, hbl, hXw, hl9⟩ := C
  have hA : ∀ q : Nat, s.heap.size ≤ q → (fun q : Nat => s.heap.size ≤ q) q := fun _ h => h
  have hbA : ¬ (fun q : Nat => s.heap.size ≤ q) b := Nat.not_le.mpr hbl
  have hP : va_P D vwCl [(x, .inr (7, [.ref x0, .ref x1, .ref x2, .ref x3, .ref x4, .ref x5])), (x4, .inr (3, [.ref z0, .ref z1])), (z0, .inl (cI, 32, .inl (fl 32 (-1) (fun _ => 0)))), (g, .inr (8, [.int 0, .int 0, .ref g2, .ref g3, .ref g4, .ref g5, .ref g6, .ref g7, .ref g8, .ref g9, .ref g10, .int 0, .ref g12, .ref g13, .int 0, .ref g15, .ref g16, .ref g17, .int 0, .ref g19, .ref g20, .ref g21, .ref g22, .ref g23, .ref g24, .ref g25, .ref g26, .ref g27, .ref g28, .int 0, .int 0, .int 0, .int 0, .ref g33, .ref g34, .ref g35, .ref g36, .ref g37, .ref g38, .ref g39, .int 0, .ref g41, .ref g42, .int 0, .ref g44, .ref g45])), (g16, .inl (cI, 32, .inl (fun _ => 0)))] H := k_sub hP [0, 44, 45, 47, 60] rfl
  have hD : va_D (fun q : Nat => s.heap.size ≤ q) [(x, .inr (7, [.ref x0, .ref x1, .ref x2, .ref x3, .ref x4, .ref x5])), (x4, .inr (3, [.ref z0, .ref z1])), (z0, .inl (cI, 32, .inl (fl 32 (-1) (fun _ => 0)))), (g, .inr (8, [.int 0, .int 0, .ref g2, .ref g3, .ref g4, .ref g5, .ref g6, .ref g7, .ref g8, .ref g9, .ref g10, .int 0, .ref g12, .ref g13, .int 0, .ref g15, .ref g16, .ref g17, .int 0, .ref g19, .ref g20, .ref g21, .ref g22, .ref g23, .ref g24, .ref g25, .ref g26, .ref g27, .ref g28, .int 0, .int 0, .int 0, .int 0, .ref g33, .ref g34, .ref g35, .ref g36, .ref g37, .ref g38, .ref g39, .int 0, .ref g41, .ref g42, .int 0, .ref g44, .ref g45])), (g16, .inl (cI, 32, .inl (fun _ => 0)))] := hD.sub [0, 44, 45, 47, 60] (by decide) rfl
  refine lv_aload_n hx hb dL_law_1586 rfl (lv_at hl 3 rfl) ?_
  refine lv_aload_n hx hb dL_law_1587 rfl (lv_at hl 4 rfl) ?_
  refine lv_iload hx hb dL_law_1588 (lv_at hl 0 rfl) ?_
  refine lv_iconst (v := 1) hx hb dL_law_1590 (by decide) ?_
  refine lv_iadd hx hb dL_law_1591 ?_
  refine lv_topi (fun v1 ev1 => ?_)
  obtain rfl : v1 = 1 := by rw [ev1]; decide
  refine va_sld hx hb hX hbl hbA hS (by unfold vp_in; decide) dL_law_1592 ?_
  refine W.eq (g2 := F0 m 1593 ls [.int (xs 1), .ref x]) rfl ?_
  refine lv_aload_n hx hb dL_law_1593 rfl (lv_at hl 4 rfl) ?_
  refine lv_iload hx hb dL_law_1594 (lv_at hl 0 rfl) ?_
  refine lv_iconst (v := 2) hx hb dL_law_1596 (by decide) ?_
  refine lv_iadd hx hb dL_law_1597 ?_
  refine lv_topi (fun v2 ev2 => ?_)
  obtain rfl : v2 = 2 := by rw [ev2]; decide
  refine va_sld hx hb hX hbl hbA hS (by unfold vp_in; decide) dL_law_1598 ?_
  refine W.eq (g2 := F0 m 1599 ls [.int (xs 2), .int (xs 1), .ref x]) rfl ?_
  refine lv_aload_n hx hb dL_law_1599 rfl (lv_at hl 4 rfl) ?_
  refine lv_iload hx hb dL_law_1600 (lv_at hl 0 rfl) ?_
  refine lv_iconst (v := 3) hx hb dL_law_1602 (by decide) ?_
  refine lv_iadd hx hb dL_law_1603 ?_
  refine lv_topi (fun v3 ev3 => ?_)
  obtain rfl : v3 = 3 := by rw [ev3]; decide
  refine va_sld hx hb hX hbl hbA hS (by unfold vp_in; decide) dL_law_1604 ?_
  refine W.eq (g2 := F0 m 1605 ls [.int (xs 3), .int (xs 2), .int (xs 1), .ref x]) rfl ?_
  refine lv_if_eq (tgt := 1612) hx hb dL_law_1605 (by decide) (fun c4 => ?_) (fun c4 => ?_)
  · skip
    refine lv_iconst (v := 0) hx hb dL_law_1612 (by decide) ?_
    refine k_i (va_runV (As := [.int (xs 1), .int (xs 2), .int 0]) (rest := []) ⟨hx, hb, hml, hown, hts⟩ (f_X7_filed l D cI cJ H.size x x0 x1 x2 x3 x4 x5 z0 z1 (xs 1) (xs 2) 0) (cwV 3 hts hL_law_X7_filed rfl rfl rfl (by decide +kernel) ⟨Nat.le_of_ble_eq_true rfl, Nat.le_of_ble_eq_true rfl⟩) (k_preV hE hP hD [0, 1, 2] (by decide) rfl 0 rfl rfl) rfl rfl hl.1 rfl (lv_room (Nat.le_of_ble_eq_true rfl)) dL_law_1613 ⟨Nat.le_of_ble_eq_true rfl, Nat.le_of_ble_eq_true rfl⟩) hP hD hS hA [0, 1, 2] [3, 4] rfl (wr := [(g, .inr (8, [.int 0, .int 0, .ref g2, .ref g3, .ref g4, .ref g5, .ref g6, .ref g7, .ref g8, .ref g9, .ref g10, .int 0, .ref g12, .ref g13, .int 0, .ref g15, .ref g16, .ref g17, .int 0, .ref g19, .ref g20, .ref g21, .ref g22, .ref g23, .ref g24, .ref g25, .ref g26, .ref g27, .ref g28, .int 0, .int 0, .int 0, .int 0, .ref g33, .ref g34, .ref g35, .ref g36, .ref g37, .ref g38, .ref g39, .int 0, .ref g41, .ref g42, .int 0, .ref g44, .ref g45])), (g16, .inl (cI, 32, .inl (fun _ => 0)))]) rfl (by decide) (by decide) (fun r5 u H locs hw6 hP hD hS => ?_)
    obtain ⟨hw6, rfl⟩ := hw6
    have hP : va_P D vwCl [(g, .inr (8, [.int 0, .int 0, .ref g2, .ref g3, .ref g4, .ref g5, .ref g6, .ref g7, .ref g8, .ref g9, .ref g10, .int 0, .ref g12, .ref g13, .int 0, .ref g15, .ref g16, .ref g17, .int 0, .ref g19, .ref g20, .ref g21, .ref g22, .ref g23, .ref g24, .ref g25, .ref g26, .ref g27, .ref g28, .int 0, .int 0, .int 0, .int 0, .ref g33, .ref g34, .ref g35, .ref g36, .ref g37, .ref g38, .ref g39, .int 0, .ref g41, .ref g42, .int 0, .ref g44, .ref g45])), (g16, .inl (cI, 32, .inl (fun _ => 0)))] H := hP
    have hD : va_D (fun q : Nat => s.heap.size ≤ q) [(g, .inr (8, [.int 0, .int 0, .ref g2, .ref g3, .ref g4, .ref g5, .ref g6, .ref g7, .ref g8, .ref g9, .ref g10, .int 0, .ref g12, .ref g13, .int 0, .ref g15, .ref g16, .ref g17, .int 0, .ref g19, .ref g20, .ref g21, .ref g22, .ref g23, .ref g24, .ref g25, .ref g26, .ref g27, .ref g28, .int 0, .int 0, .int 0, .int 0, .ref g33, .ref g34, .ref g35, .ref g36, .ref g37, .ref g38, .ref g39, .int 0, .ref g41, .ref g42, .int 0, .ref g44, .ref g45])), (g16, .inl (cI, 32, .inl (fun _ => 0)))] := hD
    refine lv_aload_n hx hb dL_law_1616 rfl (lv_at hl 2 rfl) ?_
    refine lv_aload_n hx hb dL_law_1617 rfl (lv_at hl 4 rfl) ?_
    refine lv_iload hx hb dL_law_1618 (lv_at hl 0 rfl) ?_
    refine lv_iconst (v := 1) hx hb dL_law_1620 (by decide) ?_
    refine lv_iadd hx hb dL_law_1621 ?_
    refine lv_topi (fun v7 ev7 => ?_)
    obtain rfl : v7 = 1 := by rw [ev7]; decide
    refine va_sld hx hb hX hbl hbA hS (by unfold vp_in; decide) dL_law_1622 ?_
    refine W.eq (g2 := F0 m 1623 ls [.int (xs 1), .ref g, .int r5]) rfl ?_
    refine lv_aload_n hx hb dL_law_1623 rfl (lv_at hl 4 rfl) ?_
    refine lv_iload hx hb dL_law_1624 (lv_at hl 0 rfl) ?_
    refine lv_iconst (v := 2) hx hb dL_law_1626 (by decide) ?_
    refine lv_iadd hx hb dL_law_1627 ?_
    refine lv_topi (fun v8 ev8 => ?_)
    obtain rfl : v8 = 2 := by rw [ev8]; decide
    refine va_sld hx hb hX hbl hbA hS (by unfold vp_in; decide) dL_law_1628 ?_
    refine W.eq (g2 := F0 m 1629 ls [.int (xs 2), .int (xs 1), .ref g, .int r5]) rfl ?_
    refine lv_aload_n hx hb dL_law_1629 rfl (lv_at hl 4 rfl) ?_
    refine lv_iload hx hb dL_law_1630 (lv_at hl 0 rfl) ?_
    refine lv_iconst (v := 3) hx hb dL_law_1632 (by decide) ?_
    refine lv_iadd hx hb dL_law_1633 ?_
    refine lv_topi (fun v9 ev9 => ?_)
    obtain rfl : v9 = 3 := by rw [ev9]; decide
    refine va_sld hx hb hX hbl hbA hS (by unfold vp_in; decide) dL_law_1634 ?_
    refine W.eq (g2 := F0 m 1635 ls [.int (xs 3), .int (xs 2), .int (xs 1), .ref g, .int r5]) rfl ?_
    refine lv_if_eq (tgt := 1642) hx hb dL_law_1635 (by decide) (fun _ => ?_) (fun c10 => absurd c4 c10)
    refine lv_iconst (v := 0) hx hb dL_law_1642 (by decide) ?_
    refine k_i (va_runV (As := [.int (xs 1), .int (xs 2), .int 0]) (rest := [.int r5]) ⟨hx, hb, hml, hown, hts⟩ (f_X8_filed l D cI cJ H.size g g2 g3 g4 g5 g6 g7 g8 g9 g10 g12 g13 g15 g16 g17 g19 g20 g21 g22 g23 g24 g25 g26 g27 g28 g33 g34 g35 g36 g37 g38 g39 g41 g42 g44 g45 (xs 1) (xs 2) 0) (cwV 3 hts hL_law_X8_filed rfl rfl rfl (by decide +kernel) ⟨Nat.le_of_ble_eq_true rfl, Nat.le_of_ble_eq_true rfl⟩) (k_preV hE hP hD [0, 1] (by decide) rfl 0 rfl rfl) rfl rfl hl.1 rfl (lv_room (Nat.le_of_ble_eq_true rfl)) dL_law_1643 ⟨Nat.le_of_ble_eq_true rfl, Nat.le_of_ble_eq_true rfl⟩) hP hD hS hA [0, 1] [] rfl (wr := []) rfl (by decide) (by decide) (fun r11 u H locs hw12 hP hD hS => ?_)
    obtain ⟨hw12, rfl⟩ := hw12
    have hP : va_P D vwCl [] H := hP
    have hD : va_D (fun q : Nat => s.heap.size ≤ q) [] := hD
    refine lv_icmp_eq (tgt := 1651) hx hb dL_law_1646 (by decide) (fun _ => ?_) (fun c13 => absurd (hw6.trans hw12.symm) c13)
    refine W.widen (k := 90) (n := 1144) (Nat.le_of_ble_eq_true rfl) (Nat.le_of_ble_eq_true rfl) ?_
    exact kend _ _ _ hS (lv_sub hl [0, 1, 2, 3, 4] rfl)
  · skip
    refine lv_iconst (v := 1) hx hb dL_law_1608 (by decide) ?_
    refine lv_goto (tgt := 1613) hx hb dL_law_1609 (by decide) ?_
    refine k_i (va_runV (As := [.int (xs 1), .int (xs 2), .int 1]) (rest := []) ⟨hx, hb, hml, hown, hts⟩ (f_X7_filed l D cI cJ H.size x x0 x1 x2 x3 x4 x5 z0 z1 (xs 1) (xs 2) 1) (cwV 3 hts hL_law_X7_filed rfl rfl rfl (by decide +kernel) ⟨Nat.le_of_ble_eq_true rfl, Nat.le_of_ble_eq_true rfl⟩) (k_preV hE hP hD [0, 1, 2] (by decide) rfl 0 rfl rfl) rfl rfl hl.1 rfl (lv_room (Nat.le_of_ble_eq_true rfl)) dL_law_1613 ⟨Nat.le_of_ble_eq_true rfl, Nat.le_of_ble_eq_true rfl⟩) hP hD hS hA [0, 1, 2] [3, 4] rfl (wr := [(g, .inr (8, [.int 0, .int 0, .ref g2, .ref g3, .ref g4, .ref g5, .ref g6, .ref g7, .ref g8, .ref g9, .ref g10, .int 0, .ref g12, .ref g13, .int 0, .ref g15, .ref g16, .ref g17, .int 0, .ref g19, .ref g20, .ref g21, .ref g22, .ref g23, .ref g24, .ref g25, .ref g26, .ref g27, .ref g28, .int 0, .int 0, .int 0, .int 0, .ref g33, .ref g34, .ref g35, .ref g36, .ref g37, .ref g38, .ref g39, .int 0, .ref g41, .ref g42, .int 0, .ref g44, .ref g45])), (g16, .inl (cI, 32, .inl (fun _ => 0)))]) rfl (by decide) (by decide) (fun r14 u H locs hw15 hP hD hS => ?_)
    obtain ⟨hw15, rfl⟩ := hw15
    have hP : va_P D vwCl [(g, .inr (8, [.int 0, .int 0, .ref g2, .ref g3, .ref g4, .ref g5, .ref g6, .ref g7, .ref g8, .ref g9, .ref g10, .int 0, .ref g12, .ref g13, .int 0, .ref g15, .ref g16, .ref g17, .int 0, .ref g19, .ref g20, .ref g21, .ref g22, .ref g23, .ref g24, .ref g25, .ref g26, .ref g27, .ref g28, .int 0, .int 0, .int 0, .int 0, .ref g33, .ref g34, .ref g35, .ref g36, .ref g37, .ref g38, .ref g39, .int 0, .ref g41, .ref g42, .int 0, .ref g44, .ref g45])), (g16, .inl (cI, 32, .inl (fun _ => 0)))] H := hP
    have hD : va_D (fun q : Nat => s.heap.size ≤ q) [(g, .inr (8, [.int 0, .int 0, .ref g2, .ref g3, .ref g4, .ref g5, .ref g6, .ref g7, .ref g8, .ref g9, .ref g10, .int 0, .ref g12, .ref g13, .int 0, .ref g15, .ref g16, .ref g17, .int 0, .ref g19, .ref g20, .ref g21, .ref g22, .ref g23, .ref g24, .ref g25, .ref g26, .ref g27, .ref g28, .int 0, .int 0, .int 0, .int 0, .ref g33, .ref g34, .ref g35, .ref g36, .ref g37, .ref g38, .ref g39, .int 0, .ref g41, .ref g42, .int 0, .ref g44, .ref g45])), (g16, .inl (cI, 32, .inl (fun _ => 0)))] := hD
    refine lv_aload_n hx hb dL_law_1616 rfl (lv_at hl 2 rfl) ?_
    refine lv_aload_n hx hb dL_law_1617 rfl (lv_at hl 4 rfl) ?_
    refine lv_iload hx hb dL_law_1618 (lv_at hl 0 rfl) ?_
    refine lv_iconst (v := 1) hx hb dL_law_1620 (by decide) ?_
    refine lv_iadd hx hb dL_law_1621 ?_
    refine lv_topi (fun v16 ev16 => ?_)
    obtain rfl : v16 = 1 := by rw [ev16]; decide
    refine va_sld hx hb hX hbl hbA hS (by unfold vp_in; decide) dL_law_1622 ?_
    refine W.eq (g2 := F0 m 1623 ls [.int (xs 1), .ref g, .int r14]) rfl ?_
    refine lv_aload_n hx hb dL_law_1623 rfl (lv_at hl 4 rfl) ?_
    refine lv_iload hx hb dL_law_1624 (lv_at hl 0 rfl) ?_
    refine lv_iconst (v := 2) hx hb dL_law_1626 (by decide) ?_
    refine lv_iadd hx hb dL_law_1627 ?_
    refine lv_topi (fun v17 ev17 => ?_)
    obtain rfl : v17 = 2 := by rw [ev17]; decide
    refine va_sld hx hb hX hbl hbA hS (by unfold vp_in; decide) dL_law_1628 ?_
    refine W.eq (g2 := F0 m 1629 ls [.int (xs 2), .int (xs 1), .ref g, .int r14]) rfl ?_
    refine lv_aload_n hx hb dL_law_1629 rfl (lv_at hl 4 rfl) ?_
    refine lv_iload hx hb dL_law_1630 (lv_at hl 0 rfl) ?_
    refine lv_iconst (v := 3) hx hb dL_law_1632 (by decide) ?_
    refine lv_iadd hx hb dL_law_1633 ?_
    refine lv_topi (fun v18 ev18 => ?_)
    obtain rfl : v18 = 3 := by rw [ev18]; decide
    refine va_sld hx hb hX hbl hbA hS (by unfold vp_in; decide) dL_law_1634 ?_
    refine W.eq (g2 := F0 m 1635 ls [.int (xs 3), .int (xs 2), .int (xs 1), .ref g, .int r14]) rfl ?_
    refine lv_if_eq (tgt := 1642) hx hb dL_law_1635 (by decide) (fun c19 => absurd c19 c4) (fun _ => ?_)
    refine lv_iconst (v := 1) hx hb dL_law_1638 (by decide) ?_
    refine lv_goto (tgt := 1643) hx hb dL_law_1639 (by decide) ?_
    refine k_i (va_runV (As := [.int (xs 1), .int (xs 2), .int 1]) (rest := [.int r14]) ⟨hx, hb, hml, hown, hts⟩ (f_X8_filed l D cI cJ H.size g g2 g3 g4 g5 g6 g7 g8 g9 g10 g12 g13 g15 g16 g17 g19 g20 g21 g22 g23 g24 g25 g26 g27 g28 g33 g34 g35 g36 g37 g38 g39 g41 g42 g44 g45 (xs 1) (xs 2) 1) (cwV 3 hts hL_law_X8_filed rfl rfl rfl (by decide +kernel) ⟨Nat.le_of_ble_eq_true rfl, Nat.le_of_ble_eq_true rfl⟩) (k_preV hE hP hD [0, 1] (by decide) rfl 0 rfl rfl) rfl rfl hl.1 rfl (lv_room (Nat.le_of_ble_eq_true rfl)) dL_law_1643 ⟨Nat.le_of_ble_eq_true rfl, Nat.le_of_ble_eq_true rfl⟩) hP hD hS hA [0, 1] [] rfl (wr := []) rfl (by decide) (by decide) (fun r20 u H locs hw21 hP hD hS => ?_)
    obtain ⟨hw21, rfl⟩ := hw21
    have hP : va_P D vwCl [] H := hP
    have hD : va_D (fun q : Nat => s.heap.size ≤ q) [] := hD
    refine lv_icmp_eq (tgt := 1651) hx hb dL_law_1646 (by decide) (fun _ => ?_) (fun c22 => absurd (hw15.trans hw21.symm) c22)
    refine W.widen (k := 90) (n := 1144) (Nat.le_of_ble_eq_true rfl) (Nat.le_of_ble_eq_true rfl) ?_
    exact kend _ _ _ hS (lv_sub hl [0, 1, 2, 3, 4] rfl)
