set_option maxHeartbeats 4000000 in
set_option maxRecDepth 100000 in
/-- the loop -/
theorem law_loop {p : Program} {l : Launch} {e : Env} {s : State} {m : MethodId} {below : List Frame} {meth : Method} {c : Code} {b L tf : Nat} {xs : Nat → Int32} {D : va_G} {cI cJ : ClassId} {Q : State → Prop} (C : LC p l s m c b L tf xs D cI cJ) (hL : L ≤ 3072) {x x0 x1 x2 x3 x4 x5 s1 s2 s5 s6 s7 s8 s9 s10 s11 b0 b1 b2 b3 b4 b5 b6 b7 b8 b9 b10 b11 w0 w1 w2 w3 w4 w8 d0 d1 d2 y0 y1 t0 t1 t2 t3 t6 t8 dr0 dr1 g g2 g3 g4 g5 g6 g7 g8 g9 g10 g12 g13 g15 g16 g17 g19 g20 g21 g22 g23 g24 g25 g26 g27 g28 g33 g34 g35 g36 g37 g38 g39 g41 g42 g44 g45 o : Nat} (kret : ∀ (H : Heap) (locs : List Loc) (ls : Array Slot) (dw1 : Drawn), s.drawn.sameBut dw1 lw_cs → va_S (fun q : Nat => s.heap.size ≤ q) s.heap H locs → W p l e room_1 (s.setDrawn dw1) m #[Value.ref b] below meth c H locs 1112 9320 Q (F0 m 1600 ls [])) : ∀ (zz n : Nat) (dd : Drawn) (pn np nl wn lv pm mv tt : Nat) (si4 si12 si13 bi14 wi6 ti4 ti7 gi0 gi18 gi29 gi30 gi40 gi43 : Int32) (X5 S5 S6 S7 S8 S9 S10 S11 B0 B1 B2 B3 B4 B5 B6 B7 B8 B9 B10 B11 W0 W1 W2 W3 W4 W8 D0 D1 Y0 Y1 T0 T1 T2 T3 T6 T8 DR0 DR1 G10 G16 G19 G20 G21 G22 G23 G24 G25 G26 G27 G28 G33 G34 G35 G36 G38 G39 G41 G42 G44 G45 : Nat → Int32) (D2 G37 OO : Nat → Int64), s.drawn.sameBut dd lw_cs → 512 - n < zz → n ≤ 512 → LInv pn np nl wn lv pm mv tt B0 B1 B2 B3 B6 B8 B10 B11 T6 DR0 G10 G16 G19 G20 G25 G27 → ∀ (H : Heap) (locs : List Loc) (ls : Array Slot), va_P D vwCl (LWS cI cJ x x0 x1 x2 x3 x4 x5 s1 s2 s5 s6 s7 s8 s9 s10 s11 b0 b1 b2 b3 b4 b5 b6 b7 b8 b9 b10 b11 w0 w1 w2 w3 w4 w8 d0 d1 d2 y0 y1 t0 t1 t2 t3 t6 t8 dr0 dr1 g g2 g3 g4 g5 g6 g7 g8 g9 g10 g12 g13 g15 g16 g17 g19 g20 g21 g22 g23 g24 g25 g26 g27 g28 g33 g34 g35 g36 g37 g38 g39 g41 g42 g44 g45 o pn np nl wn lv pm mv tt si4 si12 si13 bi14 wi6 ti4 ti7 gi0 gi18 gi29 gi30 gi40 gi43 X5 S5 S6 S7 S8 S9 S10 S11 B0 B1 B2 B3 B4 B5 B6 B7 B8 B9 B10 B11 W0 W1 W2 W3 W4 W8 D0 D1 Y0 Y1 T0 T1 T2 T3 T6 T8 DR0 DR1 G10 G16 G19 G20 G21 G22 G23 G24 G25 G26 G27 G28 G33 G34 G35 G36 G38 G39 G41 G42 G44 G45 D2 G37 OO) H → va_D (fun q : Nat => s.heap.size ≤ q) (LWS cI cJ x x0 x1 x2 x3 x4 x5 s1 s2 s5 s6 s7 s8 s9 s10 s11 b0 b1 b2 b3 b4 b5 b6 b7 b8 b9 b10 b11 w0 w1 w2 w3 w4 w8 d0 d1 d2 y0 y1 t0 t1 t2 t3 t6 t8 dr0 dr1 g g2 g3 g4 g5 g6 g7 g8 g9 g10 g12 g13 g15 g16 g17 g19 g20 g21 g22 g23 g24 g25 g26 g27 g28 g33 g34 g35 g36 g37 g38 g39 g41 g42 g44 g45 o pn np nl wn lv pm mv tt si4 si12 si13 bi14 wi6 ti4 ti7 gi0 gi18 gi29 gi30 gi40 gi43 X5 S5 S6 S7 S8 S9 S10 S11 B0 B1 B2 B3 B4 B5 B6 B7 B8 B9 B10 B11 W0 W1 W2 W3 W4 W8 D0 D1 Y0 Y1 T0 T1 T2 T3 T6 T8 DR0 DR1 G10 G16 G19 G20 G21 G22 G23 G24 G25 G26 G27 G28 G33 G34 G35 G36 G38 G39 G41 G42 G44 G45 D2 G37 OO) → va_S (fun q : Nat => s.heap.size ≤ q) s.heap H locs → lv_has ls 7 [(4, .int (nI (6 * n))), (3, .ref o), (2, .ref g), (1, .ref x), (0, .ref b)] → W p l e room_1 (s.setDrawn dd) m #[Value.ref b] below meth c H locs (84 + 2 * n) (1104 + 16 * n) Q (F0 m 23 ls []) := by
  obtain ⟨hx, hb, hml, hown, htsB, hE, hX, hbl, hXw, hZ, hl9⟩ := id C
  have hbA : ¬ (fun q : Nat => s.heap.size ≤ q) b := Nat.not_le.mpr hbl
  intro zz
  induction zz with
  | zero => intro n dd pn np nl wn lv pm mv tt si4 si12 si13 bi14 wi6 ti4 ti7 gi0 gi18 gi29 gi30 gi40 gi43 X5 S5 S6 S7 S8 S9 S10 S11 B0 B1 B2 B3 B4 B5 B6 B7 B8 B9 B10 B11 W0 W1 W2 W3 W4 W8 D0 D1 Y0 Y1 T0 T1 T2 T3 T6 T8 DR0 DR1 G10 G16 G19 G20 G21 G22 G23 G24 G25 G26 G27 G28 G33 G34 G35 G36 G38 G39 G41 G42 G44 G45 D2 G37 OO _ h; exact absurd h (Nat.not_lt_zero _)
  | succ zz ih =>
    intro n dd pn np nl wn lv pm mv tt si4 si12 si13 bi14 wi6 ti4 ti7 gi0 gi18 gi29 gi30 gi40 gi43 X5 S5 S6 S7 S8 S9 S10 S11 B0 B1 B2 B3 B4 B5 B6 B7 B8 B9 B10 B11 W0 W1 W2 W3 W4 W8 D0 D1 Y0 Y1 T0 T1 T2 T3 T6 T8 DR0 DR1 G10 G16 G19 G20 G21 G22 G23 G24 G25 G26 G27 G28 G33 G34 G35 G36 G38 G39 G41 G42 G44 G45 D2 G37 OO hdd hzz hn hI H locs ls hP hD hS hl
    have hX : va_X b L xs (s.setDrawn dd) s.heap := hX
    refine lv_iload hx hb dL_law_23 (lv_at hl 0 rfl) ?_
    refine lv_aload_n hx hb dL_law_25 rfl (lv_at hl 4 rfl) ?_
    refine va_slen hx hb hX hbl hbA hS dL_law_26 ?_
    refine lv_bipush (v := 6) hx hb dL_law_27 (by decide) ?_
    refine lv_isub hx hb dL_law_29 ?_
    refine lv_icmp_gt (tgt := 1600) hx hb dL_law_30 (by decide) (fun _ => ?_) (fun hc => ?_)
    · refine W.widen (k := 1112) (n := 9320) (by omega) (by omega) ?_
      exact kret _ _ _ dd hdd hS
    have hj : 6 * n + 6 ≤ L := Nat.le_of_not_lt (fun q => hc ((lm_gt (by omega) hL).mpr q))
    refine lv_aload_n hx hb dL_law_33 rfl (lv_at hl 4 rfl) ?_
    refine lv_iload hx hb dL_law_34 (lv_at hl 0 rfl) ?_
    refine va_sld hx hb hX hbl hbA hS (vp_in_nI (n := 6 * n) (by omega) (by omega)) dL_law_36 ?_
    refine lv_bipush (v := 31) hx hb dL_law_37 (by decide) ?_
    refine lv_iand hx hb dL_law_39 ?_
    obtain ⟨t, ht, et⟩ := pk_andE (xs (Int32.toNatClampNeg (nI (6 * n)))) (m := 31) 5 rfl
    rw [et]
    have hk9 : 84 + 2 * n + 2 ≤ room_1.cells := show 84 + 2 * n + 2 ≤ 1112 from by omega
    have hn9 : 1104 + 16 * n + 16 ≤ room_1.slots := show 1104 + 16 * n + 16 ≤ 9320 from by omega
    have kend : ∀ (pn np nl wn lv pm mv tt : Nat) (si4 si12 si13 bi14 wi6 ti4 ti7 gi0 gi18 gi29 gi30 gi40 gi43 : Int32) (X5 S5 S6 S7 S8 S9 S10 S11 B0 B1 B2 B3 B4 B5 B6 B7 B8 B9 B10 B11 W0 W1 W2 W3 W4 W8 D0 D1 Y0 Y1 T0 T1 T2 T3 T6 T8 DR0 DR1 G10 G16 G19 G20 G21 G22 G23 G24 G25 G26 G27 G28 G33 G34 G35 G36 G38 G39 G41 G42 G44 G45 : Nat → Int32) (D2 G37 OO : Nat → Int64) (H1 : Heap) (locs1 : List Loc) (ls1 : Array Slot) (dw1 : Drawn), s.drawn.sameBut dw1 lw_cs → LInv pn np nl wn lv pm mv tt B0 B1 B2 B3 B6 B8 B10 B11 T6 DR0 G10 G16 G19 G20 G25 G27 → va_P D vwCl (LWS cI cJ x x0 x1 x2 x3 x4 x5 s1 s2 s5 s6 s7 s8 s9 s10 s11 b0 b1 b2 b3 b4 b5 b6 b7 b8 b9 b10 b11 w0 w1 w2 w3 w4 w8 d0 d1 d2 y0 y1 t0 t1 t2 t3 t6 t8 dr0 dr1 g g2 g3 g4 g5 g6 g7 g8 g9 g10 g12 g13 g15 g16 g17 g19 g20 g21 g22 g23 g24 g25 g26 g27 g28 g33 g34 g35 g36 g37 g38 g39 g41 g42 g44 g45 o pn np nl wn lv pm mv tt si4 si12 si13 bi14 wi6 ti4 ti7 gi0 gi18 gi29 gi30 gi40 gi43 X5 S5 S6 S7 S8 S9 S10 S11 B0 B1 B2 B3 B4 B5 B6 B7 B8 B9 B10 B11 W0 W1 W2 W3 W4 W8 D0 D1 Y0 Y1 T0 T1 T2 T3 T6 T8 DR0 DR1 G10 G16 G19 G20 G21 G22 G23 G24 G25 G26 G27 G28 G33 G34 G35 G36 G38 G39 G41 G42 G44 G45 D2 G37 OO) H1 → va_D (fun q : Nat => s.heap.size ≤ q) (LWS cI cJ x x0 x1 x2 x3 x4 x5 s1 s2 s5 s6 s7 s8 s9 s10 s11 b0 b1 b2 b3 b4 b5 b6 b7 b8 b9 b10 b11 w0 w1 w2 w3 w4 w8 d0 d1 d2 y0 y1 t0 t1 t2 t3 t6 t8 dr0 dr1 g g2 g3 g4 g5 g6 g7 g8 g9 g10 g12 g13 g15 g16 g17 g19 g20 g21 g22 g23 g24 g25 g26 g27 g28 g33 g34 g35 g36 g37 g38 g39 g41 g42 g44 g45 o pn np nl wn lv pm mv tt si4 si12 si13 bi14 wi6 ti4 ti7 gi0 gi18 gi29 gi30 gi40 gi43 X5 S5 S6 S7 S8 S9 S10 S11 B0 B1 B2 B3 B4 B5 B6 B7 B8 B9 B10 B11 W0 W1 W2 W3 W4 W8 D0 D1 Y0 Y1 T0 T1 T2 T3 T6 T8 DR0 DR1 G10 G16 G19 G20 G21 G22 G23 G24 G25 G26 G27 G28 G33 G34 G35 G36 G38 G39 G41 G42 G44 G45 D2 G37 OO) → va_S (fun q : Nat => s.heap.size ≤ q) s.heap H1 locs1 → lv_has ls1 7 [(4, .int (nI (6 * n))), (3, .ref o), (2, .ref g), (1, .ref x), (0, .ref b)] → W p l e room_1 (s.setDrawn dw1) m #[Value.ref b] below meth c H1 locs1 (84 + 2 * n + 2) (1104 + 16 * n + 16) Q (F0 m 1594 ls1 []) := by
      intro pn np nl wn lv pm mv tt si4 si12 si13 bi14 wi6 ti4 ti7 gi0 gi18 gi29 gi30 gi40 gi43 X5 S5 S6 S7 S8 S9 S10 S11 B0 B1 B2 B3 B4 B5 B6 B7 B8 B9 B10 B11 W0 W1 W2 W3 W4 W8 D0 D1 Y0 Y1 T0 T1 T2 T3 T6 T8 DR0 DR1 G10 G16 G19 G20 G21 G22 G23 G24 G25 G26 G27 G28 G33 G34 G35 G36 G38 G39 G41 G42 G44 G45 D2 G37 OO H1 locs1 ls1 dw1 hdw1 hI1 hP1 hD1 hS1 hl1
      obtain ⟨v, ev⟩ : ∃ y : Int32, y = nI (6 * n) + 6 := ⟨_, rfl⟩
      refine lv_iinc (v := v) (lv' := [(4, .int v), (3, .ref o), (2, .ref g), (1, .ref x), (0, .ref b)]) hx hb dL_law_1594 hl1 (k := 0) rfl (by rw [ev]; rfl) (by decide) rfl (fun ls2 hl2 => ?_)
      have e8 : v = nI (6 * (n + 1)) := by rw [ev]; exact nI_add (6 * n) 6
      rw [e8] at hl2
      refine lv_goto (tgt := 23) hx hb dL_law_1597 (by decide) ?_
      refine W.widen (k := 84 + 2 * (n + 1)) (n := 1104 + 16 * (n + 1)) (by omega) (by omega) ?_
      exact ih (n + 1) dw1 pn np nl wn lv pm mv tt si4 si12 si13 bi14 wi6 ti4 ti7 gi0 gi18 gi29 gi30 gi40 gi43 X5 S5 S6 S7 S8 S9 S10 S11 B0 B1 B2 B3 B4 B5 B6 B7 B8 B9 B10 B11 W0 W1 W2 W3 W4 W8 D0 D1 Y0 Y1 T0 T1 T2 T3 T6 T8 DR0 DR1 G10 G16 G19 G20 G21 G22 G23 G24 G25 G26 G27 G28 G33 G34 G35 G36 G38 G39 G41 G42 G44 G45 D2 G37 OO hdw1 (by omega) (by omega) hI1 _ _ _ hP1 hD1 hS1 hl2
    match t, ht with
    | 0, _ => exact lv_tableIn (tgt := 180) hx hb dL_law_40 (by decide) (by decide) (off := 140) rfl (by decide) (arm_0 C hj hL hk9 hn9 hdd hI hP hD hS hl kend)
    | 1, _ => exact lv_tableIn (tgt := 253) hx hb dL_law_40 (by decide) (by decide) (off := 213) rfl (by decide) (arm_1 C hj hL hk9 hn9 hdd hI hP hD hS hl kend)
    | 2, _ => exact lv_tableIn (tgt := 302) hx hb dL_law_40 (by decide) (by decide) (off := 262) rfl (by decide) (arm_2 C hj hL hk9 hn9 hdd hI hP hD hS hl kend)
    | 3, _ => exact lv_tableIn (tgt := 339) hx hb dL_law_40 (by decide) (by decide) (off := 299) rfl (by decide) (arm_3 C hj hL hk9 hn9 hdd hI hP hD hS hl kend)
    | 4, _ => exact lv_tableIn (tgt := 388) hx hb dL_law_40 (by decide) (by decide) (off := 348) rfl (by decide) (arm_4 C hj hL hk9 hn9 hdd hI hP hD hS hl kend)
    | 5, _ => exact lv_tableIn (tgt := 453) hx hb dL_law_40 (by decide) (by decide) (off := 413) rfl (by decide) (arm_5 C hj hL hk9 hn9 hdd hI hP hD hS hl kend)
    | 6, _ => exact lv_tableIn (tgt := 490) hx hb dL_law_40 (by decide) (by decide) (off := 450) rfl (by decide) (arm_6 C hj hL hk9 hn9 hdd hI hP hD hS hl kend)
    | 7, _ => exact lv_tableIn (tgt := 503) hx hb dL_law_40 (by decide) (by decide) (off := 463) rfl (by decide) (arm_7 C hj hL hk9 hn9 hdd hI hP hD hS hl kend)
    | 8, _ => exact lv_tableIn (tgt := 516) hx hb dL_law_40 (by decide) (by decide) (off := 476) rfl (by decide) (arm_8 C hj hL hk9 hn9 hdd hI hP hD hS hl kend)
    | 9, _ => exact lv_tableIn (tgt := 541) hx hb dL_law_40 (by decide) (by decide) (off := 501) rfl (by decide) (arm_9 C hj hL hk9 hn9 hdd hI hP hD hS hl kend)
    | 10, _ => exact lv_tableIn (tgt := 581) hx hb dL_law_40 (by decide) (by decide) (off := 541) rfl (by decide) (arm_10 C hj hL hk9 hn9 hdd hI hP hD hS hl kend)
    | 11, _ => exact lv_tableIn (tgt := 618) hx hb dL_law_40 (by decide) (by decide) (off := 578) rfl (by decide) (arm_11 C hj hL hk9 hn9 hdd hI hP hD hS hl kend)
    | 12, _ => exact lv_tableIn (tgt := 670) hx hb dL_law_40 (by decide) (by decide) (off := 630) rfl (by decide) (arm_12 C hj hL hk9 hn9 hdd hI hP hD hS hl kend)
    | 13, _ => exact lv_tableIn (tgt := 707) hx hb dL_law_40 (by decide) (by decide) (off := 667) rfl (by decide) (arm_13 C hj hL hk9 hn9 hdd hI hP hD hS hl kend)
    | 14, _ => exact lv_tableIn (tgt := 745) hx hb dL_law_40 (by decide) (by decide) (off := 705) rfl (by decide) (arm_14 C hj hL hk9 hn9 hdd hI hP hD hS hl kend)
    | 15, _ => exact lv_tableIn (tgt := 782) hx hb dL_law_40 (by decide) (by decide) (off := 742) rfl (by decide) (arm_15 C hj hL hk9 hn9 hdd hI hP hD hS hl kend)
    | 16, _ => exact lv_tableIn (tgt := 819) hx hb dL_law_40 (by decide) (by decide) (off := 779) rfl (by decide) (arm_16 C hj hL hk9 hn9 hdd hI hP hD hS hl kend)
    | 17, _ => exact lv_tableIn (tgt := 856) hx hb dL_law_40 (by decide) (by decide) (off := 816) rfl (by decide) (arm_17 C hj hL hk9 hn9 hdd hI hP hD hS hl kend)
    | 18, _ => exact lv_tableIn (tgt := 917) hx hb dL_law_40 (by decide) (by decide) (off := 877) rfl (by decide) (arm_18 C hj hL hk9 hn9 hdd hI hP hD hS hl kend)
    | 19, _ => exact lv_tableIn (tgt := 998) hx hb dL_law_40 (by decide) (by decide) (off := 958) rfl (by decide) (arm_19 C hj hL hk9 hn9 hdd hI hP hD hS hl kend)
    | 20, _ => exact lv_tableIn (tgt := 1091) hx hb dL_law_40 (by decide) (by decide) (off := 1051) rfl (by decide) (arm_20 C hj hL hk9 hn9 hdd hI hP hD hS hl kend)
    | 21, _ => exact lv_tableIn (tgt := 1140) hx hb dL_law_40 (by decide) (by decide) (off := 1100) rfl (by decide) (arm_21 C hj hL hk9 hn9 hdd hI hP hD hS hl kend)
    | 22, _ => exact lv_tableIn (tgt := 1177) hx hb dL_law_40 (by decide) (by decide) (off := 1137) rfl (by decide) (arm_22 C hj hL hk9 hn9 hdd hI hP hD hS hl kend)
    | 23, _ => exact lv_tableIn (tgt := 1214) hx hb dL_law_40 (by decide) (by decide) (off := 1174) rfl (by decide) (arm_23 C hj hL hk9 hn9 hdd hI hP hD hS hl kend)
    | 24, _ => exact lv_tableIn (tgt := 1251) hx hb dL_law_40 (by decide) (by decide) (off := 1211) rfl (by decide) (arm_24 C hj hL hk9 hn9 hdd hI hP hD hS hl kend)
    | 25, _ => exact lv_tableIn (tgt := 1288) hx hb dL_law_40 (by decide) (by decide) (off := 1248) rfl (by decide) (arm_25 C hj hL hk9 hn9 hdd hI hP hD hS hl kend)
    | 26, _ => exact lv_tableIn (tgt := 1325) hx hb dL_law_40 (by decide) (by decide) (off := 1285) rfl (by decide) (arm_26 C hj hL hk9 hn9 hdd hI hP hD hS hl kend)
    | 27, _ => exact lv_tableIn (tgt := 1378) hx hb dL_law_40 (by decide) (by decide) (off := 1338) rfl (by decide) (arm_27 C hj hL hk9 hn9 hdd hI hP hD hS hl kend)
    | 28, _ => exact lv_tableIn (tgt := 1431) hx hb dL_law_40 (by decide) (by decide) (off := 1391) rfl (by decide) (arm_28 C hj hL hk9 hn9 hdd hI hP hD hS hl kend)
    | 29, _ => exact lv_tableIn (tgt := 1480) hx hb dL_law_40 (by decide) (by decide) (off := 1440) rfl (by decide) (arm_29 C hj hL hk9 hn9 hdd hI hP hD hS hl kend)
    | 30, _ => exact lv_tableIn (tgt := 1529) hx hb dL_law_40 (by decide) (by decide) (off := 1489) rfl (by decide) (arm_30 C hj hL hk9 hn9 hdd hI hP hD hS hl kend)
    | 31, _ =>
      refine lv_tableOut (tgt := 1594) hx hb dL_law_40 (Or.inr (by decide)) (by decide) ?_
      refine W.widen (k := 84 + 2 * n + 2) (n := 1104 + 16 * n + 16) (by omega) (by omega) ?_
      exact kend pn np nl wn lv pm mv tt si4 si12 si13 bi14 wi6 ti4 ti7 gi0 gi18 gi29 gi30 gi40 gi43 X5 S5 S6 S7 S8 S9 S10 S11 B0 B1 B2 B3 B4 B5 B6 B7 B8 B9 B10 B11 W0 W1 W2 W3 W4 W8 D0 D1 Y0 Y1 T0 T1 T2 T3 T6 T8 DR0 DR1 G10 G16 G19 G20 G21 G22 G23 G24 G25 G26 G27 G28 G33 G34 G35 G36 G38 G39 G41 G42 G44 G45 D2 G37 OO _ _ _ dd hdd hI hP hD hS hl
    | n2 + 32, h => exact absurd h (by omega)

