def fl (n : Nat) (v : Int32) (f : Nat → Int32) : Nat → Int32 := fun k => if k < n then v else f k
theorem fl_0 (v : Int32) (f : Nat → Int32) : fl 0 v f = f := by funext k; simp [fl]
theorem fl_up {i : Nat} {v : Int32} {f : Nat → Int32} (h : i < 2 ^ 31) : upd (fl i v f) (nI i).toNatClampNeg v = fl (i + 1) v f := by
  rw [nI_clamp h]
  funext k
  by_cases hk : k = i
  · subst hk; rw [pk_us]; simp [fl]
  · rw [pk_un hk]
    unfold fl
    by_cases h1 : k < i
    · rw [if_pos h1, if_pos (by omega)]
    · rw [if_neg h1, if_neg (by omega)]
theorem dJ7_fill_53178_0 : decode cJ7_fill_53178 0 = .ok (.iconst 0, 1) := by decide +kernel
theorem dJ7_fill_53178_1 : decode cJ7_fill_53178 1 = .ok (.istore_n 2, 1) := by decide +kernel
theorem dJ7_fill_53178_2 : decode cJ7_fill_53178 2 = .ok (.aload_n 0, 1) := by decide +kernel
theorem dJ7_fill_53178_3 : decode cJ7_fill_53178 3 = .ok (.arraylength, 1) := by decide +kernel
theorem dJ7_fill_53178_4 : decode cJ7_fill_53178 4 = .ok (.istore_n 3, 1) := by decide +kernel
theorem dJ7_fill_53178_5 : decode cJ7_fill_53178 5 = .ok (.iload_n 2, 1) := by decide +kernel
theorem dJ7_fill_53178_6 : decode cJ7_fill_53178 6 = .ok (.iload_n 3, 1) := by decide +kernel
theorem dJ7_fill_53178_7 : decode cJ7_fill_53178 7 = .ok (.if_icmp .ge 13, 3) := by decide +kernel
theorem dJ7_fill_53178_10 : decode cJ7_fill_53178 10 = .ok (.aload_n 0, 1) := by decide +kernel
theorem dJ7_fill_53178_11 : decode cJ7_fill_53178 11 = .ok (.iload_n 2, 1) := by decide +kernel
theorem dJ7_fill_53178_12 : decode cJ7_fill_53178 12 = .ok (.iload_n 1, 1) := by decide +kernel
theorem dJ7_fill_53178_13 : decode cJ7_fill_53178 13 = .ok (.iastore, 1) := by decide +kernel
theorem dJ7_fill_53178_14 : decode cJ7_fill_53178 14 = .ok (.iinc 2 1, 3) := by decide +kernel
theorem dJ7_fill_53178_17 : decode cJ7_fill_53178 17 = .ok (.goto (-12), 3) := by decide +kernel
theorem dJ7_fill_53178_20 : decode cJ7_fill_53178 20 = .ok (.return_, 1) := by decide +kernel
set_option maxHeartbeats 4000000 in
set_option maxRecDepth 100000 in
theorem m_J7_fill (l : Launch) (D : va_G) (cI cJ : ClassId) (sz : Nat) (a : Nat) (v : Int32) (n : Nat) (f : Nat → Int32) (hn : n < 2 ^ 31) : Met l yJ7_fill_53178 wtJ7_fill_53178 { frames := 0, cells := 0, slots := 0, locals := 0 } (cPc D cI cJ [.ref a, .int v] sz [(aIc cI a n f)]) (cQv D (fun u => u = [(aIc cI a n (fl n v f))]) (va_A [(aIc cI a n f)] sz)) 0 0 (va_A [(aIc cI a n f)] sz) := by
  refine k_ofW (Qc := cQv D (fun u => u = [(aIc cI a n (fl n v f))])) (by decide) rfl (Nat.le_of_ble_eq_true rfl) ?_
  intro p e s m below meth c A ls hx hb hr hml hts hown hlk hnm hsz hE hP hD hS hA hl
  have hown : s.vm.findClass RJ7 = some m.cls := hown
  have hl : lv_has ls 4 [(0, .ref a), (1, .int v)] := hl
  refine lv_iconst (v := 0) hx hb dJ7_fill_53178_0 (by decide) ?_
  refine lv_istore_n (lv' := [(2, .int 0), (0, .ref a), (1, .int v)]) hx hb dJ7_fill_53178_1 rfl hl (by decide) rfl (fun ls hl => ?_)
  refine lv_aload_n hx hb dJ7_fill_53178_2 rfl (lv_at hl 1 rfl) ?_
  refine va_alen hx hb hE.1 hP 0 0 rfl rfl rfl dJ7_fill_53178_3 ?_
  refine lv_topi (fun v1 ev1 => ?_)
  refine lv_istore_n (lv' := [(3, .int v1), (2, .int 0), (0, .ref a), (1, .int v)]) hx hb dJ7_fill_53178_4 rfl hl (by decide) rfl (fun ls hl => ?_)
  have J5 : ∀ (zz : Nat) (i : Nat), i ≤ n → n - i < zz → ∀ (H : Heap) (locs : List Loc) (ls : Array Slot), va_P D vwCl [(aIc cI a n (fl i v f))] H → va_D A [(aIc cI a n (fl i v f))] → va_S A s.heap H locs → lv_has ls 4 [(3, .int (nI n)), (2, .int (nI i)), (0, .ref a), (1, .int v)] → W p l e { frames := 0, cells := 0, slots := 0, locals := 0 } s m [.ref a, .int v].toArray below meth c H locs 0 0 (MQ below (cQv D (fun u => u = [(aIc cI a n (fl n v f))]) A) [.ref a, .int v].toArray s 0 0 A) (F0 m 5 ls []) := by
    intro zz
    induction zz with
    | zero => intro i _; exact fun h => absurd h (Nat.not_lt_zero _)
    | succ zz ih5 =>
      intro i hi hmu H locs ls hP hD hS hl
      refine lv_iload_n hx hb dJ7_fill_53178_5 rfl (lv_at hl 1 rfl) ?_
      refine lv_iload_n hx hb dJ7_fill_53178_6 rfl (lv_at hl 0 rfl) ?_
      refine lv_icmp_ge (tgt := 20) hx hb dJ7_fill_53178_7 (by decide) (fun c2 => ?_) (fun c2 => ?_)
      · skip
        have c1z := c2
        refine k_vret (u := [(aIc cI a n (fl i v f))]) hx hb hr hlk hP hD hS dJ7_fill_53178_20 ?_
        have hin : i = n := Nat.le_antisymm hi (Nat.le_of_not_lt (fun q => nI_ge q hn c1z))
        exact by rw [hin]
      · skip
        have hlt : i < n := Nat.lt_of_not_le (fun q => c2 (nI_le q (by omega)))
        refine lv_aload_n hx hb dJ7_fill_53178_10 rfl (lv_at hl 2 rfl) ?_
        refine lv_iload_n hx hb dJ7_fill_53178_11 rfl (lv_at hl 1 rfl) ?_
        refine lv_iload_n hx hb dJ7_fill_53178_12 rfl (lv_at hl 3 rfl) ?_
        refine va_iast hx hb hE.1 hP hD hS 0 0 rfl rfl (vp_in_nI hlt hn) dJ7_fill_53178_13 (fun H locs hP hD hS => ?_)
        refine k_re (w := [(aIc cI a n (upd (fl i v f) (Int32.toNatClampNeg (nI i)) v))]) hP hD (fun hP hD => ?_)
        obtain ⟨v3, ev3⟩ : ∃ y : Int32, y = (nI i) + 1 := ⟨_, rfl⟩
        refine lv_iinc (v := v3) (lv' := [(2, .int v3), (3, .int (nI n)), (0, .ref a), (1, .int v)]) hx hb dJ7_fill_53178_14 hl (k := 1) rfl (by rw [ev3]; rfl) (by decide) rfl (fun ls hl => ?_)
        refine lv_goto (tgt := 5) hx hb dJ7_fill_53178_17 (by decide) ?_
        have e9 : upd (fl i v f) (Int32.toNatClampNeg (nI i)) v = fl (i + 1) v f := fl_up (by omega)
        rw [e9] at hP hD
        have e8 : v3 = nI (i + 1) := by rw [ev3]; exact nI_1 i
        rw [e8] at hl
        exact ih5 (i + 1) hlt (by omega) _ _ _ hP hD hS (lv_sub hl [1, 0, 2, 3] rfl)
  rw [ev1] at hl
  rw [← fl_0 v f] at hP hD
  exact J5 _ 0 (Nat.zero_le _) (Nat.lt_succ_self _) _ _ _ hP hD hS (lv_sub hl [0, 1, 2, 3] rfl)

