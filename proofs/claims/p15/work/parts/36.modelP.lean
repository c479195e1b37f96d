/-- distances under way: round r, row p, column q -/
def FQ (Y f : Nat → Int32) (ot r p q : Nat) : Prop := ∃ fr : Nat → Nat, nv f fr ∧ (∀ k, k < 8 → fr k ≤ 8) ∧ fr ot = 0 ∧ (∀ a, a < 8 → a ≠ ot → fr a = 8 ∨ ∃ b : Nat, b < 8 ∧ bt (Y a) b = true ∧ fr b + 1 ≤ fr a) ∧ (∀ a b, a < 8 → b < 8 → bt (Y a) b = true → fr b < r → fr a ≤ fr b + 1) ∧ (∀ a b, a < 8 → b < 8 → (a < p ∨ (a = p ∧ b < q)) → bt (Y a) b = true → fr b ≤ r → fr a ≤ fr b + 1)
theorem fq_bt {Y : Nat → Int32} {p q : Nat} {v : Int32} (hp : p < 8) (hq : q < 8) (ev : v = Y (Int32.toNatClampNeg (nI p))) : ((v >>> (nI q &&& 31)) &&& 1 = 1) ↔ bt (Y p) q = true := by
  rw [nI_clamp (by omega)] at ev
  rw [ev]
  exact bt_on hq
theorem fq_new {Y f : Nat → Int32} {ot r p q : Nat} {fr : Nat → Nat} (hp : p < 8) (hq : q < 8) (h1 : nv f fr) (h2 : ∀ k, k < 8 → fr k ≤ 8) (h3 : fr ot = 0) (h4 : ∀ a, a < 8 → a ≠ ot → fr a = 8 ∨ ∃ b : Nat, b < 8 ∧ bt (Y a) b = true ∧ fr b + 1 ≤ fr a) (h5 : ∀ a b, a < 8 → b < 8 → bt (Y a) b = true → fr b < r → fr a ≤ fr b + 1) (h6 : ∀ a b, a < 8 → b < 8 → (a < p ∨ (a = p ∧ b < q)) → bt (Y a) b = true → fr b ≤ r → fr a ≤ fr b + 1)
    (x : Nat) (h : (x = fr p ∧ (bt (Y p) q = true → fr p ≤ fr q + 1)) ∨ (x = fr q + 1 ∧ bt (Y p) q = true ∧ fr q + 1 < fr p)) : FQ Y (upd f (Int32.toNatClampNeg (nI p)) (nI x)) ot r p (q + 1) := by
  rcases h with ⟨rfl, hb⟩ | ⟨hx, hb, hlt⟩
  · have e : (fun k => if k = p then fr p else fr k) = fr := by
      funext k
      by_cases e : k = p
      · rw [if_pos e, e]
      · rw [if_neg e]
    have h1' := nv_up h1 hp (fr p)
    rw [e] at h1'
    refine ⟨fr, h1', h2, h3, h4, h5, fun a b ha hb9 hc ht hr => ?_⟩
    by_cases z : a < p ∨ (a = p ∧ b < q)
    · exact h6 a b ha hb9 z ht hr
    · obtain ⟨rfl, rfl⟩ : a = p ∧ b = q := (by omega)
      exact hb ht
  · have hr : ¬ fr q < r := fun z => by have := h5 p q hp hq hb z; omega
    have hqp : q ≠ p := fun z => by rw [z] at hlt; omega
    have hpo : p ≠ ot := fun z => by rw [z, h3] at hlt; omega
    have hp8 := h2 p hp
    have hle : ∀ k, (if k = p then x else fr k) ≤ fr k := fun k => by
      by_cases e : k = p
      · subst e; rw [if_pos rfl]; omega
      · rw [if_neg e]; exact Nat.le_refl _
    refine ⟨fun k => if k = p then x else fr k, nv_up h1 hp x, fun k hk => Nat.le_trans (hle k) (h2 k hk), ?_, fun a ha hao => ?_, fun a b ha hb9 ht hlr => ?_, fun a b ha hb9 hc ht hlr => ?_⟩
    · show (if ot = p then x else fr ot) = 0
      rw [if_neg (fun z => hpo z.symm)]; exact h3
    · show (if a = p then x else fr a) = 8 ∨ ∃ b : Nat, b < 8 ∧ bt (Y a) b = true ∧ (if b = p then x else fr b) + 1 ≤ (if a = p then x else fr a)
      by_cases e : a = p
      · subst e
        rw [if_pos rfl]
        exact Or.inr ⟨q, hq, hb, by rw [if_neg hqp]; omega⟩
      · rw [if_neg e]
        rcases h4 a ha hao with z | ⟨b, z1, z2, z3⟩
        · exact Or.inl z
        · exact Or.inr ⟨b, z1, z2, by have := hle b; omega⟩
    · have hlr : (if b = p then x else fr b) < r := hlr
      show (if a = p then x else fr a) ≤ (if b = p then x else fr b) + 1
      by_cases e : b = p
      · rw [if_pos e] at hlr; omega
      · rw [if_neg e] at hlr ⊢
        have := h5 a b ha hb9 ht hlr
        have := hle a
        omega
    · have hlr : (if b = p then x else fr b) ≤ r := hlr
      show (if a = p then x else fr a) ≤ (if b = p then x else fr b) + 1
      by_cases e : b = p
      · rw [if_pos e] at hlr; omega
      · rw [if_neg e] at hlr ⊢
        by_cases z : a < p ∨ (a = p ∧ b < q)
        · have := h6 a b ha hb9 z ht hlr
          have := hle a
          omega
        · obtain ⟨rfl, rfl⟩ : a = p ∧ b = q := (by omega)
          rw [if_pos rfl]
          omega
theorem fq_row {Y f : Nat → Int32} {ot r p : Nat} (H : FQ Y f ot r p 8) : FQ Y f ot r (p + 1) 0 := by
  obtain ⟨fr, h1, h2, h3, h4, h5, h6⟩ := H
  exact ⟨fr, h1, h2, h3, h4, h5, fun a b ha hb hc => h6 a b ha hb (by omega)⟩
theorem fq_round {Y f : Nat → Int32} {ot r : Nat} (H : FQ Y f ot r 8 0) : FQ Y f ot (r + 1) 0 0 := by
  obtain ⟨fr, h1, h2, h3, h4, h5, h6⟩ := H
  exact ⟨fr, h1, h2, h3, h4, fun a b ha hb ht hr => h6 a b ha hb (by omega) ht (by omega), fun a b ha hb hc => absurd hc (by omega)⟩
theorem fq_0 {Y f : Nat → Int32} {ot : Nat} (hot : ot < 8) (h : ∀ k, k < 8 → f k = nI (if k = ot then 0 else 8)) : FQ Y f ot 0 0 0 := by
  refine ⟨fun k => if k = ot then 0 else 8, h, fun k hk => ?_, if_pos rfl, fun a ha hao => Or.inl (if_neg hao), fun a b ha hb ht hr => absurd hr (Nat.not_lt_zero _), fun a b ha hb hc => absurd hc (by omega)⟩
  by_cases e : k = ot
  · show (if k = ot then 0 else 8) ≤ 8
    rw [if_pos e]; omega
  · show (if k = ot then 0 else 8) ≤ 8
    rw [if_neg e]; exact Nat.le_refl _
theorem fi_up {f : Nat → Int32} {i ot x : Nat} (hi : i < 8) (hx : x = if i = ot then 0 else 8) (h : ∀ k, k < i → f k = nI (if k = ot then 0 else 8)) : ∀ k, k < i + 1 → upd f (Int32.toNatClampNeg (nI i)) (nI x) k = nI (if k = ot then 0 else 8) := by
  intro k hk
  rw [nI_clamp (by omega)]
  by_cases e : k = i
  · subst e; rw [pk_us, hx]
  · rw [pk_un e]; exact h k (by omega)
theorem wy_0 {Y f : Nat → Int32} {ot a : Nat} {fr : Nat → Nat} (h3 : fr ot = 0) (h4 : ∀ a, a < 8 → a ≠ ot → fr a = 8 ∨ ∃ b : Nat, b < 8 ∧ bt (Y a) b = true ∧ fr b + 1 ≤ fr a) (h5 : ∀ a b, a < 8 → b < 8 → bt (Y a) b = true → fr b < 8 → fr a ≤ fr b + 1) (ha : a < 8) (h0 : 0 < fr a) (h8 : fr a < 8) : ∃ q : Nat, 0 ≤ q ∧ q < 8 ∧ bt (Y a) q = true ∧ fr q + 1 = fr a := by
  rcases h4 a ha (fun z => by rw [z, h3] at h0; omega) with z | ⟨b, z1, z2, z3⟩
  · omega
  · have := h5 a b ha z1 z2 (by omega)
    exact ⟨b, Nat.zero_le _, z1, z2, by omega⟩
theorem wy_off {Y : Nat → Int32} {fr : Nat → Nat} {a n : Nat} (hn : ¬ bt (Y a) n = true) (h : ∃ q : Nat, n ≤ q ∧ q < 8 ∧ bt (Y a) q = true ∧ fr q + 1 = fr a) : ∃ q : Nat, n + 1 ≤ q ∧ q < 8 ∧ bt (Y a) q = true ∧ fr q + 1 = fr a := by
  obtain ⟨q, h1, h2, h3, h4⟩ := h
  refine ⟨q, ?_, h2, h3, h4⟩
  rcases Nat.lt_or_ge n q with z | z
  · omega
  · obtain rfl : q = n := (by omega)
    exact absurd h3 hn
theorem wy_ne {Y : Nat → Int32} {fr : Nat → Nat} {a n : Nat} (hn : ¬ fr n = fr a - 1) (h : ∃ q : Nat, n ≤ q ∧ q < 8 ∧ bt (Y a) q = true ∧ fr q + 1 = fr a) : ∃ q : Nat, n + 1 ≤ q ∧ q < 8 ∧ bt (Y a) q = true ∧ fr q + 1 = fr a := by
  obtain ⟨q, h1, h2, h3, h4⟩ := h
  refine ⟨q, ?_, h2, h3, h4⟩
  rcases Nat.lt_or_ge n q with z | z
  · omega
  · obtain rfl : q = n := (by omega)
    omega
theorem dX8_measures_0 : decode cX8_measures 0 = .ok (.iconst 0, 1) := by decide +kernel
theorem dX8_measures_1 : decode cX8_measures 1 = .ok (.istore_n 2, 1) := by decide +kernel
theorem dX8_measures_2 : decode cX8_measures 2 = .ok (.iload_n 2, 1) := by decide +kernel
theorem dX8_measures_3 : decode cX8_measures 3 = .ok (.bipush 8, 2) := by decide +kernel
theorem dX8_measures_5 : decode cX8_measures 5 = .ok (.if_icmp .ge 26, 3) := by decide +kernel
theorem dX8_measures_8 : decode cX8_measures 8 = .ok (.aload_n 0, 1) := by decide +kernel
theorem dX8_measures_9 : decode cX8_measures 9 = .ok (.getfield 98, 3) := by decide +kernel
theorem dX8_measures_12 : decode cX8_measures 12 = .ok (.iload_n 2, 1) := by decide +kernel
theorem dX8_measures_13 : decode cX8_measures 13 = .ok (.iload_n 2, 1) := by decide +kernel
theorem dX8_measures_14 : decode cX8_measures 14 = .ok (.iload_n 1, 1) := by decide +kernel
theorem dX8_measures_15 : decode cX8_measures 15 = .ok (.if_icmp .ne 7, 3) := by decide +kernel
theorem dX8_measures_18 : decode cX8_measures 18 = .ok (.iconst 0, 1) := by decide +kernel
theorem dX8_measures_19 : decode cX8_measures 19 = .ok (.goto 5, 3) := by decide +kernel
theorem dX8_measures_22 : decode cX8_measures 22 = .ok (.bipush 8, 2) := by decide +kernel
theorem dX8_measures_24 : decode cX8_measures 24 = .ok (.iastore, 1) := by decide +kernel
theorem dX8_measures_25 : decode cX8_measures 25 = .ok (.iinc 2 1, 3) := by decide +kernel
theorem dX8_measures_28 : decode cX8_measures 28 = .ok (.goto (-26), 3) := by decide +kernel
theorem dX8_measures_31 : decode cX8_measures 31 = .ok (.iconst 0, 1) := by decide +kernel
theorem dX8_measures_32 : decode cX8_measures 32 = .ok (.istore_n 2, 1) := by decide +kernel
theorem dX8_measures_33 : decode cX8_measures 33 = .ok (.iload_n 2, 1) := by decide +kernel
theorem dX8_measures_34 : decode cX8_measures 34 = .ok (.bipush 8, 2) := by decide +kernel
theorem dX8_measures_36 : decode cX8_measures 36 = .ok (.if_icmp .ge 95, 3) := by decide +kernel
theorem dX8_measures_39 : decode cX8_measures 39 = .ok (.iconst 0, 1) := by decide +kernel
theorem dX8_measures_40 : decode cX8_measures 40 = .ok (.istore_n 3, 1) := by decide +kernel
theorem dX8_measures_41 : decode cX8_measures 41 = .ok (.iload_n 3, 1) := by decide +kernel
theorem dX8_measures_42 : decode cX8_measures 42 = .ok (.bipush 8, 2) := by decide +kernel
theorem dX8_measures_44 : decode cX8_measures 44 = .ok (.if_icmp .ge 81, 3) := by decide +kernel
theorem dX8_measures_47 : decode cX8_measures 47 = .ok (.iconst 0, 1) := by decide +kernel
theorem dX8_measures_48 : decode cX8_measures 48 = .ok (.istore 4, 2) := by decide +kernel
theorem dX8_measures_50 : decode cX8_measures 50 = .ok (.iload 4, 2) := by decide +kernel
theorem dX8_measures_52 : decode cX8_measures 52 = .ok (.bipush 8, 2) := by decide +kernel
theorem dX8_measures_54 : decode cX8_measures 54 = .ok (.if_icmp .ge 65, 3) := by decide +kernel
theorem dX8_measures_57 : decode cX8_measures 57 = .ok (.aload_n 0, 1) := by decide +kernel
theorem dX8_measures_58 : decode cX8_measures 58 = .ok (.getfield 98, 3) := by decide +kernel
theorem dX8_measures_61 : decode cX8_measures 61 = .ok (.iload_n 3, 1) := by decide +kernel
theorem dX8_measures_62 : decode cX8_measures 62 = .ok (.aload_n 0, 1) := by decide +kernel
theorem dX8_measures_63 : decode cX8_measures 63 = .ok (.getfield 58, 3) := by decide +kernel
theorem dX8_measures_66 : decode cX8_measures 66 = .ok (.iload_n 3, 1) := by decide +kernel
theorem dX8_measures_67 : decode cX8_measures 67 = .ok (.iaload, 1) := by decide +kernel
theorem dX8_measures_68 : decode cX8_measures 68 = .ok (.iload 4, 2) := by decide +kernel
theorem dX8_measures_70 : decode cX8_measures 70 = .ok (.invokestatic 154, 3) := by decide +kernel
theorem dX8_measures_73 : decode cX8_measures 73 = .ok (.ifCond .eq 33, 3) := by decide +kernel
theorem dX8_measures_76 : decode cX8_measures 76 = .ok (.aload_n 0, 1) := by decide +kernel
theorem dX8_measures_77 : decode cX8_measures 77 = .ok (.getfield 98, 3) := by decide +kernel
theorem dX8_measures_80 : decode cX8_measures 80 = .ok (.iload 4, 2) := by decide +kernel
theorem dX8_measures_82 : decode cX8_measures 82 = .ok (.iaload, 1) := by decide +kernel
theorem dX8_measures_83 : decode cX8_measures 83 = .ok (.iconst 1, 1) := by decide +kernel
theorem dX8_measures_84 : decode cX8_measures 84 = .ok (.iadd, 1) := by decide +kernel
theorem dX8_measures_85 : decode cX8_measures 85 = .ok (.aload_n 0, 1) := by decide +kernel
theorem dX8_measures_86 : decode cX8_measures 86 = .ok (.getfield 98, 3) := by decide +kernel
theorem dX8_measures_89 : decode cX8_measures 89 = .ok (.iload_n 3, 1) := by decide +kernel
theorem dX8_measures_90 : decode cX8_measures 90 = .ok (.iaload, 1) := by decide +kernel
theorem dX8_measures_91 : decode cX8_measures 91 = .ok (.if_icmp .ge 15, 3) := by decide +kernel
theorem dX8_measures_94 : decode cX8_measures 94 = .ok (.aload_n 0, 1) := by decide +kernel
theorem dX8_measures_95 : decode cX8_measures 95 = .ok (.getfield 98, 3) := by decide +kernel
theorem dX8_measures_98 : decode cX8_measures 98 = .ok (.iload 4, 2) := by decide +kernel
theorem dX8_measures_100 : decode cX8_measures 100 = .ok (.iaload, 1) := by decide +kernel
theorem dX8_measures_101 : decode cX8_measures 101 = .ok (.iconst 1, 1) := by decide +kernel
theorem dX8_measures_102 : decode cX8_measures 102 = .ok (.iadd, 1) := by decide +kernel
theorem dX8_measures_103 : decode cX8_measures 103 = .ok (.goto 9, 3) := by decide +kernel
theorem dX8_measures_106 : decode cX8_measures 106 = .ok (.aload_n 0, 1) := by decide +kernel
theorem dX8_measures_107 : decode cX8_measures 107 = .ok (.getfield 98, 3) := by decide +kernel
theorem dX8_measures_110 : decode cX8_measures 110 = .ok (.iload_n 3, 1) := by decide +kernel
theorem dX8_measures_111 : decode cX8_measures 111 = .ok (.iaload, 1) := by decide +kernel
theorem dX8_measures_112 : decode cX8_measures 112 = .ok (.iastore, 1) := by decide +kernel
theorem dX8_measures_113 : decode cX8_measures 113 = .ok (.iinc 4 1, 3) := by decide +kernel
theorem dX8_measures_116 : decode cX8_measures 116 = .ok (.goto (-66), 3) := by decide +kernel
theorem dX8_measures_119 : decode cX8_measures 119 = .ok (.iinc 3 1, 3) := by decide +kernel
theorem dX8_measures_122 : decode cX8_measures 122 = .ok (.goto (-81), 3) := by decide +kernel
theorem dX8_measures_125 : decode cX8_measures 125 = .ok (.iinc 2 1, 3) := by decide +kernel
theorem dX8_measures_128 : decode cX8_measures 128 = .ok (.goto (-95), 3) := by decide +kernel
theorem dX8_measures_131 : decode cX8_measures 131 = .ok (.return_, 1) := by decide +kernel
theorem gX8_measures_X8_isOn : GoodIn wtX8_measures (va_wsS RX8 154 yX8_isOn wtX8_isOn) := tb_good (tb_s0 wd_423 wd_424 wd_5 wd_425)
set_option maxHeartbeats 4000000 in
set_option maxRecDepth 100000 in
theorem m_X8_measures (l : Launch) (D : va_G) (cI cJ : ClassId) (sz : Nat) (g g2 g3 g4 g5 g6 g7 g8 g9 g10 g12 g13 g15 g16 g17 g19 g20 g21 g22 g23 g24 g25 g26 g27 g28 g33 g34 g35 g36 g37 g38 g39 g41 g42 g44 g45 ot mn ml mv : Nat) (gi0 gi14 gi18 gi29 gi30 gi32 gi40 gi43 : Int32) (G21 G38 : Nat → Int32) (hot : ot < 8) : Met l yX8_measures wtX8_measures { frames := 1, cells := 0, slots := 0, locals := 21 } (cPc D cI cJ [.ref g, .int (nI ot)] sz [(oX8 g gi0 (nI mn) g2 g3 g4 g5 g6 g7 g8 g9 g10 (nI ml) g12 g13 gi14 g15 g16 g17 gi18 g19 g20 g21 g22 g23 g24 g25 g26 g27 g28 gi29 gi30 (nI mv) gi32 g33 g34 g35 g36 g37 g38 g39 gi40 g41 g42 gi43 g44 g45), (aIc cI g21 8 G21), (aIc cI g38 8 G38)]) (cQv D (fun u => ∃ (G38p : Nat → Int32), (FQ G21 G38p ot 8 0 0) ∧ u = [(oX8 g gi0 (nI mn) g2 g3 g4 g5 g6 g7 g8 g9 g10 (nI ml) g12 g13 gi14 g15 g16 g17 gi18 g19 g20 g21 g22 g23 g24 g25 g26 g27 g28 gi29 gi30 (nI mv) gi32 g33 g34 g35 g36 g37 g38 g39 gi40 g41 g42 gi43 g44 g45), (aIc cI g21 8 G21), (aIc cI g38 8 G38p)]) (va_A [(oX8 g gi0 (nI mn) g2 g3 g4 g5 g6 g7 g8 g9 g10 (nI ml) g12 g13 gi14 g15 g16 g17 gi18 g19 g20 g21 g22 g23 g24 g25 g26 g27 g28 gi29 gi30 (nI mv) gi32 g33 g34 g35 g36 g37 g38 g39 gi40 g41 g42 gi43 g44 g45), (aIc cI g21 8 G21), (aIc cI g38 8 G38)] sz)) 0 0 (va_A [(oX8 g gi0 (nI mn) g2 g3 g4 g5 g6 g7 g8 g9 g10 (nI ml) g12 g13 gi14 g15 g16 g17 gi18 g19 g20 g21 g22 g23 g24 g25 g26 g27 g28 gi29 gi30 (nI mv) gi32 g33 g34 g35 g36 g37 g38 g39 gi40 g41 g42 gi43 g44 g45), (aIc cI g21 8 G21), (aIc cI g38 8 G38)] sz) := by
  refine k_ofW (Qc := cQv D (fun u => ∃ (G38p : Nat → Int32), (FQ G21 G38p ot 8 0 0) ∧ u = [(oX8 g gi0 (nI mn) g2 g3 g4 g5 g6 g7 g8 g9 g10 (nI ml) g12 g13 gi14 g15 g16 g17 gi18 g19 g20 g21 g22 g23 g24 g25 g26 g27 g28 gi29 gi30 (nI mv) gi32 g33 g34 g35 g36 g37 g38 g39 gi40 g41 g42 gi43 g44 g45), (aIc cI g21 8 G21), (aIc cI g38 8 G38p)])) (by decide) rfl (Nat.le_of_ble_eq_true rfl) ?_
  intro p e s m below meth c A ls hx hb hr hml hts hown hlk hnm hsz hE hP hD hS hA hl
  have hown : s.vm.findClass RX8 = some m.cls := hown
  have hiX8 : ∀ w ∈ u_ws RX8 TX8 46, w ∈ wtX8_measures := fun w h => List.mem_cons_of_mem _ (iuX8 w h)
  have hl : lv_has ls 5 [(0, .ref g), (1, .int (nI ot))] := hl
  refine lv_iconst (v := 0) hx hb dX8_measures_0 (by decide) ?_
  refine lv_istore_n (lv' := [(2, .int 0), (0, .ref g), (1, .int (nI ot))]) hx hb dX8_measures_1 rfl hl (by decide) rfl (fun ls hl => ?_)
  have J2 : ∀ (zz : Nat) (i2 : Nat) (a_g38_2 : Nat → Int32), (i2 ≤ 8) → (∀ k, k < i2 → a_g38_2 k = nI (if k = ot then 0 else 8)) → (8 - i2) < zz → ∀ (H : Heap) (locs : List Loc) (ls : Array Slot), va_P D vwCl [(oX8 g gi0 (nI mn) g2 g3 g4 g5 g6 g7 g8 g9 g10 (nI ml) g12 g13 gi14 g15 g16 g17 gi18 g19 g20 g21 g22 g23 g24 g25 g26 g27 g28 gi29 gi30 (nI mv) gi32 g33 g34 g35 g36 g37 g38 g39 gi40 g41 g42 gi43 g44 g45), (aIc cI g21 8 G21), (aIc cI g38 8 a_g38_2)] H → va_D A [(oX8 g gi0 (nI mn) g2 g3 g4 g5 g6 g7 g8 g9 g10 (nI ml) g12 g13 gi14 g15 g16 g17 gi18 g19 g20 g21 g22 g23 g24 g25 g26 g27 g28 gi29 gi30 (nI mv) gi32 g33 g34 g35 g36 g37 g38 g39 gi40 g41 g42 gi43 g44 g45), (aIc cI g21 8 G21), (aIc cI g38 8 a_g38_2)] → va_S A s.heap H locs → lv_has ls 5 [(2, .int (nI i2)), (0, .ref g), (1, .int (nI ot))] → W p l e { frames := 1, cells := 0, slots := 0, locals := 21 } s m [.ref g, .int (nI ot)].toArray below meth c H locs 0 0 (MQ below (cQv D (fun u => ∃ (G38p : Nat → Int32), (FQ G21 G38p ot 8 0 0) ∧ u = [(oX8 g gi0 (nI mn) g2 g3 g4 g5 g6 g7 g8 g9 g10 (nI ml) g12 g13 gi14 g15 g16 g17 gi18 g19 g20 g21 g22 g23 g24 g25 g26 g27 g28 gi29 gi30 (nI mv) gi32 g33 g34 g35 g36 g37 g38 g39 gi40 g41 g42 gi43 g44 g45), (aIc cI g21 8 G21), (aIc cI g38 8 G38p)]) A) [.ref g, .int (nI ot)].toArray s 0 0 A) (F0 m 2 ls []) := by
    intro zz
    induction zz with
    | zero => intro i2 a_g38_2 _ _; exact fun h => absurd h (Nat.not_lt_zero _)
    | succ zz ih2 =>
      intro i2 a_g38_2 hc2_2 hfi_2 hmu2 H locs ls hP hD hS hl
      refine lv_iload_n hx hb dX8_measures_2 rfl (lv_at hl 0 rfl) ?_
      refine lv_bipush (v := 8) hx hb dX8_measures_3 (by decide) ?_
      refine lv_icmp_ge (tgt := 31) hx hb dX8_measures_5 (by decide) (fun c1 => ?_) (fun c1 => ?_)
      · skip
        have nc1 : 8 ≤ i2 := (nI_leI (a := 8) (b := i2) (by omega) (by omega)).mp c1
        refine lv_iconst (v := 0) hx hb dX8_measures_31 (by decide) ?_
        refine lv_istore_n (lv' := [(2, .int 0), (0, .ref g), (1, .int (nI ot))]) hx hb dX8_measures_32 rfl hl (by decide) rfl (fun ls hl => ?_)
        have J33 : ∀ (zz : Nat) (i33 : Nat) (a_g38_33 : Nat → Int32), (i33 ≤ 8) → (FQ G21 a_g38_33 ot i33 0 0) → (8 - i33) < zz → ∀ (H : Heap) (locs : List Loc) (ls : Array Slot), va_P D vwCl [(oX8 g gi0 (nI mn) g2 g3 g4 g5 g6 g7 g8 g9 g10 (nI ml) g12 g13 gi14 g15 g16 g17 gi18 g19 g20 g21 g22 g23 g24 g25 g26 g27 g28 gi29 gi30 (nI mv) gi32 g33 g34 g35 g36 g37 g38 g39 gi40 g41 g42 gi43 g44 g45), (aIc cI g21 8 G21), (aIc cI g38 8 a_g38_33)] H → va_D A [(oX8 g gi0 (nI mn) g2 g3 g4 g5 g6 g7 g8 g9 g10 (nI ml) g12 g13 gi14 g15 g16 g17 gi18 g19 g20 g21 g22 g23 g24 g25 g26 g27 g28 gi29 gi30 (nI mv) gi32 g33 g34 g35 g36 g37 g38 g39 gi40 g41 g42 gi43 g44 g45), (aIc cI g21 8 G21), (aIc cI g38 8 a_g38_33)] → va_S A s.heap H locs → lv_has ls 5 [(2, .int (nI i33)), (0, .ref g), (1, .int (nI ot))] → W p l e { frames := 1, cells := 0, slots := 0, locals := 21 } s m [.ref g, .int (nI ot)].toArray below meth c H locs 0 0 (MQ below (cQv D (fun u => ∃ (G38p : Nat → Int32), (FQ G21 G38p ot 8 0 0) ∧ u = [(oX8 g gi0 (nI mn) g2 g3 g4 g5 g6 g7 g8 g9 g10 (nI ml) g12 g13 gi14 g15 g16 g17 gi18 g19 g20 g21 g22 g23 g24 g25 g26 g27 g28 gi29 gi30 (nI mv) gi32 g33 g34 g35 g36 g37 g38 g39 gi40 g41 g42 gi43 g44 g45), (aIc cI g21 8 G21), (aIc cI g38 8 G38p)]) A) [.ref g, .int (nI ot)].toArray s 0 0 A) (F0 m 33 ls []) := by
          intro zz
          induction zz with
          | zero => intro i33 a_g38_33 _ _; exact fun h => absurd h (Nat.not_lt_zero _)
          | succ zz ih33 =>
            intro i33 a_g38_33 hc2_33 hFQ_33 hmu33 H locs ls hP hD hS hl
            refine lv_iload_n hx hb dX8_measures_33 rfl (lv_at hl 0 rfl) ?_
            refine lv_bipush (v := 8) hx hb dX8_measures_34 (by decide) ?_
            refine lv_icmp_ge (tgt := 131) hx hb dX8_measures_36 (by decide) (fun c2 => ?_) (fun c2 => ?_)
            · skip
              have nc2 : 8 ≤ i33 := (nI_leI (a := 8) (b := i33) (by omega) (by omega)).mp c2
              refine k_vret (u := [(oX8 g gi0 (nI mn) g2 g3 g4 g5 g6 g7 g8 g9 g10 (nI ml) g12 g13 gi14 g15 g16 g17 gi18 g19 g20 g21 g22 g23 g24 g25 g26 g27 g28 gi29 gi30 (nI mv) gi32 g33 g34 g35 g36 g37 g38 g39 gi40 g41 g42 gi43 g44 g45), (aIc cI g21 8 G21), (aIc cI g38 8 a_g38_33)]) hx hb hr hlk hP hD hS dX8_measures_131 ?_
              exact ⟨a_g38_33, (by obtain rfl : i33 = 8 := (by omega); exact hFQ_33), rfl⟩
            · skip
              have nc2 : ¬ 8 ≤ i33 := fun q9 => c2 ((nI_leI (a := 8) (b := i33) (by omega) (by omega)).mpr q9)
              refine lv_iconst (v := 0) hx hb dX8_measures_39 (by decide) ?_
              refine lv_istore_n (lv' := [(3, .int 0), (2, .int (nI i33)), (0, .ref g), (1, .int (nI ot))]) hx hb dX8_measures_40 rfl hl (by decide) rfl (fun ls hl => ?_)
              have J41 : ∀ (zz : Nat) (i41 : Nat) (a_g38_41 : Nat → Int32), (i41 ≤ 8) → (FQ G21 a_g38_41 ot i33 i41 0) → (8 - i41) < zz → ∀ (H : Heap) (locs : List Loc) (ls : Array Slot), va_P D vwCl [(oX8 g gi0 (nI mn) g2 g3 g4 g5 g6 g7 g8 g9 g10 (nI ml) g12 g13 gi14 g15 g16 g17 gi18 g19 g20 g21 g22 g23 g24 g25 g26 g27 g28 gi29 gi30 (nI mv) gi32 g33 g34 g35 g36 g37 g38 g39 gi40 g41 g42 gi43 g44 g45), (aIc cI g21 8 G21), (aIc cI g38 8 a_g38_41)] H → va_D A [(oX8 g gi0 (nI mn) g2 g3 g4 g5 g6 g7 g8 g9 g10 (nI ml) g12 g13 gi14 g15 g16 g17 gi18 g19 g20 g21 g22 g23 g24 g25 g26 g27 g28 gi29 gi30 (nI mv) gi32 g33 g34 g35 g36 g37 g38 g39 gi40 g41 g42 gi43 g44 g45), (aIc cI g21 8 G21), (aIc cI g38 8 a_g38_41)] → va_S A s.heap H locs → lv_has ls 5 [(3, .int (nI i41)), (2, .int (nI i33)), (0, .ref g), (1, .int (nI ot))] → W p l e { frames := 1, cells := 0, slots := 0, locals := 21 } s m [.ref g, .int (nI ot)].toArray below meth c H locs 0 0 (MQ below (cQv D (fun u => ∃ (G38p : Nat → Int32), (FQ G21 G38p ot 8 0 0) ∧ u = [(oX8 g gi0 (nI mn) g2 g3 g4 g5 g6 g7 g8 g9 g10 (nI ml) g12 g13 gi14 g15 g16 g17 gi18 g19 g20 g21 g22 g23 g24 g25 g26 g27 g28 gi29 gi30 (nI mv) gi32 g33 g34 g35 g36 g37 g38 g39 gi40 g41 g42 gi43 g44 g45), (aIc cI g21 8 G21), (aIc cI g38 8 G38p)]) A) [.ref g, .int (nI ot)].toArray s 0 0 A) (F0 m 41 ls []) := by
                intro zz
                induction zz with
                | zero => intro i41 a_g38_41 _ _; exact fun h => absurd h (Nat.not_lt_zero _)
                | succ zz ih41 =>
                  intro i41 a_g38_41 hc3_41 hFQ_41 hmu41 H locs ls hP hD hS hl
                  refine lv_iload_n hx hb dX8_measures_41 rfl (lv_at hl 0 rfl) ?_
                  refine lv_bipush (v := 8) hx hb dX8_measures_42 (by decide) ?_
                  refine lv_icmp_ge (tgt := 125) hx hb dX8_measures_44 (by decide) (fun c3 => ?_) (fun c3 => ?_)
                  · skip
                    have nc3 : 8 ≤ i41 := (nI_leI (a := 8) (b := i41) (by omega) (by omega)).mp c3
                    refine lv_iinc (v := (nI (i33 + 1))) (lv' := [(2, .int (nI (i33 + 1))), (3, .int (nI i41)), (0, .ref g), (1, .int (nI ot))]) hx hb dX8_measures_125 hl (k := 1) rfl (nI_1 _) (by decide) rfl (fun ls hl => ?_)
                    refine lv_goto (tgt := 33) hx hb dX8_measures_128 (by decide) ?_
                    exact ih33 (i33 + 1) a_g38_41 (by omega) (fq_round (by obtain rfl : i41 = 8 := (by omega); exact hFQ_41)) (by omega) _ _ _ hP hD hS (lv_sub hl [0, 2, 3] rfl)
                  · skip
                    have nc3 : ¬ 8 ≤ i41 := fun q9 => c3 ((nI_leI (a := 8) (b := i41) (by omega) (by omega)).mpr q9)
                    refine lv_iconst (v := 0) hx hb dX8_measures_47 (by decide) ?_
                    refine lv_istore (lv' := [(4, .int 0), (3, .int (nI i41)), (2, .int (nI i33)), (0, .ref g), (1, .int (nI ot))]) hx hb dX8_measures_48 hl (by decide) rfl (fun ls hl => ?_)
                    have J50 : ∀ (zz : Nat) (i50 : Nat) (a_g38_50 : Nat → Int32), (i50 ≤ 8) → (FQ G21 a_g38_50 ot i33 i41 i50) → (8 - i50) < zz → ∀ (H : Heap) (locs : List Loc) (ls : Array Slot), va_P D vwCl [(oX8 g gi0 (nI mn) g2 g3 g4 g5 g6 g7 g8 g9 g10 (nI ml) g12 g13 gi14 g15 g16 g17 gi18 g19 g20 g21 g22 g23 g24 g25 g26 g27 g28 gi29 gi30 (nI mv) gi32 g33 g34 g35 g36 g37 g38 g39 gi40 g41 g42 gi43 g44 g45), (aIc cI g21 8 G21), (aIc cI g38 8 a_g38_50)] H → va_D A [(oX8 g gi0 (nI mn) g2 g3 g4 g5 g6 g7 g8 g9 g10 (nI ml) g12 g13 gi14 g15 g16 g17 gi18 g19 g20 g21 g22 g23 g24 g25 g26 g27 g28 gi29 gi30 (nI mv) gi32 g33 g34 g35 g36 g37 g38 g39 gi40 g41 g42 gi43 g44 g45), (aIc cI g21 8 G21), (aIc cI g38 8 a_g38_50)] → va_S A s.heap H locs → lv_has ls 5 [(4, .int (nI i50)), (3, .int (nI i41)), (2, .int (nI i33)), (0, .ref g), (1, .int (nI ot))] → W p l e { frames := 1, cells := 0, slots := 0, locals := 21 } s m [.ref g, .int (nI ot)].toArray below meth c H locs 0 0 (MQ below (cQv D (fun u => ∃ (G38p : Nat → Int32), (FQ G21 G38p ot 8 0 0) ∧ u = [(oX8 g gi0 (nI mn) g2 g3 g4 g5 g6 g7 g8 g9 g10 (nI ml) g12 g13 gi14 g15 g16 g17 gi18 g19 g20 g21 g22 g23 g24 g25 g26 g27 g28 gi29 gi30 (nI mv) gi32 g33 g34 g35 g36 g37 g38 g39 gi40 g41 g42 gi43 g44 g45), (aIc cI g21 8 G21), (aIc cI g38 8 G38p)]) A) [.ref g, .int (nI ot)].toArray s 0 0 A) (F0 m 50 ls []) := by
                      intro zz
                      induction zz with
                      | zero => intro i50 a_g38_50 _ _; exact fun h => absurd h (Nat.not_lt_zero _)
                      | succ zz ih50 =>
                        intro i50 a_g38_50 hc4_50 hFQ_50 hmu50 H locs ls hP hD hS hl
                        refine lv_iload hx hb dX8_measures_50 (lv_at hl 0 rfl) ?_
                        refine lv_bipush (v := 8) hx hb dX8_measures_52 (by decide) ?_
                        refine lv_icmp_ge (tgt := 119) hx hb dX8_measures_54 (by decide) (fun c4 => ?_) (fun c4 => ?_)
                        · skip
                          have nc4 : 8 ≤ i50 := (nI_leI (a := 8) (b := i50) (by omega) (by omega)).mp c4
                          refine lv_iinc (v := (nI (i41 + 1))) (lv' := [(3, .int (nI (i41 + 1))), (4, .int (nI i50)), (2, .int (nI i33)), (0, .ref g), (1, .int (nI ot))]) hx hb dX8_measures_119 hl (k := 1) rfl (nI_1 _) (by decide) rfl (fun ls hl => ?_)
                          refine lv_goto (tgt := 41) hx hb dX8_measures_122 (by decide) ?_
                          exact ih41 (i41 + 1) a_g38_50 (by omega) (fq_row (by obtain rfl : i50 = 8 := (by omega); exact hFQ_50)) (by omega) _ _ _ hP hD hS (lv_sub hl [0, 2, 3, 4] rfl)
                        · skip
                          have nc4 : ¬ 8 ≤ i50 := fun q9 => c4 ((nI_leI (a := 8) (b := i50) (by omega) (by omega)).mpr q9)
                          obtain ⟨fr, hfv, hfb, hf0, hfe, hfa, hfp⟩ := hFQ_50
                          refine lv_aload_n hx hb dX8_measures_57 rfl (lv_at hl 3 rfl) ?_
                          refine va_get (D := D) (ci := 8) (v := .ref g38) (C := RX8) (T := TX8) (N := 46) hx hb hts hiX8 hown hE.1 hP 0 rfl rfl 38 (by decide) (hts _ (List.mem_cons_of_mem _ wd_145)) (fun _ h9 => h9) rfl dX8_measures_58 ?_
                          refine lv_iload_n hx hb dX8_measures_61 rfl (lv_at hl 1 rfl) ?_
                          refine lv_aload_n hx hb dX8_measures_62 rfl (lv_at hl 3 rfl) ?_
                          refine va_get (D := D) (ci := 8) (v := .ref g21) (C := RX8) (T := TX8) (N := 46) hx hb hts hiX8 hown hE.1 hP 0 rfl rfl 21 (by decide) (hts _ (List.mem_cons_of_mem _ wd_132)) (fun _ h9 => h9) rfl dX8_measures_63 ?_
                          refine lv_iload_n hx hb dX8_measures_66 rfl (lv_at hl 1 rfl) ?_
                          refine va_iald hx hb hE.1 hP 1 0 rfl rfl (vp_in_nI (n := i41) (by omega) (by decide)) dX8_measures_67 ?_
                          refine lv_topi (fun v5 ev5 => ?_)
                          refine lv_iload hx hb dX8_measures_68 (lv_at hl 0 rfl) ?_
                          refine k_iS (va_runS (As := [.int v5, .int (nI i50)]) (rest := [.int (nI i41), .ref g38]) ⟨hx, hb, hml, hown, hts⟩ (m_X8_isOn l D cI cJ H.size v5 (nI i50)) (va_cwS 2 hts gX8_measures_X8_isOn rfl rfl rfl (by decide +kernel) ⟨Nat.le_of_ble_eq_true rfl, Nat.le_of_ble_eq_true rfl⟩) (k_pre hE hP hD [] (by decide +kernel) rfl) rfl rfl hl.1 rfl (lv_room (Nat.le_of_ble_eq_true rfl)) dX8_measures_70 ⟨Nat.le_of_ble_eq_true rfl, Nat.le_of_ble_eq_true rfl⟩) hP hD hS hA [] rfl (fun _ _ h9 => h9.2) (fun r6 H locs hw7 hP hD hS => ?_)
                          obtain ⟨hw7, -⟩ := hw7
                          refine lv_if_eq (tgt := 106) hx hb dX8_measures_73 (by decide) (fun c8 => ?_) (fun c8 => ?_)
                          · skip
                            have hc8 : ¬ ((v5 >>> ((nI i50) &&& 31)) &&& 1 = 1) := bz_0 hw7 c8
                            refine lv_aload_n hx hb dX8_measures_106 rfl (lv_at hl 3 rfl) ?_
                            refine va_get (D := D) (ci := 8) (v := .ref g38) (C := RX8) (T := TX8) (N := 46) hx hb hts hiX8 hown hE.1 hP 0 rfl rfl 38 (by decide) (hts _ (List.mem_cons_of_mem _ wd_145)) (fun _ h9 => h9) rfl dX8_measures_107 ?_
                            refine lv_iload_n hx hb dX8_measures_110 rfl (lv_at hl 1 rfl) ?_
                            refine va_iald hx hb hE.1 hP 2 0 rfl rfl (vp_in_nI (n := i41) (by omega) (by decide)) dX8_measures_111 ?_
                            refine lv_topi (fun v9 ev9 => ?_)
                            have hfb_ := hfb i41 (by omega)
                            obtain rfl : v9 = nI (fr i41) := ev9.trans (nv_at hfv (by omega))
                            refine va_iast hx hb hE.1 hP hD hS 2 0 rfl rfl (vp_in_nI (n := i41) (by omega) (by decide)) dX8_measures_112 (fun H locs hP hD hS => ?_)
                            refine k_re (w := [(oX8 g gi0 (nI mn) g2 g3 g4 g5 g6 g7 g8 g9 g10 (nI ml) g12 g13 gi14 g15 g16 g17 gi18 g19 g20 g21 g22 g23 g24 g25 g26 g27 g28 gi29 gi30 (nI mv) gi32 g33 g34 g35 g36 g37 g38 g39 gi40 g41 g42 gi43 g44 g45), (aIc cI g21 8 G21), (aIc cI g38 8 (upd a_g38_50 (Int32.toNatClampNeg (nI i41)) (nI (fr i41))))]) hP hD (fun hP hD => ?_)
                            refine lv_iinc (v := (nI (i50 + 1))) (lv' := [(4, .int (nI (i50 + 1))), (3, .int (nI i41)), (2, .int (nI i33)), (0, .ref g), (1, .int (nI ot))]) hx hb dX8_measures_113 hl (k := 0) rfl (nI_1 _) (by decide) rfl (fun ls hl => ?_)
                            refine lv_goto (tgt := 50) hx hb dX8_measures_116 (by decide) ?_
                            exact ih50 (i50 + 1) (upd a_g38_50 (Int32.toNatClampNeg (nI i41)) (nI (fr i41))) (by omega) (fq_new (by omega) (by omega) hfv hfb hf0 hfe hfa hfp (fr i41) (Or.inl ⟨rfl, fun z => absurd ((fq_bt (by omega) (by omega) ev5).mpr z) hc8⟩)) (by omega) _ _ _ hP hD hS (lv_sub hl [0, 1, 2, 3, 4] rfl)
                          · skip
                            have hc8 : (v5 >>> ((nI i50) &&& 31)) &&& 1 = 1 := bz_1 hw7 c8
                            refine lv_aload_n hx hb dX8_measures_76 rfl (lv_at hl 3 rfl) ?_
                            refine va_get (D := D) (ci := 8) (v := .ref g38) (C := RX8) (T := TX8) (N := 46) hx hb hts hiX8 hown hE.1 hP 0 rfl rfl 38 (by decide) (hts _ (List.mem_cons_of_mem _ wd_145)) (fun _ h9 => h9) rfl dX8_measures_77 ?_
                            refine lv_iload hx hb dX8_measures_80 (lv_at hl 0 rfl) ?_
                            refine va_iald hx hb hE.1 hP 2 0 rfl rfl (vp_in_nI (n := i50) (by omega) (by decide)) dX8_measures_82 ?_
                            refine lv_topi (fun v10 ev10 => ?_)
                            have hfb_ := hfb i50 (by omega)
                            obtain rfl : v10 = nI (fr i50) := ev10.trans (nv_at hfv (by omega))
                            refine lv_iconst (v := 1) hx hb dX8_measures_83 (by decide) ?_
                            refine lv_iadd hx hb dX8_measures_84 ?_
                            refine lv_topi (fun v11 ev11 => ?_)
                            obtain rfl : v11 = (nI ((fr i50) + 1)) := by rw [ev11]; exact nI_add (fr i50) 1
                            refine lv_aload_n hx hb dX8_measures_85 rfl (lv_at hl 3 rfl) ?_
                            refine va_get (D := D) (ci := 8) (v := .ref g38) (C := RX8) (T := TX8) (N := 46) hx hb hts hiX8 hown hE.1 hP 0 rfl rfl 38 (by decide) (hts _ (List.mem_cons_of_mem _ wd_145)) (fun _ h9 => h9) rfl dX8_measures_86 ?_
                            refine lv_iload_n hx hb dX8_measures_89 rfl (lv_at hl 1 rfl) ?_
                            refine va_iald hx hb hE.1 hP 2 0 rfl rfl (vp_in_nI (n := i41) (by omega) (by decide)) dX8_measures_90 ?_
                            refine lv_topi (fun v12 ev12 => ?_)
                            have hfb_ := hfb i41 (by omega)
                            obtain rfl : v12 = nI (fr i41) := ev12.trans (nv_at hfv (by omega))
                            refine lv_icmp_ge (tgt := 106) hx hb dX8_measures_91 (by decide) (fun c13 => ?_) (fun c13 => ?_)
                            · skip
                              have nc13 : fr i41 ≤ (fr i50) + 1 := (nI_leI (a := (fr i41)) (b := ((fr i50) + 1)) (by omega) (by omega)).mp c13
                              refine lv_aload_n hx hb dX8_measures_106 rfl (lv_at hl 3 rfl) ?_
                              refine va_get (D := D) (ci := 8) (v := .ref g38) (C := RX8) (T := TX8) (N := 46) hx hb hts hiX8 hown hE.1 hP 0 rfl rfl 38 (by decide) (hts _ (List.mem_cons_of_mem _ wd_145)) (fun _ h9 => h9) rfl dX8_measures_107 ?_
                              refine lv_iload_n hx hb dX8_measures_110 rfl (lv_at hl 1 rfl) ?_
                              refine va_iald hx hb hE.1 hP 2 0 rfl rfl (vp_in_nI (n := i41) (by omega) (by decide)) dX8_measures_111 ?_
                              refine lv_topi (fun v14 ev14 => ?_)
                              have hfb_ := hfb i41 (by omega)
                              obtain rfl : v14 = nI (fr i41) := ev14.trans (nv_at hfv (by omega))
                              refine va_iast hx hb hE.1 hP hD hS 2 0 rfl rfl (vp_in_nI (n := i41) (by omega) (by decide)) dX8_measures_112 (fun H locs hP hD hS => ?_)
                              refine k_re (w := [(oX8 g gi0 (nI mn) g2 g3 g4 g5 g6 g7 g8 g9 g10 (nI ml) g12 g13 gi14 g15 g16 g17 gi18 g19 g20 g21 g22 g23 g24 g25 g26 g27 g28 gi29 gi30 (nI mv) gi32 g33 g34 g35 g36 g37 g38 g39 gi40 g41 g42 gi43 g44 g45), (aIc cI g21 8 G21), (aIc cI g38 8 (upd a_g38_50 (Int32.toNatClampNeg (nI i41)) (nI (fr i41))))]) hP hD (fun hP hD => ?_)
                              refine lv_iinc (v := (nI (i50 + 1))) (lv' := [(4, .int (nI (i50 + 1))), (3, .int (nI i41)), (2, .int (nI i33)), (0, .ref g), (1, .int (nI ot))]) hx hb dX8_measures_113 hl (k := 0) rfl (nI_1 _) (by decide) rfl (fun ls hl => ?_)
                              refine lv_goto (tgt := 50) hx hb dX8_measures_116 (by decide) ?_
                              exact ih50 (i50 + 1) (upd a_g38_50 (Int32.toNatClampNeg (nI i41)) (nI (fr i41))) (by omega) (fq_new (by omega) (by omega) hfv hfb hf0 hfe hfa hfp (fr i41) (Or.inl ⟨rfl, fun _ => by omega⟩)) (by omega) _ _ _ hP hD hS (lv_sub hl [0, 1, 2, 3, 4] rfl)
                            · skip
                              have nc13 : ¬ fr i41 ≤ (fr i50) + 1 := fun q9 => c13 ((nI_leI (a := (fr i41)) (b := ((fr i50) + 1)) (by omega) (by omega)).mpr q9)
                              refine lv_aload_n hx hb dX8_measures_94 rfl (lv_at hl 3 rfl) ?_
                              refine va_get (D := D) (ci := 8) (v := .ref g38) (C := RX8) (T := TX8) (N := 46) hx hb hts hiX8 hown hE.1 hP 0 rfl rfl 38 (by decide) (hts _ (List.mem_cons_of_mem _ wd_145)) (fun _ h9 => h9) rfl dX8_measures_95 ?_
                              refine lv_iload hx hb dX8_measures_98 (lv_at hl 0 rfl) ?_
                              refine va_iald hx hb hE.1 hP 2 0 rfl rfl (vp_in_nI (n := i50) (by omega) (by decide)) dX8_measures_100 ?_
                              refine lv_topi (fun v15 ev15 => ?_)
                              have hfb_ := hfb i50 (by omega)
                              obtain rfl : v15 = nI (fr i50) := ev15.trans (nv_at hfv (by omega))
                              refine lv_iconst (v := 1) hx hb dX8_measures_101 (by decide) ?_
                              refine lv_iadd hx hb dX8_measures_102 ?_
                              refine lv_topi (fun v16 ev16 => ?_)
                              obtain rfl : v16 = (nI ((fr i50) + 1)) := by rw [ev16]; exact nI_add (fr i50) 1
                              refine lv_goto (tgt := 112) hx hb dX8_measures_103 (by decide) ?_
                              refine va_iast hx hb hE.1 hP hD hS 2 0 rfl rfl (vp_in_nI (n := i41) (by omega) (by decide)) dX8_measures_112 (fun H locs hP hD hS => ?_)
                              refine k_re (w := [(oX8 g gi0 (nI mn) g2 g3 g4 g5 g6 g7 g8 g9 g10 (nI ml) g12 g13 gi14 g15 g16 g17 gi18 g19 g20 g21 g22 g23 g24 g25 g26 g27 g28 gi29 gi30 (nI mv) gi32 g33 g34 g35 g36 g37 g38 g39 gi40 g41 g42 gi43 g44 g45), (aIc cI g21 8 G21), (aIc cI g38 8 (upd a_g38_50 (Int32.toNatClampNeg (nI i41)) (nI ((fr i50) + 1))))]) hP hD (fun hP hD => ?_)
                              refine lv_iinc (v := (nI (i50 + 1))) (lv' := [(4, .int (nI (i50 + 1))), (3, .int (nI i41)), (2, .int (nI i33)), (0, .ref g), (1, .int (nI ot))]) hx hb dX8_measures_113 hl (k := 0) rfl (nI_1 _) (by decide) rfl (fun ls hl => ?_)
                              refine lv_goto (tgt := 50) hx hb dX8_measures_116 (by decide) ?_
                              exact ih50 (i50 + 1) (upd a_g38_50 (Int32.toNatClampNeg (nI i41)) (nI ((fr i50) + 1))) (by omega) (fq_new (by omega) (by omega) hfv hfb hf0 hfe hfa hfp (fr i50 + 1) (Or.inr ⟨rfl, (fq_bt (by omega) (by omega) ev5).mp hc8, by omega⟩)) (by omega) _ _ _ hP hD hS (lv_sub hl [0, 1, 2, 3, 4] rfl)
                    exact J50 _ 0 a_g38_41 (by omega) hFQ_41 (Nat.lt_succ_self _) _ _ _ hP hD hS (lv_sub hl [0, 1, 2, 3, 4] rfl)
              exact J41 _ 0 a_g38_33 (by omega) hFQ_33 (Nat.lt_succ_self _) _ _ _ hP hD hS (lv_sub hl [0, 1, 2, 3] rfl)
        exact J33 _ 0 a_g38_2 (by omega) (fq_0 hot (fun k hk => hfi_2 k (by omega))) (Nat.lt_succ_self _) _ _ _ hP hD hS (lv_sub hl [0, 1, 2] rfl)
      · skip
        have nc1 : ¬ 8 ≤ i2 := fun q9 => c1 ((nI_leI (a := 8) (b := i2) (by omega) (by omega)).mpr q9)
        refine lv_aload_n hx hb dX8_measures_8 rfl (lv_at hl 1 rfl) ?_
        refine va_get (D := D) (ci := 8) (v := .ref g38) (C := RX8) (T := TX8) (N := 46) hx hb hts hiX8 hown hE.1 hP 0 rfl rfl 38 (by decide) (hts _ (List.mem_cons_of_mem _ wd_145)) (fun _ h9 => h9) rfl dX8_measures_9 ?_
        refine lv_iload_n hx hb dX8_measures_12 rfl (lv_at hl 0 rfl) ?_
        refine lv_iload_n hx hb dX8_measures_13 rfl (lv_at hl 0 rfl) ?_
        refine lv_iload_n hx hb dX8_measures_14 rfl (lv_at hl 2 rfl) ?_
        refine lv_icmp_ne (tgt := 22) hx hb dX8_measures_15 (by decide) (fun c17 => ?_) (fun c17 => ?_)
        · skip
          have nc17 : ¬ i2 = ot := fun q9 => c17 ((nI_eq (a := i2) (b := ot) (by omega) (by omega)).mpr q9)
          refine lv_bipush (v := 8) hx hb dX8_measures_22 (by decide) ?_
          refine va_iast hx hb hE.1 hP hD hS 2 0 rfl rfl (vp_in_nI (n := i2) (by omega) (by decide)) dX8_measures_24 (fun H locs hP hD hS => ?_)
          refine k_re (w := [(oX8 g gi0 (nI mn) g2 g3 g4 g5 g6 g7 g8 g9 g10 (nI ml) g12 g13 gi14 g15 g16 g17 gi18 g19 g20 g21 g22 g23 g24 g25 g26 g27 g28 gi29 gi30 (nI mv) gi32 g33 g34 g35 g36 g37 g38 g39 gi40 g41 g42 gi43 g44 g45), (aIc cI g21 8 G21), (aIc cI g38 8 (upd a_g38_2 (Int32.toNatClampNeg (nI i2)) 8))]) hP hD (fun hP hD => ?_)
          refine lv_iinc (v := (nI (i2 + 1))) (lv' := [(2, .int (nI (i2 + 1))), (0, .ref g), (1, .int (nI ot))]) hx hb dX8_measures_25 hl (k := 0) rfl (nI_1 _) (by decide) rfl (fun ls hl => ?_)
          refine lv_goto (tgt := 2) hx hb dX8_measures_28 (by decide) ?_
          exact ih2 (i2 + 1) (upd a_g38_2 (Int32.toNatClampNeg (nI i2)) 8) (by omega) (fi_up (x := 8) (by omega) (by rw [if_neg (by omega)]) hfi_2) (by omega) _ _ _ hP hD hS (lv_sub hl [0, 1, 2] rfl)
        · skip
          have nc17 : i2 = ot := (nI_eq (a := i2) (b := ot) (by omega) (by omega)).mp c17
          refine lv_iconst (v := 0) hx hb dX8_measures_18 (by decide) ?_
          refine lv_goto (tgt := 24) hx hb dX8_measures_19 (by decide) ?_
          refine va_iast hx hb hE.1 hP hD hS 2 0 rfl rfl (vp_in_nI (n := i2) (by omega) (by decide)) dX8_measures_24 (fun H locs hP hD hS => ?_)
          refine k_re (w := [(oX8 g gi0 (nI mn) g2 g3 g4 g5 g6 g7 g8 g9 g10 (nI ml) g12 g13 gi14 g15 g16 g17 gi18 g19 g20 g21 g22 g23 g24 g25 g26 g27 g28 gi29 gi30 (nI mv) gi32 g33 g34 g35 g36 g37 g38 g39 gi40 g41 g42 gi43 g44 g45), (aIc cI g21 8 G21), (aIc cI g38 8 (upd a_g38_2 (Int32.toNatClampNeg (nI i2)) 0))]) hP hD (fun hP hD => ?_)
          refine lv_iinc (v := (nI (i2 + 1))) (lv' := [(2, .int (nI (i2 + 1))), (0, .ref g), (1, .int (nI ot))]) hx hb dX8_measures_25 hl (k := 0) rfl (nI_1 _) (by decide) rfl (fun ls hl => ?_)
          refine lv_goto (tgt := 2) hx hb dX8_measures_28 (by decide) ?_
          exact ih2 (i2 + 1) (upd a_g38_2 (Int32.toNatClampNeg (nI i2)) 0) (by omega) (fi_up (x := 0) (by omega) (by rw [if_pos (by omega)]) hfi_2) (by omega) _ _ _ hP hD hS (lv_sub hl [0, 1, 2] rfl)
  exact J2 _ 0 G38 (by omega) (fun k hk => absurd hk (Nat.not_lt_zero k)) (Nat.lt_succ_self _) _ _ _ hP hD hS (lv_sub hl [0, 1, 2] rfl)
theorem dX8_way_0 : decode cX8_way 0 = .ok (.aload_n 0, 1) := by decide +kernel
theorem dX8_way_1 : decode cX8_way 1 = .ok (.iload_n 1, 1) := by decide +kernel
theorem dX8_way_2 : decode cX8_way 2 = .ok (.iload_n 2, 1) := by decide +kernel
theorem dX8_way_3 : decode cX8_way 3 = .ok (.invokevirtual 264, 3) := by decide +kernel
theorem dX8_way_6 : decode cX8_way 6 = .ok (.ifCond .eq 16, 3) := by decide +kernel
theorem dX8_way_9 : decode cX8_way 9 = .ok (.aload_n 0, 1) := by decide +kernel
theorem dX8_way_10 : decode cX8_way 10 = .ok (.iload_n 3, 1) := by decide +kernel
theorem dX8_way_11 : decode cX8_way 11 = .ok (.invokevirtual 140, 3) := by decide +kernel
theorem dX8_way_14 : decode cX8_way 14 = .ok (.ifCond .eq 8, 3) := by decide +kernel
theorem dX8_way_17 : decode cX8_way 17 = .ok (.iload_n 2, 1) := by decide +kernel
theorem dX8_way_18 : decode cX8_way 18 = .ok (.iload_n 3, 1) := by decide +kernel
theorem dX8_way_19 : decode cX8_way 19 = .ok (.if_icmp .ne 5, 3) := by decide +kernel
theorem dX8_way_22 : decode cX8_way 22 = .ok (.iconst (-1), 1) := by decide +kernel
theorem dX8_way_23 : decode cX8_way 23 = .ok (.ireturn, 1) := by decide +kernel
theorem dX8_way_24 : decode cX8_way 24 = .ok (.aload_n 0, 1) := by decide +kernel
theorem dX8_way_25 : decode cX8_way 25 = .ok (.iload_n 3, 1) := by decide +kernel
theorem dX8_way_26 : decode cX8_way 26 = .ok (.invokevirtual 279, 3) := by decide +kernel
theorem dX8_way_29 : decode cX8_way 29 = .ok (.aload_n 0, 1) := by decide +kernel
theorem dX8_way_30 : decode cX8_way 30 = .ok (.getfield 98, 3) := by decide +kernel
theorem dX8_way_33 : decode cX8_way 33 = .ok (.iload_n 2, 1) := by decide +kernel
theorem dX8_way_34 : decode cX8_way 34 = .ok (.iaload, 1) := by decide +kernel
theorem dX8_way_35 : decode cX8_way 35 = .ok (.bipush 8, 2) := by decide +kernel
theorem dX8_way_37 : decode cX8_way 37 = .ok (.if_icmp .ne 5, 3) := by decide +kernel
theorem dX8_way_40 : decode cX8_way 40 = .ok (.iconst (-1), 1) := by decide +kernel
theorem dX8_way_41 : decode cX8_way 41 = .ok (.ireturn, 1) := by decide +kernel
theorem dX8_way_42 : decode cX8_way 42 = .ok (.iload 4, 2) := by decide +kernel
theorem dX8_way_44 : decode cX8_way 44 = .ok (.iconst (-1), 1) := by decide +kernel
theorem dX8_way_45 : decode cX8_way 45 = .ok (.if_icmp .ne 12, 3) := by decide +kernel
theorem dX8_way_48 : decode cX8_way 48 = .ok (.aload_n 0, 1) := by decide +kernel
theorem dX8_way_49 : decode cX8_way 49 = .ok (.getfield 98, 3) := by decide +kernel
theorem dX8_way_52 : decode cX8_way 52 = .ok (.iload_n 2, 1) := by decide +kernel
theorem dX8_way_53 : decode cX8_way 53 = .ok (.iaload, 1) := by decide +kernel
theorem dX8_way_54 : decode cX8_way 54 = .ok (.iconst 1, 1) := by decide +kernel
theorem dX8_way_55 : decode cX8_way 55 = .ok (.iadd, 1) := by decide +kernel
theorem dX8_way_56 : decode cX8_way 56 = .ok (.ireturn, 1) := by decide +kernel
theorem dX8_way_57 : decode cX8_way 57 = .ok (.iload 4, 2) := by decide +kernel
theorem dX8_way_59 : decode cX8_way 59 = .ok (.i2l, 1) := by decide +kernel
theorem dX8_way_60 : decode cX8_way 60 = .ok (.lconst 0, 1) := by decide +kernel
theorem dX8_way_61 : decode cX8_way 61 = .ok (.aload_n 0, 1) := by decide +kernel
theorem dX8_way_62 : decode cX8_way 62 = .ok (.getfield 98, 3) := by decide +kernel
theorem dX8_way_65 : decode cX8_way 65 = .ok (.iload_n 2, 1) := by decide +kernel
theorem dX8_way_66 : decode cX8_way 66 = .ok (.iaload, 1) := by decide +kernel
theorem dX8_way_67 : decode cX8_way 67 = .ok (.i2l, 1) := by decide +kernel
theorem dX8_way_68 : decode cX8_way 68 = .ok (.invokestatic 123, 3) := by decide +kernel
theorem dX8_way_71 : decode cX8_way 71 = .ok (.ifCond .ne 5, 3) := by decide +kernel
theorem dX8_way_74 : decode cX8_way 74 = .ok (.iconst (-1), 1) := by decide +kernel
theorem dX8_way_75 : decode cX8_way 75 = .ok (.ireturn, 1) := by decide +kernel
theorem dX8_way_76 : decode cX8_way 76 = .ok (.iload_n 2, 1) := by decide +kernel
theorem dX8_way_77 : decode cX8_way 77 = .ok (.istore 5, 2) := by decide +kernel
theorem dX8_way_79 : decode cX8_way 79 = .ok (.iconst 0, 1) := by decide +kernel
theorem dX8_way_80 : decode cX8_way 80 = .ok (.istore 6, 2) := by decide +kernel
theorem dX8_way_82 : decode cX8_way 82 = .ok (.iload 6, 2) := by decide +kernel
theorem dX8_way_84 : decode cX8_way 84 = .ok (.iload 4, 2) := by decide +kernel
theorem dX8_way_86 : decode cX8_way 86 = .ok (.if_icmp .ge 56, 3) := by decide +kernel
theorem dX8_way_89 : decode cX8_way 89 = .ok (.iconst 0, 1) := by decide +kernel
theorem dX8_way_90 : decode cX8_way 90 = .ok (.istore 7, 2) := by decide +kernel
theorem dX8_way_92 : decode cX8_way 92 = .ok (.aload_n 0, 1) := by decide +kernel
theorem dX8_way_93 : decode cX8_way 93 = .ok (.getfield 58, 3) := by decide +kernel
theorem dX8_way_96 : decode cX8_way 96 = .ok (.iload 5, 2) := by decide +kernel
theorem dX8_way_98 : decode cX8_way 98 = .ok (.iaload, 1) := by decide +kernel
theorem dX8_way_99 : decode cX8_way 99 = .ok (.iload 7, 2) := by decide +kernel
theorem dX8_way_101 : decode cX8_way 101 = .ok (.invokestatic 154, 3) := by decide +kernel
theorem dX8_way_104 : decode cX8_way 104 = .ok (.ifCond .eq 22, 3) := by decide +kernel
theorem dX8_way_107 : decode cX8_way 107 = .ok (.aload_n 0, 1) := by decide +kernel
theorem dX8_way_108 : decode cX8_way 108 = .ok (.getfield 98, 3) := by decide +kernel
theorem dX8_way_111 : decode cX8_way 111 = .ok (.iload 7, 2) := by decide +kernel
theorem dX8_way_113 : decode cX8_way 113 = .ok (.iaload, 1) := by decide +kernel
theorem dX8_way_114 : decode cX8_way 114 = .ok (.aload_n 0, 1) := by decide +kernel
theorem dX8_way_115 : decode cX8_way 115 = .ok (.getfield 98, 3) := by decide +kernel
theorem dX8_way_118 : decode cX8_way 118 = .ok (.iload 5, 2) := by decide +kernel
theorem dX8_way_120 : decode cX8_way 120 = .ok (.iaload, 1) := by decide +kernel
theorem dX8_way_121 : decode cX8_way 121 = .ok (.iconst 1, 1) := by decide +kernel
theorem dX8_way_122 : decode cX8_way 122 = .ok (.isub, 1) := by decide +kernel
theorem dX8_way_123 : decode cX8_way 123 = .ok (.if_icmp .eq 9, 3) := by decide +kernel
theorem dX8_way_126 : decode cX8_way 126 = .ok (.iinc 7 1, 3) := by decide +kernel
theorem dX8_way_129 : decode cX8_way 129 = .ok (.goto (-37), 3) := by decide +kernel
theorem dX8_way_132 : decode cX8_way 132 = .ok (.iload 7, 2) := by decide +kernel
theorem dX8_way_134 : decode cX8_way 134 = .ok (.istore 5, 2) := by decide +kernel
theorem dX8_way_136 : decode cX8_way 136 = .ok (.iinc 6 1, 3) := by decide +kernel
theorem dX8_way_139 : decode cX8_way 139 = .ok (.goto (-57), 3) := by decide +kernel
theorem dX8_way_142 : decode cX8_way 142 = .ok (.iload 5, 2) := by decide +kernel
theorem dX8_way_144 : decode cX8_way 144 = .ok (.ireturn, 1) := by decide +kernel
theorem gX8_way_X8_in : GoodIn wtX8_way (va_wsS RX8 123 yX8_in wtX8_in) := tb_good (tb_s0 wd_177 wd_178 wd_5 wd_179)
theorem gX8_way_X8_isBoth : GoodIn wtX8_way (wsV RX8 264 RX8 yX8_isBoth wtX8_isBoth) := tb_good (tb_v0 wd_611 wd_612 wd_613 wd_5 wd_614)
theorem gX8_way_X8_isOn : GoodIn wtX8_way (va_wsS RX8 154 yX8_isOn wtX8_isOn) := tb_good (tb_s0 wd_423 wd_424 wd_5 wd_425)
theorem gX8_way_X8_isPolicy : GoodIn wtX8_way (wsV RX8 140 RX8 yX8_isPolicy wtX8_isPolicy) := tb_good (tb_v0 wd_198 wd_199 wd_200 wd_5 wd_201)
theorem gX8_way_X8_measures : GoodIn wtX8_way (wsV RX8 279 RX8 yX8_measures wtX8_measures) := tb_good (tb_v0 wd_715 wd_716 wd_717 wd_5 wd_718)
set_option maxHeartbeats 4000000 in
set_option maxRecDepth 100000 in
theorem m_X8_way (l : Launch) (D : va_G) (cI cJ : ClassId) (sz : Nat) (g g2 g3 g4 g5 g6 g7 g8 g9 g10 g12 g13 g15 g16 g17 g19 g20 g21 g22 g23 g24 g25 g26 g27 g28 g33 g34 g35 g36 g37 g38 g39 g41 g42 g44 g45 mn ml mv tt : Nat) (gi0 gi14 gi18 gi29 gi30 gi40 gi43 p0 p1 p2 p3 : Int32) (G2 G3 G4 G5 G6 G7 G8 G10 G12 G13 G19 G20 G21 G22 G23 G24 G25 G26 G27 G28 G33 G34 G35 G36 : Nat → Int32) (G37 : Nat → Int64) (G38 : Nat → Int32) (li0 wo0 de0 ag0 : Nat → Nat) (hmn : mn ≤ 8) (hmL : ml ≤ 10) (hit : ∀ k, k < 10 → ∃ j : Nat, j < 8 ∧ G12 k = nI j) (hsu : ∀ k, k < 64 → ∃ j : Nat, j ≤ 1000001 ∧ G10 k = nI j) (hliv : nv G2 li0) (hlib : ∀ k, k < 8 → li0 k ≤ 1000000) (hwov : nv G5 wo0) (hwob : ∀ k, k < 8 → wo0 k ≤ 9000000) (hdev : nv G4 de0) (hdeb : ∀ k, k < 8 → de0 k ≤ 99999) (hagv : nv G3 ag0) (hagb : ∀ k, k < 8 → ag0 k ≤ 9000000) (hamt : ∀ k, k < 10 → ∃ j : Nat, j < 1000001 ∧ G13 k = nI j) (hLE : LE G19) (hLO : LO G20) (hLW : LW G25) (hSH : SH G27 tt) (htt : tt ≤ 1000000) (hmv : mv ≤ 8) : Met l yX8_way wtX8_way { frames := 9, cells := 0, slots := 0, locals := 211 } (cPc D cI cJ [.ref g, .int p0, .int p1, .int p2, .int p3] sz [(oX8 g gi0 (nI mn) g2 g3 g4 g5 g6 g7 g8 g9 g10 (nI ml) g12 g13 gi14 g15 g16 g17 gi18 g19 g20 g21 g22 g23 g24 g25 g26 g27 g28 gi29 gi30 (nI mv) (nI tt) g33 g34 g35 g36 g37 g38 g39 gi40 g41 g42 gi43 g44 g45), (aIc cI g2 8 G2), (aIc cI g3 8 G3), (aIc cI g4 8 G4), (aIc cI g5 8 G5), (aIc cI g6 8 G6), (aIc cI g7 8 G7), (aIc cI g8 8 G8), (aIc cI g10 64 G10), (aIc cI g12 10 G12), (aIc cI g13 10 G13), (aIc cI g19 8 G19), (aIc cI g20 8 G20), (aIc cI g21 8 G21), (aIc cI g22 8 G22), (aIc cI g23 8 G23), (aIc cI g24 8 G24), (aIc cI g25 8 G25), (aIc cI g26 8 G26), (aIc cI g27 8 G27), (aIc cI g28 8 G28), (aIc cI g33 8 G33), (aIc cI g34 8 G34), (aIc cI g35 8 G35), (aIc cI g36 8 G36), (aJc cJ g37 8 G37), (aIc cI g38 8 G38)]) (cQi D (fun r u => ∃ (G19p G20p G21p G22p G23p G24p G25p G26p G27p G28p G33p G34p G35p G36p : Nat → Int32) (G37p : Nat → Int64) (gi29p gi30p gi18p : Int32) (mvp ttp : Nat) (gi0p : Int32) (G38p : Nat → Int32), (LE G19p) ∧ (LO G20p) ∧ (LW G25p) ∧ (SH G27p ttp) ∧ (ttp ≤ 1000000) ∧ (mvp ≤ 8) ∧ u = [(oX8 g gi0p (nI mn) g2 g3 g4 g5 g6 g7 g8 g9 g10 (nI ml) g12 g13 gi14 g15 g16 g17 gi18p g19 g20 g21 g22 g23 g24 g25 g26 g27 g28 gi29p gi30p (nI mvp) (nI ttp) g33 g34 g35 g36 g37 g38 g39 gi40 g41 g42 gi43 g44 g45), (aIc cI g2 8 G2), (aIc cI g3 8 G3), (aIc cI g4 8 G4), (aIc cI g5 8 G5), (aIc cI g6 8 G6), (aIc cI g7 8 G7), (aIc cI g8 8 G8), (aIc cI g10 64 G10), (aIc cI g12 10 G12), (aIc cI g13 10 G13), (aIc cI g19 8 G19p), (aIc cI g20 8 G20p), (aIc cI g21 8 G21p), (aIc cI g22 8 G22p), (aIc cI g23 8 G23p), (aIc cI g24 8 G24p), (aIc cI g25 8 G25p), (aIc cI g26 8 G26p), (aIc cI g27 8 G27p), (aIc cI g28 8 G28p), (aIc cI g33 8 G33p), (aIc cI g34 8 G34p), (aIc cI g35 8 G35p), (aIc cI g36 8 G36p), (aJc cJ g37 8 G37p), (aIc cI g38 8 G38p)]) (va_A [(oX8 g gi0 (nI mn) g2 g3 g4 g5 g6 g7 g8 g9 g10 (nI ml) g12 g13 gi14 g15 g16 g17 gi18 g19 g20 g21 g22 g23 g24 g25 g26 g27 g28 gi29 gi30 (nI mv) (nI tt) g33 g34 g35 g36 g37 g38 g39 gi40 g41 g42 gi43 g44 g45), (aIc cI g2 8 G2), (aIc cI g3 8 G3), (aIc cI g4 8 G4), (aIc cI g5 8 G5), (aIc cI g6 8 G6), (aIc cI g7 8 G7), (aIc cI g8 8 G8), (aIc cI g10 64 G10), (aIc cI g12 10 G12), (aIc cI g13 10 G13), (aIc cI g19 8 G19), (aIc cI g20 8 G20), (aIc cI g21 8 G21), (aIc cI g22 8 G22), (aIc cI g23 8 G23), (aIc cI g24 8 G24), (aIc cI g25 8 G25), (aIc cI g26 8 G26), (aIc cI g27 8 G27), (aIc cI g28 8 G28), (aIc cI g33 8 G33), (aIc cI g34 8 G34), (aIc cI g35 8 G35), (aIc cI g36 8 G36), (aJc cJ g37 8 G37), (aIc cI g38 8 G38)] sz)) 0 0 (va_A [(oX8 g gi0 (nI mn) g2 g3 g4 g5 g6 g7 g8 g9 g10 (nI ml) g12 g13 gi14 g15 g16 g17 gi18 g19 g20 g21 g22 g23 g24 g25 g26 g27 g28 gi29 gi30 (nI mv) (nI tt) g33 g34 g35 g36 g37 g38 g39 gi40 g41 g42 gi43 g44 g45), (aIc cI g2 8 G2), (aIc cI g3 8 G3), (aIc cI g4 8 G4), (aIc cI g5 8 G5), (aIc cI g6 8 G6), (aIc cI g7 8 G7), (aIc cI g8 8 G8), (aIc cI g10 64 G10), (aIc cI g12 10 G12), (aIc cI g13 10 G13), (aIc cI g19 8 G19), (aIc cI g20 8 G20), (aIc cI g21 8 G21), (aIc cI g22 8 G22), (aIc cI g23 8 G23), (aIc cI g24 8 G24), (aIc cI g25 8 G25), (aIc cI g26 8 G26), (aIc cI g27 8 G27), (aIc cI g28 8 G28), (aIc cI g33 8 G33), (aIc cI g34 8 G34), (aIc cI g35 8 G35), (aIc cI g36 8 G36), (aJc cJ g37 8 G37), (aIc cI g38 8 G38)] sz) := by
  refine k_ofW (Qc := cQi D (fun r u => ∃ (G19p G20p G21p G22p G23p G24p G25p G26p G27p G28p G33p G34p G35p G36p : Nat → Int32) (G37p : Nat → Int64) (gi29p gi30p gi18p : Int32) (mvp ttp : Nat) (gi0p : Int32) (G38p : Nat → Int32), (LE G19p) ∧ (LO G20p) ∧ (LW G25p) ∧ (SH G27p ttp) ∧ (ttp ≤ 1000000) ∧ (mvp ≤ 8) ∧ u = [(oX8 g gi0p (nI mn) g2 g3 g4 g5 g6 g7 g8 g9 g10 (nI ml) g12 g13 gi14 g15 g16 g17 gi18p g19 g20 g21 g22 g23 g24 g25 g26 g27 g28 gi29p gi30p (nI mvp) (nI ttp) g33 g34 g35 g36 g37 g38 g39 gi40 g41 g42 gi43 g44 g45), (aIc cI g2 8 G2), (aIc cI g3 8 G3), (aIc cI g4 8 G4), (aIc cI g5 8 G5), (aIc cI g6 8 G6), (aIc cI g7 8 G7), (aIc cI g8 8 G8), (aIc cI g10 64 G10), (aIc cI g12 10 G12), (aIc cI g13 10 G13), (aIc cI g19 8 G19p), (aIc cI g20 8 G20p), (aIc cI g21 8 G21p), (aIc cI g22 8 G22p), (aIc cI g23 8 G23p), (aIc cI g24 8 G24p), (aIc cI g25 8 G25p), (aIc cI g26 8 G26p), (aIc cI g27 8 G27p), (aIc cI g28 8 G28p), (aIc cI g33 8 G33p), (aIc cI g34 8 G34p), (aIc cI g35 8 G35p), (aIc cI g36 8 G36p), (aJc cJ g37 8 G37p), (aIc cI g38 8 G38p)])) (by decide) rfl (Nat.le_of_ble_eq_true rfl) ?_
  intro p e s m below meth c A ls hx hb hr hml hts hown hlk hnm hsz hE hP hD hS hA hl
  have hown : s.vm.findClass RX8 = some m.cls := hown
  have hiX8 : ∀ w ∈ u_ws RX8 TX8 46, w ∈ wtX8_way := fun w h => List.mem_cons_of_mem _ (iuX8 w h)
  have hl : lv_has ls 8 [(0, .ref g), (1, .int p0), (2, .int p1), (3, .int p2), (4, .int p3)] := hl
  refine lv_aload_n hx hb dX8_way_0 rfl (lv_at hl 0 rfl) ?_
  refine lv_iload_n hx hb dX8_way_1 rfl (lv_at hl 1 rfl) ?_
  refine lv_iload_n hx hb dX8_way_2 rfl (lv_at hl 2 rfl) ?_
  refine k_i (va_runV (As := [.int p0, .int p1]) (rest := []) ⟨hx, hb, hml, hown, hts⟩ (m_X8_isBoth l D cI cJ (s.heap).size g g2 g3 g4 g5 g6 g7 g8 g9 g10 g12 g13 g15 g16 g17 g19 g20 g21 g22 g23 g24 g25 g26 g27 g28 g33 g34 g35 g36 g37 g38 g39 g41 g42 g44 g45 mn ml mv tt gi0 gi14 gi18 gi29 gi30 gi40 gi43 p0 p1 G2 G3 G4 G5 G6 G7 G8 G10 G12 G13 G19 G20 G21 G22 G23 G24 G25 G26 G27 G28 G33 G34 G35 G36 G37 li0 wo0 de0 ag0 hmn hmL hit hsu hliv hlib hwov hwob hdev hdeb hagv hagb hamt hLE hLO hLW hSH htt hmv) (cwV 2 hts gX8_way_X8_isBoth rfl rfl rfl (by decide +kernel) ⟨Nat.le_of_ble_eq_true rfl, Nat.le_of_ble_eq_true rfl⟩) (k_preV hE hP hD [0, 1, 2, 3, 4, 5, 6, 7, 8, 9, 10, 11, 12, 13, 14, 15, 16, 17, 18, 19, 20, 21, 22, 23, 24, 25] (by decide +kernel) rfl 0 rfl rfl) rfl rfl hl.1 rfl (lv_room (Nat.le_of_ble_eq_true rfl)) dX8_way_3 ⟨Nat.le_of_ble_eq_true rfl, Nat.le_of_ble_eq_true rfl⟩) hP hD hS hA [0, 1, 2, 3, 4, 5, 6, 7, 8, 9, 10, 11, 12, 13, 14, 15, 16, 17, 18, 19, 20, 21, 22, 23, 24, 25] [26] rfl (wr := [(aIc cI g38 8 G38)]) rfl (by decide +kernel) (by decide +kernel) (fun r1 u H locs hw2 hP hD hS => ?_)
  obtain ⟨z3, z4, z5, z6, z7, z8, z9, z10, z11, z12, z13, z14, z15, z16, z17, z18, z19, z20, z21, z22, z23, hz24, hz25, hz26, hz27, hz28, hz29, hz30, rfl⟩ := hw2
  refine k_re (w := [(aIc cI g38 8 G38), (oX8 g z23 (nI mn) g2 g3 g4 g5 g6 g7 g8 g9 g10 (nI ml) g12 g13 gi14 g15 g16 g17 z20 g19 g20 g21 g22 g23 g24 g25 g26 g27 g28 z18 z19 (nI z21) (nI z22) g33 g34 g35 g36 g37 g38 g39 gi40 g41 g42 gi43 g44 g45), (aIc cI g2 8 G2), (aIc cI g3 8 G3), (aIc cI g4 8 G4), (aIc cI g5 8 G5), (aIc cI g6 8 G6), (aIc cI g7 8 G7), (aIc cI g8 8 G8), (aIc cI g10 64 G10), (aIc cI g12 10 G12), (aIc cI g13 10 G13), (aIc cI g19 8 z3), (aIc cI g20 8 z4), (aIc cI g21 8 z5), (aIc cI g22 8 z6), (aIc cI g23 8 z7), (aIc cI g24 8 z8), (aIc cI g25 8 z9), (aIc cI g26 8 z10), (aIc cI g27 8 z11), (aIc cI g28 8 z12), (aIc cI g33 8 z13), (aIc cI g34 8 z14), (aIc cI g35 8 z15), (aIc cI g36 8 z16), (aJc cJ g37 8 z17)]) hP hD (fun hP hD => ?_)
  refine lv_if_eq (tgt := 22) hx hb dX8_way_6 (by decide) (fun c31 => ?_) (fun c31 => ?_)
  · skip
    refine lv_iconst (v := (-1)) hx hb dX8_way_22 (by decide) ?_
    refine k_iret (u := [(oX8 g z23 (nI mn) g2 g3 g4 g5 g6 g7 g8 g9 g10 (nI ml) g12 g13 gi14 g15 g16 g17 z20 g19 g20 g21 g22 g23 g24 g25 g26 g27 g28 z18 z19 (nI z21) (nI z22) g33 g34 g35 g36 g37 g38 g39 gi40 g41 g42 gi43 g44 g45), (aIc cI g2 8 G2), (aIc cI g3 8 G3), (aIc cI g4 8 G4), (aIc cI g5 8 G5), (aIc cI g6 8 G6), (aIc cI g7 8 G7), (aIc cI g8 8 G8), (aIc cI g10 64 G10), (aIc cI g12 10 G12), (aIc cI g13 10 G13), (aIc cI g19 8 z3), (aIc cI g20 8 z4), (aIc cI g21 8 z5), (aIc cI g22 8 z6), (aIc cI g23 8 z7), (aIc cI g24 8 z8), (aIc cI g25 8 z9), (aIc cI g26 8 z10), (aIc cI g27 8 z11), (aIc cI g28 8 z12), (aIc cI g33 8 z13), (aIc cI g34 8 z14), (aIc cI g35 8 z15), (aIc cI g36 8 z16), (aJc cJ g37 8 z17), (aIc cI g38 8 G38)]) hx hb hr hlk (k_sub hP [1, 2, 3, 4, 5, 6, 7, 8, 9, 10, 11, 12, 13, 14, 15, 16, 17, 18, 19, 20, 21, 22, 23, 24, 25, 26, 0] rfl) (hD.sub [1, 2, 3, 4, 5, 6, 7, 8, 9, 10, 11, 12, 13, 14, 15, 16, 17, 18, 19, 20, 21, 22, 23, 24, 25, 26, 0] (by decide +kernel) rfl) hS dX8_way_23 ?_
    exact ⟨z3, z4, z5, z6, z7, z8, z9, z10, z11, z12, z13, z14, z15, z16, z17, z18, z19, z20, z21, z22, z23, G38, hz24, hz25, hz26, hz27, hz28, hz29, rfl⟩
  · skip
    refine lv_aload_n hx hb dX8_way_9 rfl (lv_at hl 0 rfl) ?_
    refine lv_iload_n hx hb dX8_way_10 rfl (lv_at hl 3 rfl) ?_
    refine k_iS (va_runV (As := [.int p2]) (rest := []) ⟨hx, hb, hml, hown, hts⟩ (m_X8_isPolicy l D cI cJ H.size g g2 g3 g4 g5 g6 g7 g8 g9 g10 g12 g13 g15 g16 g17 g19 g20 g21 g22 g23 g24 g25 g26 g27 g28 g33 g34 g35 g36 g37 g38 g39 g41 g42 g44 g45 mn ml z21 z23 gi14 z20 z18 z19 (nI z22) gi40 gi43 p2) (cwV 1 hts gX8_way_X8_isPolicy rfl rfl rfl (by decide +kernel) ⟨Nat.le_of_ble_eq_true rfl, Nat.le_of_ble_eq_true rfl⟩) (k_preV hE hP hD [1] (by decide +kernel) rfl 1 rfl rfl) rfl rfl hl.1 rfl (lv_room (Nat.le_of_ble_eq_true rfl)) dX8_way_11 ⟨Nat.le_of_ble_eq_true rfl, Nat.le_of_ble_eq_true rfl⟩) hP hD hS hA [1] rfl (fun _ _ ⟨_, h9⟩ => h9) (fun r32 H locs hw33 hP hD hS => ?_)
    obtain ⟨hb34, -⟩ := hw33
    refine lv_if_eq (tgt := 22) hx hb dX8_way_14 (by decide) (fun c35 => ?_) (fun c35 => ?_)
    · skip
      have hc35 : ¬ (0 ≤ p2 ∧ p2 ≤ nI mn - 1) := bz_0 hb34 c35
      refine lv_iconst (v := (-1)) hx hb dX8_way_22 (by decide) ?_
      refine k_iret (u := [(oX8 g z23 (nI mn) g2 g3 g4 g5 g6 g7 g8 g9 g10 (nI ml) g12 g13 gi14 g15 g16 g17 z20 g19 g20 g21 g22 g23 g24 g25 g26 g27 g28 z18 z19 (nI z21) (nI z22) g33 g34 g35 g36 g37 g38 g39 gi40 g41 g42 gi43 g44 g45), (aIc cI g2 8 G2), (aIc cI g3 8 G3), (aIc cI g4 8 G4), (aIc cI g5 8 G5), (aIc cI g6 8 G6), (aIc cI g7 8 G7), (aIc cI g8 8 G8), (aIc cI g10 64 G10), (aIc cI g12 10 G12), (aIc cI g13 10 G13), (aIc cI g19 8 z3), (aIc cI g20 8 z4), (aIc cI g21 8 z5), (aIc cI g22 8 z6), (aIc cI g23 8 z7), (aIc cI g24 8 z8), (aIc cI g25 8 z9), (aIc cI g26 8 z10), (aIc cI g27 8 z11), (aIc cI g28 8 z12), (aIc cI g33 8 z13), (aIc cI g34 8 z14), (aIc cI g35 8 z15), (aIc cI g36 8 z16), (aJc cJ g37 8 z17), (aIc cI g38 8 G38)]) hx hb hr hlk (k_sub hP [1, 2, 3, 4, 5, 6, 7, 8, 9, 10, 11, 12, 13, 14, 15, 16, 17, 18, 19, 20, 21, 22, 23, 24, 25, 26, 0] rfl) (hD.sub [1, 2, 3, 4, 5, 6, 7, 8, 9, 10, 11, 12, 13, 14, 15, 16, 17, 18, 19, 20, 21, 22, 23, 24, 25, 26, 0] (by decide +kernel) rfl) hS dX8_way_23 ?_
      exact ⟨z3, z4, z5, z6, z7, z8, z9, z10, z11, z12, z13, z14, z15, z16, z17, z18, z19, z20, z21, z22, z23, G38, hz24, hz25, hz26, hz27, hz28, hz29, rfl⟩
    · skip
      have hc35 : 0 ≤ p2 ∧ p2 ≤ nI mn - 1 := bz_1 hb34 c35
      refine lv_iload_n hx hb dX8_way_17 rfl (lv_at hl 2 rfl) ?_
      refine lv_iload_n hx hb dX8_way_18 rfl (lv_at hl 3 rfl) ?_
      refine lv_icmp_ne (tgt := 24) hx hb dX8_way_19 (by decide) (fun c36 => ?_) (fun c36 => ?_)
      · skip
        obtain ⟨_, hbl, hbp⟩ := hz30.resolve_left c31
        obtain ⟨lj, hlj, elj⟩ := wi_n (by omega) hbl
        rw [elj] at hl
        obtain ⟨pj, hpj, epj⟩ := wi_n (by omega) hbp
        rw [epj] at hl
        obtain ⟨oj, hoj, eoj⟩ := wi_n (by omega) hc35
        rw [eoj] at hl
        refine lv_aload_n hx hb dX8_way_24 rfl (lv_at hl 0 rfl) ?_
        refine lv_iload_n hx hb dX8_way_25 rfl (lv_at hl 3 rfl) ?_
        refine k_v (va_runV (As := [.int (nI oj)]) (rest := []) ⟨hx, hb, hml, hown, hts⟩ (m_X8_measures l D cI cJ H.size g g2 g3 g4 g5 g6 g7 g8 g9 g10 g12 g13 g15 g16 g17 g19 g20 g21 g22 g23 g24 g25 g26 g27 g28 g33 g34 g35 g36 g37 g38 g39 g41 g42 g44 g45 oj mn ml z21 z23 gi14 z20 z18 z19 (nI z22) gi40 gi43 z5 G38 (by omega)) (cwV 1 hts gX8_way_X8_measures rfl rfl rfl (by decide +kernel) ⟨Nat.le_of_ble_eq_true rfl, Nat.le_of_ble_eq_true rfl⟩) (k_preV hE hP hD [1, 14, 0] (by decide +kernel) rfl 1 rfl rfl) rfl rfl hl.1 rfl (lv_room (Nat.le_of_ble_eq_true rfl)) dX8_way_26 ⟨Nat.le_of_ble_eq_true rfl, Nat.le_of_ble_eq_true rfl⟩) hP hD hS hA [1, 14, 0] [2, 3, 4, 5, 6, 7, 8, 9, 10, 11, 12, 13, 15, 16, 17, 18, 19, 20, 21, 22, 23, 24, 25, 26] rfl (wr := [(aIc cI g2 8 G2), (aIc cI g3 8 G3), (aIc cI g4 8 G4), (aIc cI g5 8 G5), (aIc cI g6 8 G6), (aIc cI g7 8 G7), (aIc cI g8 8 G8), (aIc cI g10 64 G10), (aIc cI g12 10 G12), (aIc cI g13 10 G13), (aIc cI g19 8 z3), (aIc cI g20 8 z4), (aIc cI g22 8 z6), (aIc cI g23 8 z7), (aIc cI g24 8 z8), (aIc cI g25 8 z9), (aIc cI g26 8 z10), (aIc cI g27 8 z11), (aIc cI g28 8 z12), (aIc cI g33 8 z13), (aIc cI g34 8 z14), (aIc cI g35 8 z15), (aIc cI g36 8 z16), (aJc cJ g37 8 z17)]) rfl (by decide +kernel) (by decide +kernel) (fun u H locs hw37 hP hD hS => ?_)
        obtain ⟨z38, hz39, rfl⟩ := hw37
        refine k_re (w := [(aIc cI g2 8 G2), (aIc cI g3 8 G3), (aIc cI g4 8 G4), (aIc cI g5 8 G5), (aIc cI g6 8 G6), (aIc cI g7 8 G7), (aIc cI g8 8 G8), (aIc cI g10 64 G10), (aIc cI g12 10 G12), (aIc cI g13 10 G13), (aIc cI g19 8 z3), (aIc cI g20 8 z4), (aIc cI g22 8 z6), (aIc cI g23 8 z7), (aIc cI g24 8 z8), (aIc cI g25 8 z9), (aIc cI g26 8 z10), (aIc cI g27 8 z11), (aIc cI g28 8 z12), (aIc cI g33 8 z13), (aIc cI g34 8 z14), (aIc cI g35 8 z15), (aIc cI g36 8 z16), (aJc cJ g37 8 z17), (oX8 g z23 (nI mn) g2 g3 g4 g5 g6 g7 g8 g9 g10 (nI ml) g12 g13 gi14 g15 g16 g17 z20 g19 g20 g21 g22 g23 g24 g25 g26 g27 g28 z18 z19 (nI z21) (nI z22) g33 g34 g35 g36 g37 g38 g39 gi40 g41 g42 gi43 g44 g45), (aIc cI g21 8 z5), (aIc cI g38 8 z38)]) hP hD (fun hP hD => ?_)
        obtain ⟨fr, hfv, hfb, hf0, hfe, hfa, hfp⟩ := hz39
        have hfbp := hfb pj (by omega)
        refine lv_aload_n hx hb dX8_way_29 rfl (lv_at hl 0 rfl) ?_
        refine va_get (D := D) (ci := 8) (v := .ref g38) (C := RX8) (T := TX8) (N := 46) hx hb hts hiX8 hown hE.1 hP 24 rfl rfl 38 (by decide) (hts _ (List.mem_cons_of_mem _ wd_145)) (fun _ h9 => h9) rfl dX8_way_30 ?_
        refine lv_iload_n hx hb dX8_way_33 rfl (lv_at hl 2 rfl) ?_
        refine va_iald hx hb hE.1 hP 26 0 rfl rfl (vp_in_nI (n := pj) (by omega) (by decide)) dX8_way_34 ?_
        refine lv_topi (fun v40 ev40 => ?_)
        have hfb_ := hfb pj (by omega)
        obtain rfl : v40 = nI (fr pj) := ev40.trans (nv_at hfv (by omega))
        refine lv_bipush (v := 8) hx hb dX8_way_35 (by decide) ?_
        refine lv_icmp_ne (tgt := 42) hx hb dX8_way_37 (by decide) (fun c41 => ?_) (fun c41 => ?_)
        · skip
          have nc41 : ¬ fr pj = 8 := fun q9 => c41 ((nI_eq (a := (fr pj)) (b := 8) (by omega) (by omega)).mpr q9)
          refine lv_iload hx hb dX8_way_42 (lv_at hl 4 rfl) ?_
          refine lv_iconst (v := (-1)) hx hb dX8_way_44 (by decide) ?_
          refine lv_icmp_ne (tgt := 57) hx hb dX8_way_45 (by decide) (fun c42 => ?_) (fun c42 => ?_)
          · skip
            refine lv_iload hx hb dX8_way_57 (lv_at hl 4 rfl) ?_
            refine lv_i2l hx hb dX8_way_59 rfl ?_
            refine lv_lconst (v := 0) hx hb dX8_way_60 (by decide) ?_
            refine lv_aload_n hx hb dX8_way_61 rfl (lv_at hl 0 rfl) ?_
            refine va_get (D := D) (ci := 8) (v := .ref g38) (C := RX8) (T := TX8) (N := 46) hx hb hts hiX8 hown hE.1 hP 24 rfl rfl 38 (by decide) (hts _ (List.mem_cons_of_mem _ wd_145)) (fun _ h9 => h9) rfl dX8_way_62 ?_
            refine lv_iload_n hx hb dX8_way_65 rfl (lv_at hl 2 rfl) ?_
            refine va_iald hx hb hE.1 hP 26 0 rfl rfl (vp_in_nI (n := pj) (by omega) (by decide)) dX8_way_66 ?_
            refine lv_topi (fun v43 ev43 => ?_)
            have hfb_ := hfb pj (by omega)
            obtain rfl : v43 = nI (fr pj) := ev43.trans (nv_at hfv (by omega))
            refine lv_i2l hx hb dX8_way_67 rfl ?_
            refine k_iS (va_runS (As := [.long (Int32.toInt64 p3), .long 0, .long (Int32.toInt64 (nI (fr pj)))]) (rest := []) ⟨hx, hb, hml, hown, hts⟩ (m_X8_in l D cI cJ H.size (Int32.toInt64 p3) 0 (Int32.toInt64 (nI (fr pj)))) (va_cwS 3 hts gX8_way_X8_in rfl rfl rfl (by decide +kernel) ⟨Nat.le_of_ble_eq_true rfl, Nat.le_of_ble_eq_true rfl⟩) (k_pre hE hP hD [] (by decide +kernel) rfl) rfl rfl hl.1 rfl (lv_room (Nat.le_of_ble_eq_true rfl)) dX8_way_68 ⟨Nat.le_of_ble_eq_true rfl, Nat.le_of_ble_eq_true rfl⟩) hP hD hS hA [] rfl (fun _ _ h9 => h9.2) (fun r44 H locs hw45 hP hD hS => ?_)
            obtain ⟨hw45, -⟩ := hw45
            have hw46 : r44 = bz (0 ≤ p3 ∧ p3 ≤ (nI (fr pj))) := by rw [hw45]; exact bz_c (w3 (a := p3) (lo := 0) (hi := (nI (fr pj))) (by decide) rfl)
            refine lv_if_ne (tgt := 76) hx hb dX8_way_71 (by decide) (fun c47 => ?_) (fun c47 => ?_)
            · skip
              have hc47 : 0 ≤ p3 ∧ p3 ≤ (nI (fr pj)) := bz_1 hw46 c47
              obtain ⟨kj, hkj, ekj⟩ := wi_k (k := 0) (c := fr pj) (by decide) (by omega) hc47
              rw [ekj] at hl
              refine lv_iload_n hx hb dX8_way_76 rfl (lv_at hl 2 rfl) ?_
              refine lv_istore (lv' := [(5, .int (nI pj)), (0, .ref g), (1, .int (nI lj)), (2, .int (nI pj)), (3, .int (nI oj)), (4, .int (nI kj))]) hx hb dX8_way_77 hl (by decide) rfl (fun ls hl => ?_)
              refine lv_iconst (v := 0) hx hb dX8_way_79 (by decide) ?_
              refine lv_istore (lv' := [(6, .int 0), (5, .int (nI pj)), (0, .ref g), (1, .int (nI lj)), (2, .int (nI pj)), (3, .int (nI oj)), (4, .int (nI kj))]) hx hb dX8_way_80 hl (by decide) rfl (fun ls hl => ?_)
              have J82 : ∀ (zz : Nat) (i82 h5_82 : Nat), (i82 ≤ kj) → (h5_82 < 8) → (fr h5_82 + i82 = fr pj) → (kj - i82) < zz → ∀ (H : Heap) (locs : List Loc) (ls : Array Slot), va_P D vwCl [(aIc cI g2 8 G2), (aIc cI g3 8 G3), (aIc cI g4 8 G4), (aIc cI g5 8 G5), (aIc cI g6 8 G6), (aIc cI g7 8 G7), (aIc cI g8 8 G8), (aIc cI g10 64 G10), (aIc cI g12 10 G12), (aIc cI g13 10 G13), (aIc cI g19 8 z3), (aIc cI g20 8 z4), (aIc cI g22 8 z6), (aIc cI g23 8 z7), (aIc cI g24 8 z8), (aIc cI g25 8 z9), (aIc cI g26 8 z10), (aIc cI g27 8 z11), (aIc cI g28 8 z12), (aIc cI g33 8 z13), (aIc cI g34 8 z14), (aIc cI g35 8 z15), (aIc cI g36 8 z16), (aJc cJ g37 8 z17), (oX8 g z23 (nI mn) g2 g3 g4 g5 g6 g7 g8 g9 g10 (nI ml) g12 g13 gi14 g15 g16 g17 z20 g19 g20 g21 g22 g23 g24 g25 g26 g27 g28 z18 z19 (nI z21) (nI z22) g33 g34 g35 g36 g37 g38 g39 gi40 g41 g42 gi43 g44 g45), (aIc cI g21 8 z5), (aIc cI g38 8 z38)] H → va_D A [(aIc cI g2 8 G2), (aIc cI g3 8 G3), (aIc cI g4 8 G4), (aIc cI g5 8 G5), (aIc cI g6 8 G6), (aIc cI g7 8 G7), (aIc cI g8 8 G8), (aIc cI g10 64 G10), (aIc cI g12 10 G12), (aIc cI g13 10 G13), (aIc cI g19 8 z3), (aIc cI g20 8 z4), (aIc cI g22 8 z6), (aIc cI g23 8 z7), (aIc cI g24 8 z8), (aIc cI g25 8 z9), (aIc cI g26 8 z10), (aIc cI g27 8 z11), (aIc cI g28 8 z12), (aIc cI g33 8 z13), (aIc cI g34 8 z14), (aIc cI g35 8 z15), (aIc cI g36 8 z16), (aJc cJ g37 8 z17), (oX8 g z23 (nI mn) g2 g3 g4 g5 g6 g7 g8 g9 g10 (nI ml) g12 g13 gi14 g15 g16 g17 z20 g19 g20 g21 g22 g23 g24 g25 g26 g27 g28 z18 z19 (nI z21) (nI z22) g33 g34 g35 g36 g37 g38 g39 gi40 g41 g42 gi43 g44 g45), (aIc cI g21 8 z5), (aIc cI g38 8 z38)] → va_S A s.heap H locs → lv_has ls 8 [(6, .int (nI i82)), (5, .int (nI h5_82)), (0, .ref g), (1, .int (nI lj)), (2, .int (nI pj)), (3, .int (nI oj)), (4, .int (nI kj))] → W p l e { frames := 9, cells := 0, slots := 0, locals := 211 } s m [.ref g, .int p0, .int p1, .int p2, .int p3].toArray below meth c H locs 0 0 (MQ below (cQi D (fun r u => ∃ (G19p G20p G21p G22p G23p G24p G25p G26p G27p G28p G33p G34p G35p G36p : Nat → Int32) (G37p : Nat → Int64) (gi29p gi30p gi18p : Int32) (mvp ttp : Nat) (gi0p : Int32) (G38p : Nat → Int32), (LE G19p) ∧ (LO G20p) ∧ (LW G25p) ∧ (SH G27p ttp) ∧ (ttp ≤ 1000000) ∧ (mvp ≤ 8) ∧ u = [(oX8 g gi0p (nI mn) g2 g3 g4 g5 g6 g7 g8 g9 g10 (nI ml) g12 g13 gi14 g15 g16 g17 gi18p g19 g20 g21 g22 g23 g24 g25 g26 g27 g28 gi29p gi30p (nI mvp) (nI ttp) g33 g34 g35 g36 g37 g38 g39 gi40 g41 g42 gi43 g44 g45), (aIc cI g2 8 G2), (aIc cI g3 8 G3), (aIc cI g4 8 G4), (aIc cI g5 8 G5), (aIc cI g6 8 G6), (aIc cI g7 8 G7), (aIc cI g8 8 G8), (aIc cI g10 64 G10), (aIc cI g12 10 G12), (aIc cI g13 10 G13), (aIc cI g19 8 G19p), (aIc cI g20 8 G20p), (aIc cI g21 8 G21p), (aIc cI g22 8 G22p), (aIc cI g23 8 G23p), (aIc cI g24 8 G24p), (aIc cI g25 8 G25p), (aIc cI g26 8 G26p), (aIc cI g27 8 G27p), (aIc cI g28 8 G28p), (aIc cI g33 8 G33p), (aIc cI g34 8 G34p), (aIc cI g35 8 G35p), (aIc cI g36 8 G36p), (aJc cJ g37 8 G37p), (aIc cI g38 8 G38p)]) A) [.ref g, .int p0, .int p1, .int p2, .int p3].toArray s 0 0 A) (F0 m 82 ls []) := by
                intro zz
                induction zz with
                | zero => intro i82 h5_82 _ _ _; exact fun h => absurd h (Nat.not_lt_zero _)
                | succ zz ih82 =>
                  intro i82 h5_82 hc6_82 hat_82 hfd_82 hmu82 H locs ls hP hD hS hl
                  refine lv_iload hx hb dX8_way_82 (lv_at hl 0 rfl) ?_
                  refine lv_iload hx hb dX8_way_84 (lv_at hl 6 rfl) ?_
                  refine lv_icmp_ge (tgt := 142) hx hb dX8_way_86 (by decide) (fun c48 => ?_) (fun c48 => ?_)
                  · skip
                    have nc48 : kj ≤ i82 := (nI_leI (a := kj) (b := i82) (by omega) (by omega)).mp c48
                    refine lv_iload hx hb dX8_way_142 (lv_at hl 1 rfl) ?_
                    refine k_iret (u := [(oX8 g z23 (nI mn) g2 g3 g4 g5 g6 g7 g8 g9 g10 (nI ml) g12 g13 gi14 g15 g16 g17 z20 g19 g20 g21 g22 g23 g24 g25 g26 g27 g28 z18 z19 (nI z21) (nI z22) g33 g34 g35 g36 g37 g38 g39 gi40 g41 g42 gi43 g44 g45), (aIc cI g2 8 G2), (aIc cI g3 8 G3), (aIc cI g4 8 G4), (aIc cI g5 8 G5), (aIc cI g6 8 G6), (aIc cI g7 8 G7), (aIc cI g8 8 G8), (aIc cI g10 64 G10), (aIc cI g12 10 G12), (aIc cI g13 10 G13), (aIc cI g19 8 z3), (aIc cI g20 8 z4), (aIc cI g21 8 z5), (aIc cI g22 8 z6), (aIc cI g23 8 z7), (aIc cI g24 8 z8), (aIc cI g25 8 z9), (aIc cI g26 8 z10), (aIc cI g27 8 z11), (aIc cI g28 8 z12), (aIc cI g33 8 z13), (aIc cI g34 8 z14), (aIc cI g35 8 z15), (aIc cI g36 8 z16), (aJc cJ g37 8 z17), (aIc cI g38 8 z38)]) hx hb hr hlk (k_sub hP [24, 0, 1, 2, 3, 4, 5, 6, 7, 8, 9, 10, 11, 25, 12, 13, 14, 15, 16, 17, 18, 19, 20, 21, 22, 23, 26] rfl) (hD.sub [24, 0, 1, 2, 3, 4, 5, 6, 7, 8, 9, 10, 11, 25, 12, 13, 14, 15, 16, 17, 18, 19, 20, 21, 22, 23, 26] (by decide +kernel) rfl) hS dX8_way_144 ?_
                    exact ⟨z3, z4, z5, z6, z7, z8, z9, z10, z11, z12, z13, z14, z15, z16, z17, z18, z19, z20, z21, z22, z23, z38, hz24, hz25, hz26, hz27, hz28, hz29, rfl⟩
                  · skip
                    have nc48 : ¬ kj ≤ i82 := fun q9 => c48 ((nI_leI (a := kj) (b := i82) (by omega) (by omega)).mpr q9)
                    refine lv_iconst (v := 0) hx hb dX8_way_89 (by decide) ?_
                    refine lv_istore (lv' := [(7, .int 0), (6, .int (nI i82)), (5, .int (nI h5_82)), (0, .ref g), (1, .int (nI lj)), (2, .int (nI pj)), (3, .int (nI oj)), (4, .int (nI kj))]) hx hb dX8_way_90 hl (by decide) rfl (fun ls hl => ?_)
                    have J92 : ∀ (zz : Nat) (h7_92 : Nat), (∃ q : Nat, h7_92 ≤ q ∧ q < 8 ∧ bt (z5 h5_82) q = true ∧ fr q + 1 = fr h5_82) → (h7_92 ≤ 8) → 8 - h7_92 < zz → ∀ (H : Heap) (locs : List Loc) (ls : Array Slot), va_P D vwCl [(aIc cI g2 8 G2), (aIc cI g3 8 G3), (aIc cI g4 8 G4), (aIc cI g5 8 G5), (aIc cI g6 8 G6), (aIc cI g7 8 G7), (aIc cI g8 8 G8), (aIc cI g10 64 G10), (aIc cI g12 10 G12), (aIc cI g13 10 G13), (aIc cI g19 8 z3), (aIc cI g20 8 z4), (aIc cI g22 8 z6), (aIc cI g23 8 z7), (aIc cI g24 8 z8), (aIc cI g25 8 z9), (aIc cI g26 8 z10), (aIc cI g27 8 z11), (aIc cI g28 8 z12), (aIc cI g33 8 z13), (aIc cI g34 8 z14), (aIc cI g35 8 z15), (aIc cI g36 8 z16), (aJc cJ g37 8 z17), (oX8 g z23 (nI mn) g2 g3 g4 g5 g6 g7 g8 g9 g10 (nI ml) g12 g13 gi14 g15 g16 g17 z20 g19 g20 g21 g22 g23 g24 g25 g26 g27 g28 z18 z19 (nI z21) (nI z22) g33 g34 g35 g36 g37 g38 g39 gi40 g41 g42 gi43 g44 g45), (aIc cI g21 8 z5), (aIc cI g38 8 z38)] H → va_D A [(aIc cI g2 8 G2), (aIc cI g3 8 G3), (aIc cI g4 8 G4), (aIc cI g5 8 G5), (aIc cI g6 8 G6), (aIc cI g7 8 G7), (aIc cI g8 8 G8), (aIc cI g10 64 G10), (aIc cI g12 10 G12), (aIc cI g13 10 G13), (aIc cI g19 8 z3), (aIc cI g20 8 z4), (aIc cI g22 8 z6), (aIc cI g23 8 z7), (aIc cI g24 8 z8), (aIc cI g25 8 z9), (aIc cI g26 8 z10), (aIc cI g27 8 z11), (aIc cI g28 8 z12), (aIc cI g33 8 z13), (aIc cI g34 8 z14), (aIc cI g35 8 z15), (aIc cI g36 8 z16), (aJc cJ g37 8 z17), (oX8 g z23 (nI mn) g2 g3 g4 g5 g6 g7 g8 g9 g10 (nI ml) g12 g13 gi14 g15 g16 g17 z20 g19 g20 g21 g22 g23 g24 g25 g26 g27 g28 z18 z19 (nI z21) (nI z22) g33 g34 g35 g36 g37 g38 g39 gi40 g41 g42 gi43 g44 g45), (aIc cI g21 8 z5), (aIc cI g38 8 z38)] → va_S A s.heap H locs → lv_has ls 8 [(7, .int (nI h7_92)), (6, .int (nI i82)), (5, .int (nI h5_82)), (0, .ref g), (1, .int (nI lj)), (2, .int (nI pj)), (3, .int (nI oj)), (4, .int (nI kj))] → W p l e { frames := 9, cells := 0, slots := 0, locals := 211 } s m [.ref g, .int p0, .int p1, .int p2, .int p3].toArray below meth c H locs 0 0 (MQ below (cQi D (fun r u => ∃ (G19p G20p G21p G22p G23p G24p G25p G26p G27p G28p G33p G34p G35p G36p : Nat → Int32) (G37p : Nat → Int64) (gi29p gi30p gi18p : Int32) (mvp ttp : Nat) (gi0p : Int32) (G38p : Nat → Int32), (LE G19p) ∧ (LO G20p) ∧ (LW G25p) ∧ (SH G27p ttp) ∧ (ttp ≤ 1000000) ∧ (mvp ≤ 8) ∧ u = [(oX8 g gi0p (nI mn) g2 g3 g4 g5 g6 g7 g8 g9 g10 (nI ml) g12 g13 gi14 g15 g16 g17 gi18p g19 g20 g21 g22 g23 g24 g25 g26 g27 g28 gi29p gi30p (nI mvp) (nI ttp) g33 g34 g35 g36 g37 g38 g39 gi40 g41 g42 gi43 g44 g45), (aIc cI g2 8 G2), (aIc cI g3 8 G3), (aIc cI g4 8 G4), (aIc cI g5 8 G5), (aIc cI g6 8 G6), (aIc cI g7 8 G7), (aIc cI g8 8 G8), (aIc cI g10 64 G10), (aIc cI g12 10 G12), (aIc cI g13 10 G13), (aIc cI g19 8 G19p), (aIc cI g20 8 G20p), (aIc cI g21 8 G21p), (aIc cI g22 8 G22p), (aIc cI g23 8 G23p), (aIc cI g24 8 G24p), (aIc cI g25 8 G25p), (aIc cI g26 8 G26p), (aIc cI g27 8 G27p), (aIc cI g28 8 G28p), (aIc cI g33 8 G33p), (aIc cI g34 8 G34p), (aIc cI g35 8 G35p), (aIc cI g36 8 G36p), (aJc cJ g37 8 G37p), (aIc cI g38 8 G38p)]) A) [.ref g, .int p0, .int p1, .int p2, .int p3].toArray s 0 0 A) (F0 m 92 ls []) := by
                      intro zz
                      induction zz with
                      | zero => intro h7_92 _ _; exact fun h => absurd h (Nat.not_lt_zero _)
                      | succ zz ih92 =>
                        intro h7_92 hW_92 h78_92 hmu92 H locs ls hP hD hS hl
                        refine lv_aload_n hx hb dX8_way_92 rfl (lv_at hl 3 rfl) ?_
                        obtain ⟨qw, hq1, hq2, hq3, hq4⟩ := hW_92
                        refine va_get (D := D) (ci := 8) (v := .ref g21) (C := RX8) (T := TX8) (N := 46) hx hb hts hiX8 hown hE.1 hP 24 rfl rfl 21 (by decide) (hts _ (List.mem_cons_of_mem _ wd_132)) (fun _ h9 => h9) rfl dX8_way_93 ?_
                        refine lv_iload hx hb dX8_way_96 (lv_at hl 2 rfl) ?_
                        refine va_iald hx hb hE.1 hP 25 0 rfl rfl (vp_in_nI (n := h5_82) (by omega) (by decide)) dX8_way_98 ?_
                        refine lv_topi (fun v49 ev49 => ?_)
                        refine lv_iload hx hb dX8_way_99 (lv_at hl 0 rfl) ?_
                        refine k_iS (va_runS (As := [.int v49, .int (nI h7_92)]) (rest := []) ⟨hx, hb, hml, hown, hts⟩ (m_X8_isOn l D cI cJ H.size v49 (nI h7_92)) (va_cwS 2 hts gX8_way_X8_isOn rfl rfl rfl (by decide +kernel) ⟨Nat.le_of_ble_eq_true rfl, Nat.le_of_ble_eq_true rfl⟩) (k_pre hE hP hD [] (by decide +kernel) rfl) rfl rfl hl.1 rfl (lv_room (Nat.le_of_ble_eq_true rfl)) dX8_way_101 ⟨Nat.le_of_ble_eq_true rfl, Nat.le_of_ble_eq_true rfl⟩) hP hD hS hA [] rfl (fun _ _ h9 => h9.2) (fun r50 H locs hw51 hP hD hS => ?_)
                        obtain ⟨hw51, -⟩ := hw51
                        refine lv_if_eq (tgt := 126) hx hb dX8_way_104 (by decide) (fun c52 => ?_) (fun c52 => ?_)
                        · skip
                          have hc52 : ¬ ((v49 >>> ((nI h7_92) &&& 31)) &&& 1 = 1) := bz_0 hw51 c52
                          refine lv_iinc (v := (nI (h7_92 + 1))) (lv' := [(7, .int (nI (h7_92 + 1))), (6, .int (nI i82)), (5, .int (nI h5_82)), (0, .ref g), (1, .int (nI lj)), (2, .int (nI pj)), (3, .int (nI oj)), (4, .int (nI kj))]) hx hb dX8_way_126 hl (k := 0) rfl (nI_1 _) (by decide) rfl (fun ls hl => ?_)
                          refine lv_goto (tgt := 92) hx hb dX8_way_129 (by decide) ?_
                          exact ih92 (h7_92 + 1) (wy_off (fun z => hc52 ((fq_bt (by omega) (by omega) ev49).mpr z)) ⟨qw, hq1, hq2, hq3, hq4⟩) (by omega) (by omega) _ _ _ hP hD hS (lv_sub hl [0, 1, 2, 3, 4, 5, 6, 7] rfl)
                        · skip
                          have hc52 : (v49 >>> ((nI h7_92) &&& 31)) &&& 1 = 1 := bz_1 hw51 c52
                          refine lv_aload_n hx hb dX8_way_107 rfl (lv_at hl 3 rfl) ?_
                          refine va_get (D := D) (ci := 8) (v := .ref g38) (C := RX8) (T := TX8) (N := 46) hx hb hts hiX8 hown hE.1 hP 24 rfl rfl 38 (by decide) (hts _ (List.mem_cons_of_mem _ wd_145)) (fun _ h9 => h9) rfl dX8_way_108 ?_
                          refine lv_iload hx hb dX8_way_111 (lv_at hl 0 rfl) ?_
                          refine va_iald hx hb hE.1 hP 26 0 rfl rfl (vp_in_nI (n := h7_92) (by omega) (by decide)) dX8_way_113 ?_
                          refine lv_topi (fun v53 ev53 => ?_)
                          have hfb_ := hfb h7_92 (by omega)
                          obtain rfl : v53 = nI (fr h7_92) := ev53.trans (nv_at hfv (by omega))
                          refine lv_aload_n hx hb dX8_way_114 rfl (lv_at hl 3 rfl) ?_
                          refine va_get (D := D) (ci := 8) (v := .ref g38) (C := RX8) (T := TX8) (N := 46) hx hb hts hiX8 hown hE.1 hP 24 rfl rfl 38 (by decide) (hts _ (List.mem_cons_of_mem _ wd_145)) (fun _ h9 => h9) rfl dX8_way_115 ?_
                          refine lv_iload hx hb dX8_way_118 (lv_at hl 2 rfl) ?_
                          refine va_iald hx hb hE.1 hP 26 0 rfl rfl (vp_in_nI (n := h5_82) (by omega) (by decide)) dX8_way_120 ?_
                          refine lv_topi (fun v54 ev54 => ?_)
                          have hfb_ := hfb h5_82 (by omega)
                          obtain rfl : v54 = nI (fr h5_82) := ev54.trans (nv_at hfv (by omega))
                          refine lv_iconst (v := 1) hx hb dX8_way_121 (by decide) ?_
                          refine lv_isub hx hb dX8_way_122 ?_
                          refine lv_topi (fun v55 ev55 => ?_)
                          have hfb7 := hfb h5_82 (by omega)
                          obtain rfl : v55 = nI (fr h5_82 - 1) := by rw [ev55]; exact pk_sub (a := fr h5_82) (b := 1) (by omega)
                          refine lv_icmp_eq (tgt := 132) hx hb dX8_way_123 (by decide) (fun c56 => ?_) (fun c56 => ?_)
                          · skip
                            have nc56 : fr h7_92 = fr h5_82 - 1 := (nI_eq (a := (fr h7_92)) (b := (fr h5_82 - 1)) (by omega) (by omega)).mp c56
                            refine lv_iload hx hb dX8_way_132 (lv_at hl 0 rfl) ?_
                            refine lv_istore (lv' := [(5, .int (nI h7_92)), (7, .int (nI h7_92)), (6, .int (nI i82)), (0, .ref g), (1, .int (nI lj)), (2, .int (nI pj)), (3, .int (nI oj)), (4, .int (nI kj))]) hx hb dX8_way_134 hl (by decide) rfl (fun ls hl => ?_)
                            refine lv_iinc (v := (nI (i82 + 1))) (lv' := [(6, .int (nI (i82 + 1))), (5, .int (nI h7_92)), (7, .int (nI h7_92)), (0, .ref g), (1, .int (nI lj)), (2, .int (nI pj)), (3, .int (nI oj)), (4, .int (nI kj))]) hx hb dX8_way_136 hl (k := 2) rfl (nI_1 _) (by decide) rfl (fun ls hl => ?_)
                            refine lv_goto (tgt := 82) hx hb dX8_way_139 (by decide) ?_
                            exact ih82 (i82 + 1) h7_92 (by omega) (by omega) (by omega) (by omega) _ _ _ hP hD hS (lv_sub hl [0, 1, 3, 4, 5, 6, 7] rfl)
                          · skip
                            have nc56 : ¬ fr h7_92 = fr h5_82 - 1 := fun q9 => c56 ((nI_eq (a := (fr h7_92)) (b := (fr h5_82 - 1)) (by omega) (by omega)).mpr q9)
                            refine lv_iinc (v := (nI (h7_92 + 1))) (lv' := [(7, .int (nI (h7_92 + 1))), (6, .int (nI i82)), (5, .int (nI h5_82)), (0, .ref g), (1, .int (nI lj)), (2, .int (nI pj)), (3, .int (nI oj)), (4, .int (nI kj))]) hx hb dX8_way_126 hl (k := 0) rfl (nI_1 _) (by decide) rfl (fun ls hl => ?_)
                            refine lv_goto (tgt := 92) hx hb dX8_way_129 (by decide) ?_
                            exact ih92 (h7_92 + 1) (wy_ne (by omega) ⟨qw, hq1, hq2, hq3, hq4⟩) (by omega) (by omega) _ _ _ hP hD hS (lv_sub hl [0, 1, 2, 3, 4, 5, 6, 7] rfl)
                    have hfb9 := hfb h5_82 (by omega)
                    exact J92 _ 0 (wy_0 (f := z5) hf0 hfe hfa (by omega) (by omega) (by omega)) (by omega) (Nat.lt_succ_self _) _ _ _ hP hD hS (lv_sub hl [0, 1, 2, 3, 4, 5, 6, 7] rfl)
              exact J82 _ 0 pj (by omega) (by omega) (by omega) (Nat.lt_succ_self _) _ _ _ hP hD hS (lv_sub hl [0, 1, 2, 3, 4, 5, 6] rfl)
            · skip
              have hc47 : ¬ (0 ≤ p3 ∧ p3 ≤ (nI (fr pj))) := bz_0 hw46 c47
              refine lv_iconst (v := (-1)) hx hb dX8_way_74 (by decide) ?_
              refine k_iret (u := [(oX8 g z23 (nI mn) g2 g3 g4 g5 g6 g7 g8 g9 g10 (nI ml) g12 g13 gi14 g15 g16 g17 z20 g19 g20 g21 g22 g23 g24 g25 g26 g27 g28 z18 z19 (nI z21) (nI z22) g33 g34 g35 g36 g37 g38 g39 gi40 g41 g42 gi43 g44 g45), (aIc cI g2 8 G2), (aIc cI g3 8 G3), (aIc cI g4 8 G4), (aIc cI g5 8 G5), (aIc cI g6 8 G6), (aIc cI g7 8 G7), (aIc cI g8 8 G8), (aIc cI g10 64 G10), (aIc cI g12 10 G12), (aIc cI g13 10 G13), (aIc cI g19 8 z3), (aIc cI g20 8 z4), (aIc cI g21 8 z5), (aIc cI g22 8 z6), (aIc cI g23 8 z7), (aIc cI g24 8 z8), (aIc cI g25 8 z9), (aIc cI g26 8 z10), (aIc cI g27 8 z11), (aIc cI g28 8 z12), (aIc cI g33 8 z13), (aIc cI g34 8 z14), (aIc cI g35 8 z15), (aIc cI g36 8 z16), (aJc cJ g37 8 z17), (aIc cI g38 8 z38)]) hx hb hr hlk (k_sub hP [24, 0, 1, 2, 3, 4, 5, 6, 7, 8, 9, 10, 11, 25, 12, 13, 14, 15, 16, 17, 18, 19, 20, 21, 22, 23, 26] rfl) (hD.sub [24, 0, 1, 2, 3, 4, 5, 6, 7, 8, 9, 10, 11, 25, 12, 13, 14, 15, 16, 17, 18, 19, 20, 21, 22, 23, 26] (by decide +kernel) rfl) hS dX8_way_75 ?_
              exact ⟨z3, z4, z5, z6, z7, z8, z9, z10, z11, z12, z13, z14, z15, z16, z17, z18, z19, z20, z21, z22, z23, z38, hz24, hz25, hz26, hz27, hz28, hz29, rfl⟩
          · skip
            refine lv_aload_n hx hb dX8_way_48 rfl (lv_at hl 0 rfl) ?_
            refine va_get (D := D) (ci := 8) (v := .ref g38) (C := RX8) (T := TX8) (N := 46) hx hb hts hiX8 hown hE.1 hP 24 rfl rfl 38 (by decide) (hts _ (List.mem_cons_of_mem _ wd_145)) (fun _ h9 => h9) rfl dX8_way_49 ?_
            refine lv_iload_n hx hb dX8_way_52 rfl (lv_at hl 2 rfl) ?_
            refine va_iald hx hb hE.1 hP 26 0 rfl rfl (vp_in_nI (n := pj) (by omega) (by decide)) dX8_way_53 ?_
            refine lv_topi (fun v57 ev57 => ?_)
            have hfb_ := hfb pj (by omega)
            obtain rfl : v57 = nI (fr pj) := ev57.trans (nv_at hfv (by omega))
            refine lv_iconst (v := 1) hx hb dX8_way_54 (by decide) ?_
            refine lv_iadd hx hb dX8_way_55 ?_
            refine lv_topi (fun v58 ev58 => ?_)
            obtain rfl : v58 = (nI ((fr pj) + 1)) := by rw [ev58]; exact nI_add (fr pj) 1
            refine k_iret (u := [(oX8 g z23 (nI mn) g2 g3 g4 g5 g6 g7 g8 g9 g10 (nI ml) g12 g13 gi14 g15 g16 g17 z20 g19 g20 g21 g22 g23 g24 g25 g26 g27 g28 z18 z19 (nI z21) (nI z22) g33 g34 g35 g36 g37 g38 g39 gi40 g41 g42 gi43 g44 g45), (aIc cI g2 8 G2), (aIc cI g3 8 G3), (aIc cI g4 8 G4), (aIc cI g5 8 G5), (aIc cI g6 8 G6), (aIc cI g7 8 G7), (aIc cI g8 8 G8), (aIc cI g10 64 G10), (aIc cI g12 10 G12), (aIc cI g13 10 G13), (aIc cI g19 8 z3), (aIc cI g20 8 z4), (aIc cI g21 8 z5), (aIc cI g22 8 z6), (aIc cI g23 8 z7), (aIc cI g24 8 z8), (aIc cI g25 8 z9), (aIc cI g26 8 z10), (aIc cI g27 8 z11), (aIc cI g28 8 z12), (aIc cI g33 8 z13), (aIc cI g34 8 z14), (aIc cI g35 8 z15), (aIc cI g36 8 z16), (aJc cJ g37 8 z17), (aIc cI g38 8 z38)]) hx hb hr hlk (k_sub hP [24, 0, 1, 2, 3, 4, 5, 6, 7, 8, 9, 10, 11, 25, 12, 13, 14, 15, 16, 17, 18, 19, 20, 21, 22, 23, 26] rfl) (hD.sub [24, 0, 1, 2, 3, 4, 5, 6, 7, 8, 9, 10, 11, 25, 12, 13, 14, 15, 16, 17, 18, 19, 20, 21, 22, 23, 26] (by decide +kernel) rfl) hS dX8_way_56 ?_
            exact ⟨z3, z4, z5, z6, z7, z8, z9, z10, z11, z12, z13, z14, z15, z16, z17, z18, z19, z20, z21, z22, z23, z38, hz24, hz25, hz26, hz27, hz28, hz29, rfl⟩
        · skip
          have nc41 : fr pj = 8 := (nI_eq (a := (fr pj)) (b := 8) (by omega) (by omega)).mp c41
          refine lv_iconst (v := (-1)) hx hb dX8_way_40 (by decide) ?_
          refine k_iret (u := [(oX8 g z23 (nI mn) g2 g3 g4 g5 g6 g7 g8 g9 g10 (nI ml) g12 g13 gi14 g15 g16 g17 z20 g19 g20 g21 g22 g23 g24 g25 g26 g27 g28 z18 z19 (nI z21) (nI z22) g33 g34 g35 g36 g37 g38 g39 gi40 g41 g42 gi43 g44 g45), (aIc cI g2 8 G2), (aIc cI g3 8 G3), (aIc cI g4 8 G4), (aIc cI g5 8 G5), (aIc cI g6 8 G6), (aIc cI g7 8 G7), (aIc cI g8 8 G8), (aIc cI g10 64 G10), (aIc cI g12 10 G12), (aIc cI g13 10 G13), (aIc cI g19 8 z3), (aIc cI g20 8 z4), (aIc cI g21 8 z5), (aIc cI g22 8 z6), (aIc cI g23 8 z7), (aIc cI g24 8 z8), (aIc cI g25 8 z9), (aIc cI g26 8 z10), (aIc cI g27 8 z11), (aIc cI g28 8 z12), (aIc cI g33 8 z13), (aIc cI g34 8 z14), (aIc cI g35 8 z15), (aIc cI g36 8 z16), (aJc cJ g37 8 z17), (aIc cI g38 8 z38)]) hx hb hr hlk (k_sub hP [24, 0, 1, 2, 3, 4, 5, 6, 7, 8, 9, 10, 11, 25, 12, 13, 14, 15, 16, 17, 18, 19, 20, 21, 22, 23, 26] rfl) (hD.sub [24, 0, 1, 2, 3, 4, 5, 6, 7, 8, 9, 10, 11, 25, 12, 13, 14, 15, 16, 17, 18, 19, 20, 21, 22, 23, 26] (by decide +kernel) rfl) hS dX8_way_41 ?_
          exact ⟨z3, z4, z5, z6, z7, z8, z9, z10, z11, z12, z13, z14, z15, z16, z17, z18, z19, z20, z21, z22, z23, z38, hz24, hz25, hz26, hz27, hz28, hz29, rfl⟩
      · skip
        refine lv_iconst (v := (-1)) hx hb dX8_way_22 (by decide) ?_
        refine k_iret (u := [(oX8 g z23 (nI mn) g2 g3 g4 g5 g6 g7 g8 g9 g10 (nI ml) g12 g13 gi14 g15 g16 g17 z20 g19 g20 g21 g22 g23 g24 g25 g26 g27 g28 z18 z19 (nI z21) (nI z22) g33 g34 g35 g36 g37 g38 g39 gi40 g41 g42 gi43 g44 g45), (aIc cI g2 8 G2), (aIc cI g3 8 G3), (aIc cI g4 8 G4), (aIc cI g5 8 G5), (aIc cI g6 8 G6), (aIc cI g7 8 G7), (aIc cI g8 8 G8), (aIc cI g10 64 G10), (aIc cI g12 10 G12), (aIc cI g13 10 G13), (aIc cI g19 8 z3), (aIc cI g20 8 z4), (aIc cI g21 8 z5), (aIc cI g22 8 z6), (aIc cI g23 8 z7), (aIc cI g24 8 z8), (aIc cI g25 8 z9), (aIc cI g26 8 z10), (aIc cI g27 8 z11), (aIc cI g28 8 z12), (aIc cI g33 8 z13), (aIc cI g34 8 z14), (aIc cI g35 8 z15), (aIc cI g36 8 z16), (aJc cJ g37 8 z17), (aIc cI g38 8 G38)]) hx hb hr hlk (k_sub hP [1, 2, 3, 4, 5, 6, 7, 8, 9, 10, 11, 12, 13, 14, 15, 16, 17, 18, 19, 20, 21, 22, 23, 24, 25, 26, 0] rfl) (hD.sub [1, 2, 3, 4, 5, 6, 7, 8, 9, 10, 11, 12, 13, 14, 15, 16, 17, 18, 19, 20, 21, 22, 23, 24, 25, 26, 0] (by decide +kernel) rfl) hS dX8_way_23 ?_
        exact ⟨z3, z4, z5, z6, z7, z8, z9, z10, z11, z12, z13, z14, z15, z16, z17, z18, z19, z20, z21, z22, z23, G38, hz24, hz25, hz26, hz27, hz28, hz29, rfl⟩

