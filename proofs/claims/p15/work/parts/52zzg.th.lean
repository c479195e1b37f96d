/-! what the reference's settling of a level needs -/
/-- levels as the reference keeps them -/
def LVR (inn : Int32) (T : Nat → Int32) (lev : Nat → Int32) : Prop := ∀ p, p < 8 → lev p = if bt inn p = true then nI (LVL T p) else -1
theorem pay_m {ki to : Nat → Int32} {inn out v x l : Int32} {lev : Nat → Int32} {k j : Nat} (hj : j < 8) (hk : k < 8) (hL : LVR inn (TT (YI ki to inn)) lev) (ho : out = ORS (fun p => bt inn p && OUL (TT (YI ki to inn)) (KE ki) p) 8) (ex : x = out ^^^ (-1)) (ev : v = inn &&& x) (el : l = lev (Int32.toNatClampNeg (nI j))) : PAY ki to inn k j = true ↔ (bt v j = true ∧ l = nI k) := by
  rw [nI_clamp (by omega)] at el
  rw [ev, ex, bt_andw, bt_notw _ hj, ho, ors_bt8 hj, el, hL j hj]
  unfold PAY
  have h7 := lvl_7 (tt_rk (YI ki to inn)) hj
  by_cases c : bt inn j = true
  · rw [if_pos c, c, nI_eq (by omega) (by omega)]
    cases OUL (TT (YI ki to inn)) (KE ki) j <;> simp
  · rw [bf c]; simp
def IM (A9 A0 : Nat → Int32) (P : Nat → Bool) (O C : Nat → Nat) (j : Nat) : Prop := (∀ q, q < j → A0 q = nI (if P q = true then O q else 0)) ∧ ∀ q, q < 8 → A9 q = nI (if q < j ∧ P q = true then O q else C q)
theorem im_0 {A9 A0 : Nat → Int32} {P : Nat → Bool} {O C : Nat → Nat} (h9 : ∀ q, q < 8 → A9 q = nI (C q)) : IM A9 A0 P O C 0 := ⟨fun q hq => absurd hq (Nat.not_lt_zero q), fun q hq => by rw [if_neg (by omega)]; exact h9 q hq⟩
theorem im_no {A9 A0 : Nat → Int32} {P : Nat → Bool} {O C : Nat → Nat} {j : Nat} {y : Int32} (hj : j < 8) (H : IM A9 A0 P O C j) (h : ¬ P j = true) (hy : y = A9 (Int32.toNatClampNeg (nI j))) : IM (upd A9 (Int32.toNatClampNeg (nI j)) y) (upd A0 (Int32.toNatClampNeg (nI j)) 0) P O C (j + 1) := by
  rw [nI_clamp (by omega)] at hy ⊢
  refine ⟨fun q hq => ?_, fun q hq => ?_⟩
  · by_cases c : q = j
    · subst c; rw [pk_us, if_neg h]; rfl
    · rw [pk_un c]; exact H.1 q (by omega)
  · by_cases c : q = j
    · subst c
      rw [pk_us, hy, H.2 q hq, if_neg (fun z => h z.2), if_neg (fun z => h z.2)]
    · have e : (q < j + 1 ∧ P q = true) ↔ (q < j ∧ P q = true) := ⟨fun z => ⟨by omega, z.2⟩, fun z => ⟨by omega, z.2⟩⟩
      rw [pk_un c, ifc e]; exact H.2 q hq
theorem im_yes {A9 A0 : Nat → Int32} {P : Nat → Bool} {O C : Nat → Nat} {j : Nat} {x y : Int32} (hj : j < 8) (H : IM A9 A0 P O C j) (h : P j = true) (hx : x = nI (O j)) (hy : y = upd A0 (Int32.toNatClampNeg (nI j)) x (Int32.toNatClampNeg (nI j))) : IM (upd A9 (Int32.toNatClampNeg (nI j)) y) (upd A0 (Int32.toNatClampNeg (nI j)) x) P O C (j + 1) := by
  rw [pk_us] at hy
  rw [nI_clamp (by omega)]
  refine ⟨fun q hq => ?_, fun q hq => ?_⟩
  · by_cases c : q = j
    · subst c; rw [pk_us, if_pos h]; exact hx
    · rw [pk_un c]; exact H.1 q (by omega)
  · by_cases c : q = j
    · subst c; rw [pk_us, if_pos ⟨by omega, h⟩, hy]; exact hx
    · have e : (q < j + 1 ∧ P q = true) ↔ (q < j ∧ P q = true) := ⟨fun z => ⟨by omega, z.2⟩, fun z => ⟨by omega, z.2⟩⟩
      rw [pk_un c, ifc e]; exact H.2 q hq
theorem im_end {A9 A0 : Nat → Int32} {P : Nat → Bool} {O C : Nat → Nat} (H : IM A9 A0 P O C 8) : (∀ q, q < 8 → A0 q = nI (if P q = true then O q else 0)) ∧ ∀ q, q < 8 → A9 q = nI (if P q = true then O q else C q) := by
  refine ⟨H.1, fun q hq => ?_⟩
  rw [H.2 q hq]
  by_cases c : P q = true
  · rw [if_pos ⟨hq, c⟩, if_pos c]
  · rw [if_neg (fun z => c z.2), if_neg c]
theorem upd_if {f : Nat → Int32} {a : Nat} {x : Int32} (ha : a < 2 ^ 31) : ∀ j, upd f (Int32.toNatClampNeg (nI a)) x j = if j = a then x else f j := by
  intro j
  rw [nI_clamp ha]
  by_cases c : j = a
  · rw [c, pk_us, if_pos rfl]
  · rw [pk_un c, if_neg c]
theorem lvr_n {inn : Int32} {T : Nat → Int32} {K : Nat → Bool} {lev : Nat → Int32} {out : Int32} {nl : Nat} (h : LD inn T K lev out nl) : LVR inn T lev := h.1

