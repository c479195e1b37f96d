/-! what the sharing of a loss needs -/
theorem pay_bt {ki to : Nat → Int32} {inn ls out v x : Int32} {k j : Nat} (hj : j < 8) (hl : ls = ORS (fun p => bt inn p && decide (LVL (TT (YI ki to inn)) p = k)) 8) (ho : out = ORS (fun p => bt inn p && OUL (TT (YI ki to inn)) (KE ki) p) 8) (ex : x = out ^^^ (-1)) (ev : v = ls &&& x) : bt v j = PAY ki to inn k j := by
  rw [ev, ex, bt_andw, bt_notw _ hj, hl, ho, ors_bt8 hj, ors_bt8 hj]
  unfold PAY
  cases bt inn j <;> cases decide (LVL (TT (YI ki to inn)) j = k) <;> cases OUL (TT (YI ki to inn)) (KE ki) j <;> rfl
/-- the caps up to level k, each at its own level's burden -/
def CAPL (li wo de su : Nat → Nat) (it ki to : Nat → Int32) (inn : Int32) (lf : Nat → Nat) (im am k p : Nat) : Nat :=
  if (bt inn p && !(OUL (TT (YI ki to inn)) (KE ki) p) && decide (LVL (TT (YI ki to inn)) p < k)) = true then OWE li wo de su it lf p im (am - TTS li wo de su it ki to inn lf im am (LVL (TT (YI ki to inn)) p)) else 0
theorem capl_0 {li wo de su : Nat → Nat} {it ki to : Nat → Int32} {inn : Int32} {lf : Nat → Nat} {im am p : Nat} : CAPL li wo de su it ki to inn lf im am 0 p = 0 := by
  unfold CAPL
  rw [if_neg (by simp)]
theorem capl_s {li wo de su : Nat → Nat} {it ki to : Nat → Int32} {inn : Int32} {lf : Nat → Nat} {im am k p : Nat} : CAPL li wo de su it ki to inn lf im am (k + 1) p = if PAY ki to inn k p = true then OWE li wo de su it lf p im (am - TTS li wo de su it ki to inn lf im am k) else CAPL li wo de su it ki to inn lf im am k p := by
  by_cases c : PAY ki to inn k p = true
  · have hk := pay_k c
    have c2 := c
    unfold PAY at c2
    rw [Bool.and_eq_true] at c2
    unfold CAPL
    rw [if_pos c, c2.1, hk, if_pos (by rw [decide_eq_true (show k < k + 1 by omega)]; rfl)]
  · rw [if_neg c]
    unfold CAPL
    have e : (bt inn p && !(OUL (TT (YI ki to inn)) (KE ki) p) && decide (LVL (TT (YI ki to inn)) p < k + 1)) = (bt inn p && !(OUL (TT (YI ki to inn)) (KE ki) p) && decide (LVL (TT (YI ki to inn)) p < k)) := by
      by_cases q : (bt inn p && !(OUL (TT (YI ki to inn)) (KE ki) p)) = true
      · have hne : ¬ LVL (TT (YI ki to inn)) p = k := fun h => c (by unfold PAY; rw [q, decide_eq_true h]; rfl)
        rw [q]
        have : decide (LVL (TT (YI ki to inn)) p < k + 1) = decide (LVL (TT (YI ki to inn)) p < k) := decide_eq_decide.mpr (by omega)
        rw [this]
      · rw [bf q, Bool.false_and, Bool.false_and]
    rw [e]
/-- caps of a level, being laid in two rows -/
def IC (A9 A0 : Nat → Int32) (P : Nat → Bool) (O C : Nat → Nat) (j : Nat) : Prop := ∀ q, q < 8 → A0 q = nI (if q < j ∧ P q = true then O q else 0) ∧ A9 q = nI (if q < j ∧ P q = true then O q else C q)
theorem ic_0 {A9 A0 : Nat → Int32} {P : Nat → Bool} {O C : Nat → Nat} (h0 : ∀ q, q < 8 → A0 q = 0) (h9 : ∀ q, q < 8 → A9 q = nI (C q)) : IC A9 A0 P O C 0 := fun q hq => by
  rw [if_neg (by omega), if_neg (by omega)]; exact ⟨h0 q hq, h9 q hq⟩
theorem ic_no {A9 A0 : Nat → Int32} {P : Nat → Bool} {O C : Nat → Nat} {j : Nat} (H : IC A9 A0 P O C j) (h : ¬ P j = true) : IC A9 A0 P O C (j + 1) := fun q hq => by
  have e : (q < j + 1 ∧ P q = true) ↔ (q < j ∧ P q = true) := ⟨fun z => ⟨by
    have : q ≠ j := fun c => h (c ▸ z.2)
    omega, z.2⟩, fun z => ⟨by omega, z.2⟩⟩
  rw [ifc e, ifc e]; exact H q hq
theorem ic_yes {A9 A0 : Nat → Int32} {P : Nat → Bool} {O C : Nat → Nat} {j : Nat} {x y : Int32} (hj : j < 8) (H : IC A9 A0 P O C j) (h : P j = true) (hx : x = nI (O j)) (hy : y = upd A9 (Int32.toNatClampNeg (nI j)) x (Int32.toNatClampNeg (nI j))) : IC (upd A9 (Int32.toNatClampNeg (nI j)) x) (upd A0 (Int32.toNatClampNeg (nI j)) y) P O C (j + 1) := fun q hq => by
  rw [pk_us] at hy
  rw [nI_clamp (by omega)]
  by_cases c : q = j
  · subst c
    rw [pk_us, pk_us, if_pos ⟨by omega, h⟩, if_pos ⟨by omega, h⟩, hy]; exact ⟨hx, hx⟩
  · have e : (q < j + 1 ∧ P q = true) ↔ (q < j ∧ P q = true) := ⟨fun z => ⟨by omega, z.2⟩, fun z => ⟨by omega, z.2⟩⟩
    rw [pk_un c, pk_un c, ifc e, ifc e]; exact H q hq
theorem ic_end {A9 A0 : Nat → Int32} {P : Nat → Bool} {O C : Nat → Nat} (H : IC A9 A0 P O C 8) : (∀ q, q < 8 → A0 q = nI (if P q = true then O q else 0)) ∧ ∀ q, q < 8 → A9 q = nI (if P q = true then O q else C q) := by
  refine ⟨fun q hq => ?_, fun q hq => ?_⟩
  · rw [(H q hq).1]
    by_cases c : P q = true
    · rw [if_pos ⟨hq, c⟩, if_pos c]
    · rw [if_neg (fun z => c z.2), if_neg c]
  · rw [(H q hq).2]
    by_cases c : P q = true
    · rw [if_pos ⟨hq, c⟩, if_pos c]
    · rw [if_neg (fun z => c z.2), if_neg c]
theorem ad_cong {f : Nat → Int32} {s0 pt s1 : Nat → Nat} (h : AD f s0 pt 8) (e : ∀ k, k < 8 → s0 k + pt k = s1 k) : ∀ k, k < 8 → f k = nI (s1 k) := fun k hk => by
  rw [← e k hk]; exact ad_end h k hk
theorem rowN_up {f : Nat → Int32} {F : Nat → Nat} {i : Nat} {x : Int32} (hi : i < 2 ^ 31) (H : ∀ k, k < i → f k = nI (F k)) (hx : x = nI (F i)) : ∀ k, k < i + 1 → upd f (Int32.toNatClampNeg (nI i)) x k = nI (F k) := by
  intro k hk
  rw [nI_clamp hi]
  by_cases e : k = i
  · subst e; rw [pk_us]; exact hx
  · rw [pk_un e]; exact H k (by omega)

