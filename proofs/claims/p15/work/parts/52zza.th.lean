/-! what is owed, as the two reckon it -/
theorem mx_sub {a b : Nat} {x : Int32} (ha : a < 2 ^ 30) (hb : b < 2 ^ 30) (e : x = nI a - nI b) : (if x < 0 then 0 else x) = nI (a - b) := by
  by_cases c : b ≤ a
  · have e2 : x = nI (a - b) := by rw [e]; exact pk_sub c
    rw [e2, if_neg (nI_pos (by omega))]
  · have h := pk_sneg (a := a) (b := b) hb (by omega)
    rw [← e] at h
    rw [if_pos h, show a - b = 0 from by omega]; rfl
theorem owe_no {li wo de su : Nat → Nat} {it : Nat → Int32} {lf : Nat → Nat} {p im mu : Nat} (h : ¬ bt (it p) im = true) : OWE li wo de su it lf p im mu = 0 := if_neg h
theorem owe_eq {li wo de su : Nat → Nat} {it : Nat → Int32} {lf : Nat → Nat} {p im mu sc : Nat} (h : bt (it p) im = true) (hs : sc = if li p < wo p then mu * li p / wo p else mu) : OWE li wo de su it lf p im mu = min (if 0 < su (8 * p + im) then min (min (sc - de p) (li p)) (su (8 * p + im) - 1) else min (sc - de p) (li p)) (lf p) := by
  unfold OWE; rw [if_pos h, hs]
theorem owe_s0 {li wo de su : Nat → Nat} {it : Nat → Int32} {lf : Nat → Nat} {p im mu sc : Nat} (h : bt (it p) im = true) (hs : sc = if li p < wo p then mu * li p / wo p else mu) (h0 : su (8 * p + im) = 0) : min (min (sc - de p) (li p)) (lf p) = OWE li wo de su it lf p im mu := by
  rw [owe_eq h hs, if_neg (by omega)]
theorem owe_s1 {li wo de su : Nat → Nat} {it : Nat → Int32} {lf : Nat → Nat} {p im mu sc : Nat} (h : bt (it p) im = true) (hs : sc = if li p < wo p then mu * li p / wo p else mu) (h0 : 0 < su (8 * p + im)) : min (min (min (sc - de p) (li p)) (su (8 * p + im) - 1)) (lf p) = OWE li wo de su it lf p im mu := by
  rw [owe_eq h hs, if_pos h0]
/-- the object's row of sublimits -/
def SUB (f : Nat → Int32) (su : Nat → Nat) : Prop := ∀ k, k < 64 → su k ≤ 1000001 ∧ f k = if su k = 0 then -1 else nI (su k - 1)
theorem sub_none {f : Nat → Int32} {su : Nat → Nat} {k : Nat} {v : Int32} (H : SUB f su) (hk : k < 64) (ev : v = f (Int32.toNatClampNeg (nI k))) (h : v = -1) : su k = 0 := by
  rw [nI_clamp (by omega)] at ev
  have h2 := H k hk
  by_cases c : su k = 0
  · exact c
  · rw [if_neg c] at h2
    have h3 : nI (su k - 1) = -1 := h2.2.symm.trans (ev.symm.trans h)
    have h4 := nI_toInt (n := su k - 1) (by omega)
    rw [h3, show Int32.toInt (-1) = -1 from rfl] at h4
    omega
theorem sub_some {f : Nat → Int32} {su : Nat → Nat} {k : Nat} {v : Int32} (H : SUB f su) (hk : k < 64) (ev : v = f (Int32.toNatClampNeg (nI k))) (h : ¬ v = -1) : 0 < su k ∧ su k ≤ 1000001 ∧ v = nI (su k - 1) := by
  rw [nI_clamp (by omega)] at ev
  have h2 := H k hk
  by_cases c : su k = 0
  · rw [if_pos c] at h2; exact absurd (ev.trans h2.2) h
  · rw [if_neg c] at h2; exact ⟨by omega, h2.1, ev.trans h2.2⟩
theorem owe_b {li wo de su : Nat → Nat} {it : Nat → Int32} {lf : Nat → Nat} {p im mu : Nat} (hli : li p ≤ 1000000) : OWE li wo de su it lf p im mu ≤ 1000000 := Nat.le_trans owe_li hli
theorem cpy8 {f g : Nat → Int32} {k : Nat} (hk : k < 8) : va_cpy f g (0 : Int32).toNatClampNeg (0 : Int32).toNatClampNeg (8 : Int32).toNatClampNeg k = f k := by
  rw [show (0 : Int32).toNatClampNeg = 0 from rfl, show (8 : Int32).toNatClampNeg = 8 from rfl, pk_cpy_in (Nat.zero_le _) (by omega)]
  show f (0 + (k - 0)) = f k
  rw [Nat.sub_zero, Nat.zero_add]
theorem lone_y {li wo de su : Nat → Nat} {it : Nat → Int32} {th : Int32} {lf : Nat → Nat} {im am p : Nat} (h : bt th p = true) : OWE li wo de su it lf p im am = LONE li wo de su it th lf im am p := by unfold LONE; rw [if_pos h]
theorem lone_n {li wo de su : Nat → Nat} {it : Nat → Int32} {th : Int32} {lf : Nat → Nat} {im am p : Nat} (h : ¬ bt th p = true) : 0 = LONE li wo de su it th lf im am p := by unfold LONE; rw [if_neg h]
theorem lone_b {li wo de su : Nat → Nat} {it : Nat → Int32} {th : Int32} {lf : Nat → Nat} {im am p : Nat} (hli : li p ≤ 1000000) : LONE li wo de su it th lf im am p ≤ 1000000 := by
  unfold LONE
  by_cases c : bt th p = true
  · rw [if_pos c]; exact owe_b hli
  · rw [if_neg c]; exact Nat.zero_le _
theorem ors_y {P : Nat → Bool} {i : Nat} {a s x : Int32} (h : P i = true) (ea : a = ORS P i) (es : s = (1 : Int32) <<< (nI i &&& 31)) (ex : x = a ||| s) : x = ORS P (i + 1) := by rw [ors_t h, ex, ea, es]
theorem ors_z {P : Nat → Bool} {i : Nat} {a x : Int32} (h : ¬ P i = true) (ea : a = ORS P i) (ex : x = a ||| 0) : x = ORS P (i + 1) := by rw [ors_f h, ex, ea, or_0]
theorem ors_k {P : Nat → Bool} {i : Nat} {a : Int32} (h : ¬ P i = true) (ea : a = ORS P i) : a = ORS P (i + 1) := by rw [ors_f h, ea]
theorem ifc {P Q : Prop} [Decidable P] [Decidable Q] {α : Type} {a b : α} (h : P ↔ Q) : (if P then a else b) = (if Q then a else b) := by
  by_cases c : P
  · rw [if_pos c, if_pos (h.mp c)]
  · rw [if_neg c, if_neg (fun q => c (h.mpr q))]

