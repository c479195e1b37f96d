/-! what is held behind the settling, read off: more -/
section
variable {li wo de su : Nat → Nat} {it ki to : Nat → Int32} {ru th : Int32} {ag lim lam : Nat → Nat} {l nl tt : Nat} {inn out : Int32} {S6 S8 S9 S10 S11 W1 W2 W3 W4 G19 G20 G21 G23 G24 G25 G26 G27 G33 G34 : Nat → Int32}
end
section
variable {nl lj : Nat} {li wo de su : Nat → Nat} {it ki to : Nat → Int32} {ru th : Int32} {ag lim lam : Nat → Nat} {p0 p1 v : Int32}
end
/-! levels -/
section
variable {qj l : Nat} {li wo de su : Nat → Nat} {it ki to : Nat → Int32} {ru th : Int32} {ag lim lam : Nat → Nat} {p1 v : Int32}
end
/-! heights -/
theorem hd_y {A : Nat → Int32} {c : Nat → Nat} {i x : Nat} (hi : i < 8) (H : ∀ k, k < 8 → A k = nI (if k < i then c k else 0)) (hc : c i = x) : ∀ k, k < 8 → upd A (Int32.toNatClampNeg (nI i)) (nI x) k = nI (if k < i + 1 then c k else 0) := fun k hk => by
  rw [nI_clamp (by omega)]
  by_cases q : k = i
  · subst q; rw [pk_us, if_pos (by omega), hc]
  · rw [pk_un q, H k hk]
    by_cases q2 : k < i
    · rw [if_pos q2, if_pos (by omega)]
    · rw [if_neg q2, if_neg (by omega)]
theorem hd_n {A : Nat → Int32} {c : Nat → Nat} {i : Nat} (H : ∀ k, k < 8 → A k = nI (if k < i then c k else 0)) (hc : c i = 0) : ∀ k, k < 8 → A k = nI (if k < i + 1 then c k else 0) := fun k hk => by
  rw [H k hk]
  by_cases q : k = i
  · subst q; rw [if_neg (by omega), if_pos (by omega), hc]
  · by_cases q2 : k < i
    · rw [if_pos q2, if_pos (by omega)]
    · rw [if_neg q2, if_neg (by omega)]
section
variable {qj l nl j k : Nat} {li wo de su lf : Nat → Nat} {it ki to : Nat → Int32} {ru th : Int32} {ag lim lam : Nat → Nat} {p1 v w inn : Int32} {im am : Nat}
end
