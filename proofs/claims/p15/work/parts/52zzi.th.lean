/-- what the reference holds behind the settling of a loss -/
def LM (li wo de su : Nat → Nat) (it ki to : Nat → Int32) (ru th : Int32) (lf : Nat → Nat) (im am : Nat) (G19 G20 G21 G23 G24 G25 G26 G27 G33 G34 : Nat → Int32) (inn out : Int32) (nl tt : Nat) : Prop :=
  inn = INN li wo de su it th lf im am ∧ nv G19 lf ∧ nv G20 (LONE li wo de su it th lf im am) ∧ (∀ k, k < 8 → G21 k = YI ki to inn k) ∧ (∀ k, k < 8 → G23 k = RIN (clo (YI ki to inn) 8) k) ∧ (∀ k, k < 8 → G24 k = TT (YI ki to inn) k) ∧ LD inn (TT (YI ki to inn)) (KE ki) G25 out nl ∧ (∀ k, k < 8 → G26 k = nI (CAPL li wo de su it ki to inn lf im am nl k)) ∧ (∀ k, k < 8 → G27 k = nI (SHL li wo de su it ki to ru inn lf im am nl k)) ∧ tt = TTS li wo de su it ki to inn lf im am nl ∧ (∀ j, j < nl → G33 j = nI (am - TTS li wo de su it ki to inn lf im am j)) ∧ (∀ j, j < nl → G34 j = nI (HGT (CPL li wo de su it ki to inn lf im (am - TTS li wo de su it ki to inn lf im am j) j) (DUE li wo de su it ki to inn lf im am j)))
theorem tt_of {Y : Nat → Int32} {a b : Nat → Int32} {p : Nat} {v1 v2 v3 v4 : Int32} (hp : p < 8) (h1 : ∀ k, k < 8 → a k = Y k) (h2 : ∀ k, k < 8 → b k = RIN (clo Y 8) k) (e1 : v1 = a (Int32.toNatClampNeg (nI p))) (e2 : v2 = b (Int32.toNatClampNeg (nI p))) (e3 : v3 = v2 ^^^ (-1)) (e4 : v4 = v1 &&& v3) : v4 = TT Y p := by
  rw [nI_clamp (by omega)] at e1 e2
  rw [e4, e3, e1, e2, h1 p hp, h2 p hp]; rfl
theorem row_if {f g : Nat → Int32} {F : Nat → Nat} {a : Nat} {x : Int32} (h : ∀ j, j < 8 → g j = if j = a then x else f j) (ha : a < 8) (H : ∀ j, j < a → f j = nI (F j)) (hx : x = nI (F a)) : ∀ j, j < a + 1 → g j = nI (F j) := by
  intro j hj
  rw [h j (by omega)]
  by_cases c : j = a
  · rw [if_pos c, c]; exact hx
  · rw [if_neg c]; exact H j (by omega)

