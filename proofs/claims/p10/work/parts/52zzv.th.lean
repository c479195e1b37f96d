/-! counts -/
theorem pu_y {a : Bool} {q : Prop} [Decidable q] (ha : a = true) (hq : q) : (a && decide q) = true := by rw [ha, decide_eq_true hq]; rfl
theorem pu_1 {a : Bool} {q : Prop} [Decidable q] (ha : ¬ a = true) : ¬ (a && decide q) = true := fun h => by
  cases a
  · exact absurd h (by simp)
  · exact ha rfl
theorem pu_2 {a : Bool} {q : Prop} [Decidable q] (hq : ¬ q) : ¬ (a && decide q) = true := fun h => by
  rw [decide_eq_false hq] at h
  cases a <;> exact absurd h (by simp)
theorem sm_at {F : Nat → Nat} {h i x : Nat} (e : h = sm F i) (hF : x = F i) : h + x = sm F (i + 1) := by
  show h + x = sm F i + F i
  rw [e, hF]
theorem ors_tail {P : Nat → Bool} {n : Nat} : ∀ m, n ≤ m → (∀ p, n ≤ p → p < m → ¬ P p = true) → ORS P m = ORS P n
  | 0, h, _ => by
    obtain rfl : n = 0 := by omega
    rfl
  | m + 1, h, H => by
    by_cases c : n = m + 1
    · rw [c]
    · rw [ors_f (H m (by omega) (by omega))]
      exact ors_tail m (by omega) (fun p h1 h2 => H p h1 (by omega))
theorem bt_all_tab : ∀ n : Fin 9, ∀ p : Fin 8, bt (nI (2 ^ n.val - 1)) p.val = decide (p.val < n.val) := by decide +kernel
theorem bt_all {n p : Nat} (hn : n ≤ 8) (hp : p < 8) : bt (nI (2 ^ n - 1)) p = decide (p < n) := bt_all_tab ⟨n, by omega⟩ ⟨p, hp⟩
def A_cn (np nl : Nat) (li wo de su : Nat → Nat) (it ki to : Nat → Int32) (ru : Int32) (ag lim lam : Nat → Nat) (p0 : Int32) : Int32 := if p0 = 0 then nI np else if p0 = 1 then nI nl else if p0 = 2 then ru else if p0 = 3 then nI (sm (TTN li wo de su it ki to ru (nI (2 ^ np - 1)) ag lim lam) nl) else if p0 = 4 then nI (sm lam nl) else if p0 = 5 then ORS (fun p => bt (nI (2 ^ np - 1)) p && decide (LFN li wo de su it ki to ru (nI (2 ^ np - 1)) ag lim lam nl p = 0)) 8 else -1

