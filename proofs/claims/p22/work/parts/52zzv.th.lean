theorem sm_at {F : Nat → Nat} {h i x : Nat} (e : h = sm F i) (hF : x = F i) : h + x = sm F (i + 1) := by
  show h + x = sm F i + F i
  rw [e, hF]
theorem bt_all_tab : ∀ n : Fin 9, ∀ p : Fin 8, bt (nI (2 ^ n.val - 1)) p.val = decide (p.val < n.val) := by decide +kernel
theorem bt_all {n p : Nat} (hn : n ≤ 8) (hp : p < 8) : bt (nI (2 ^ n - 1)) p = decide (p < n) := bt_all_tab ⟨n, by omega⟩ ⟨p, hp⟩
