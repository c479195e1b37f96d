theorem sm_at {F : Nat → Nat} {h i x : Nat} (e : h = sm F i) (hF : x = F i) : h + x = sm F (i + 1) := by
  show h + x = sm F i + F i
  rw [e, hF]
