theorem sm_add (f g : Nat → Nat) : ∀ n, sm (fun k => f k + g k) n = sm f n + sm g n
  | 0 => rfl
  | n + 1 => by
    show sm (fun k => f k + g k) n + (f n + g n) = (sm f n + f n) + (sm g n + g n)
    rw [sm_add f g n]; omega
theorem sm_mul (a : Nat) (f : Nat → Nat) : ∀ n, sm (fun k => a * f k) n = a * sm f n
  | 0 => rfl
  | n + 1 => by
    show sm (fun k => a * f k) n + a * f n = a * (sm f n + f n)
    rw [sm_mul a f n, Nat.mul_add]
theorem sm_mono (f : Nat → Nat) {i n : Nat} (h : i ≤ n) : sm f i ≤ sm f n := by
  induction n with
  | zero => obtain rfl : i = 0 := (by omega); exact Nat.le_refl _
  | succ n ih =>
    rcases Nat.lt_or_ge i (n + 1) with q | q
    · exact Nat.le_trans (ih (by omega)) (Nat.le_add_right _ _)
    · obtain rfl : i = n + 1 := (by omega); exact Nat.le_refl _
theorem sm_upd (f : Nat → Nat) {b x : Nat} : ∀ {n : Nat}, b < n → sm (fun k => if k = b then x else f k) n + f b = sm f n + x
  | 0, h => absurd h (Nat.not_lt_zero b)
  | n + 1, h => by
    show sm (fun k => if k = b then x else f k) n + (if n = b then x else f n) + f b = sm f n + f n + x
    by_cases e : n = b
    · subst e
      rw [if_pos rfl, sm_cong (g := f) (fun k hk => if_neg (by omega))]
      omega
    · have := sm_upd f (b := b) (x := x) (n := n) (by omega)
      rw [if_neg e]
      omega
theorem fl_sum {c0 : Nat → Nat} {du S : Nat} (i : Nat) : S * sm (fun k => du * c0 k / S) i + sm (fun k => du * c0 k % S) i = du * sm c0 i := by
  rw [← sm_mul, ← sm_add, ← sm_mul]
  exact sm_cong (fun k _ => Nat.div_add_mod (du * c0 k) S)
theorem fl_le {c0 : Nat → Nat} {du S i : Nat} (hS : 0 < S) (hi : sm c0 i ≤ S) : sm (fun k => du * c0 k / S) i ≤ du := by
  have h := fl_sum (c0 := c0) (du := du) (S := S) i
  have h2 : du * sm c0 i ≤ du * S := Nat.mul_le_mul_left du hi
  have h3 : S * sm (fun k => du * c0 k / S) i ≤ S * du := by rw [Nat.mul_comm S du]; omega
  exact Nat.le_of_mul_le_mul_left h3 hS
/-- how many of the first n are above 0 -/
def cp (rs : Nat → Int64) (n : Nat) : Nat := sm (fun k => if 0 < rs k then 1 else 0) n
def BL (f : Nat → Int32) (rs : Nat → Int64) (c0 : Nat → Nat) (du S i : Nat) : Prop := ∀ k, k < i → f k = nI (du * c0 k / S) ∧ rs k = lN (du * c0 k % S)
theorem bl_step {f : Nat → Int32} {rs : Nat → Int64} {c0 : Nat → Nat} {du S i : Nat} {x : Int32} {y : Int64} (hi : i < 8) (H : BL f rs c0 du S i) (hx : x = nI (du * c0 i / S)) (hy : y = lN (du * c0 i % S)) : BL (upd f (Int32.toNatClampNeg (nI i)) x) (vp_updL rs (Int32.toNatClampNeg (nI i)) y) c0 du S (i + 1) := by
  intro k hk
  rw [nI_clamp (by omega)]
  by_cases e : k = i
  · subst e; rw [pk_us, pk_uLs]; exact ⟨hx, hy⟩
  · rw [pk_un e, pk_uLn e]; exact H k (by omega)
def BC (f : Nat → Int32) (rs : Nat → Int64) (c0 : Nat → Nat) (du ov : Nat) : Prop := ∃ pt : Nat → Nat, nv f pt ∧ sm pt 8 + ov = du ∧ (∀ k, k < 8 → pt k ≤ c0 k) ∧ (∀ k, k < 8 → 0 < rs k → pt k + 1 ≤ c0 k) ∧ ov ≤ cp rs 8
theorem lN_pos {n : Nat} (h : n < 2 ^ 31) : (0 : Int64) < lN n ↔ 0 < n := lN_lt (a := 0) (by decide) h
theorem bc_0 {f : Nat → Int32} {rs : Nat → Int64} {c0 : Nat → Nat} {du : Nat} (H : BL f rs c0 du (sm c0 8) 8) (hS : 0 < sm c0 8) (hb : sm c0 8 < 2 ^ 31) (hd : du ≤ sm c0 8) : BC f rs c0 du (du - sm (fun k => du * c0 k / sm c0 8) 8) := by
  have hle := fl_le (c0 := c0) (du := du) (i := 8) hS (Nat.le_refl _)
  have hrem : ∀ k, du * c0 k % sm c0 8 < sm c0 8 := fun k => Nat.mod_lt _ hS
  have hpos : ∀ k, k < 8 → (0 < rs k ↔ 0 < du * c0 k % sm c0 8) := fun k hk => by
    rw [(H k hk).2]; exact lN_pos (by have := hrem k; omega)
  refine ⟨fun k => du * c0 k / sm c0 8, fun k hk => (H k hk).1, by omega, fun k hk => ?_, fun k hk hp => ?_, ?_⟩
  · exact Nat.le_trans (Nat.div_le_div_right (Nat.mul_le_mul_right _ hd)) (by rw [Nat.mul_div_cancel_left _ hS]; exact Nat.le_refl _)
  · have h1 := (hpos k hk).mp hp
    have h2 := Nat.div_add_mod (du * c0 k) (sm c0 8)
    have h3 : du * c0 k ≤ sm c0 8 * c0 k := Nat.mul_le_mul_right _ hd
    show du * c0 k / sm c0 8 < c0 k
    exact Nat.lt_of_mul_lt_mul_left (a := sm c0 8) (by omega)
  · have h := fl_sum (c0 := c0) (du := du) (S := sm c0 8) 8
    have h4 : sm (fun k => du * c0 k % sm c0 8) 8 ≤ sm (fun k => sm c0 8 * (if 0 < rs k then 1 else 0)) 8 := sm_le (fun k hk => by
      by_cases q : 0 < rs k
      · rw [if_pos q, Nat.mul_one]; exact Nat.le_of_lt (hrem k)
      · rw [if_neg q, Nat.mul_zero]
        exact Nat.le_of_not_lt (fun z => q ((hpos k hk).mpr z)))
    rw [sm_mul] at h4
    have h5 : sm c0 8 * (du - sm (fun k => du * c0 k / sm c0 8) 8) ≤ sm c0 8 * cp rs 8 := by
      rw [Nat.mul_sub]
      rw [Nat.mul_comm du] at h
      show _ ≤ sm c0 8 * sm (fun k => if 0 < rs k then 1 else 0) 8
      omega
    exact Nat.le_of_mul_le_mul_left h5 hS
theorem cp_pos {rs : Nat → Int64} : ∀ {n : Nat}, 0 < cp rs n → ∃ k, k < n ∧ 0 < rs k
  | 0, h => absurd h (Nat.lt_irrefl 0)
  | n + 1, h => by
    by_cases q : 0 < rs n
    · exact ⟨n, by omega, q⟩
    · have h2 : cp rs (n + 1) = cp rs n := by
        show sm (fun k => if 0 < rs k then 1 else 0) n + (if 0 < rs n then 1 else 0) = _
        rw [if_neg q]; rfl
      obtain ⟨k, hk, hp⟩ := cp_pos (rs := rs) (n := n) (by omega)
      exact ⟨k, by omega, hp⟩
theorem bc_step {f : Nat → Int32} {rs : Nat → Int64} {c0 : Nat → Nat} {du ov b : Nat} {v w : Int32} (H : BC f rs c0 du ov) (hov : 0 < ov) (hb : b < 8) (hmax : ∀ k, k < 8 → rs k ≤ rs b) (hc : ∀ k, k < 8 → c0 k ≤ 1000000) (ev : v = f (Int32.toNatClampNeg (nI b))) (ew : w = v + 1) : BC (upd f (Int32.toNatClampNeg (nI b)) w) (vp_updL rs (Int32.toNatClampNeg (nI b)) (-1)) c0 du (ov - 1) := by
  obtain ⟨pt, h1, h2, h3, h4, h5⟩ := H
  obtain ⟨k0, hk0, hp0⟩ := cp_pos (rs := rs) (n := 8) (by omega)
  have hpb : 0 < rs b := Int64.lt_of_lt_of_le hp0 (hmax k0 hk0)
  have hcl : Int32.toNatClampNeg (nI b) = b := nI_clamp (by omega)
  rw [hcl] at ev ⊢
  have hw : w = nI (pt b + 1) := by rw [ew, ev, h1 b hb]; exact nI_1 _
  have hsum := sm_upd pt (b := b) (x := pt b + 1) (n := 8) hb
  have hcp := sm_upd (fun k => if 0 < rs k then 1 else 0) (b := b) (x := 0) (n := 8) hb
  refine ⟨fun k => if k = b then pt b + 1 else pt k, fun k hk => ?_, by omega, fun k hk => ?_, fun k hk hp => ?_, ?_⟩
  · dsimp only
    by_cases e : k = b
    · subst e; rw [pk_us, if_pos rfl]; exact hw
    · rw [pk_un e, if_neg e]; exact h1 k hk
  · dsimp only
    by_cases e : k = b
    · subst e; rw [if_pos rfl]; exact h4 k hk hpb
    · rw [if_neg e]; exact h3 k hk
  · dsimp only
    by_cases e : k = b
    · subst e; rw [pk_uLs] at hp; exact absurd hp (by decide)
    · rw [if_neg e]; rw [pk_uLn e] at hp; exact h4 k hk hp
  · have e2 : cp (vp_updL rs b (-1)) 8 = sm (fun k => if k = b then 0 else if 0 < rs k then 1 else 0) 8 := sm_cong (fun k hk => by
      by_cases e : k = b
      · subst e; rw [pk_uLs, if_pos rfl, if_neg (by decide)]
      · rw [pk_uLn e, if_neg e])
    rw [e2]
    have h6 : cp rs 8 = sm (fun k => if 0 < rs k then 1 else 0) 8 := rfl
    simp only [if_pos hpb] at hcp
    omega

