/-! how the reference lays the levels -/
def KN (inn known : Int32) (T : Nat → Int32) (K : Nat → Bool) (lev : Nat → Int32) (out : Int32) (nl e : Nat) : Prop :=
  isw8 out ∧ isw8 known ∧ (∀ p, p < 8 → bt known p = true → bt inn p = true) ∧ (∀ p, p < 8 → bt known p = true → lev p = nI (LVL T p)) ∧ (∀ p, p < 8 → p ≠ e → ¬ bt known p = true → lev p = -1) ∧ (∀ p, p < 8 → bt out p = (bt known p && OUL T K p)) ∧ nl = mx (fun p => if bt known p = true then LVL T p + 1 else 0) 8
theorem kn_0 {inn : Int32} {T : Nat → Int32} {K : Nat → Bool} {lev : Nat → Int32} (h : ∀ p, p < 8 → lev p = -1) : KN inn 0 T K lev 0 0 8 := by
  refine ⟨w8_0, w8_0, fun p hp hb => absurd hb (by rw [bt_0 hp]; decide), fun p hp hb => absurd hb (by rw [bt_0 hp]; decide), fun p hp _ _ => h p hp, fun p hp => by rw [bt_0 hp]; rfl, ?_⟩
  symm
  refine Nat.le_zero.mp (mx_le (fun p hp => ?_))
  rw [bt_0 hp]; exact Nat.le_refl _
def lvF (T : Nat → Int32) (p : Nat) : Nat → Nat := fun q => if bt (T p) q = true then LVL T q + 1 else 0
theorem kn_open {inn known : Int32} {T : Nat → Int32} {K : Nat → Bool} {lev : Nat → Int32} {out : Int32} {nl p : Nat} (H : KN inn known T K lev out nl 8) (hp : p < 8) (hk : ¬ bt known p = true) : KN inn known T K (upd lev (Int32.toNatClampNeg (nI p)) 0) out nl p ∧ upd lev (Int32.toNatClampNeg (nI p)) 0 p = nI (mx (lvF T p) 0) := by
  rw [nI_clamp (by omega)]
  obtain ⟨h1, h2, h3, h4, h5, h6, h7⟩ := H
  refine ⟨⟨h1, h2, h3, fun q hq hb => ?_, fun q hq hne hb => ?_, h6, h7⟩, pk_us⟩
  · have e : q ≠ p := fun e => hk (e ▸ hb)
    rw [pk_un e]; exact h4 q hq hb
  · rw [pk_un hne]; exact h5 q hq (by omega) hb
theorem kn_lev {inn known : Int32} {T : Nat → Int32} {K : Nat → Bool} {lev : Nat → Int32} {out : Int32} {nl p x : Nat} (H : KN inn known T K lev out nl p) (hp : p < 8) (hk : ¬ bt known p = true) : KN inn known T K (upd lev (Int32.toNatClampNeg (nI p)) (nI x)) out nl p ∧ upd lev (Int32.toNatClampNeg (nI p)) (nI x) p = nI x := by
  rw [nI_clamp (by omega)]
  obtain ⟨h1, h2, h3, h4, h5, h6, h7⟩ := H
  refine ⟨⟨h1, h2, h3, fun q hq hb => ?_, fun q hq hne hb => ?_, h6, h7⟩, pk_us⟩
  · have e : q ≠ p := fun e => hk (e ▸ hb)
    rw [pk_un e]; exact h4 q hq hb
  · rw [pk_un hne]; exact h5 q hq hne hb
theorem lvF_s {T : Nat → Int32} {p q : Nat} : mx (lvF T p) (q + 1) = max (mx (lvF T p) q) (lvF T p q) := rfl
theorem lvF_no {T : Nat → Int32} {p q : Nat} (h : ¬ bt (T p) q = true) : mx (lvF T p) (q + 1) = mx (lvF T p) q := by
  rw [lvF_s]; unfold lvF; rw [if_neg h]; exact Nat.max_eq_left (Nat.zero_le _)
theorem lvF_lo {T : Nat → Int32} {p q : Nat} (h : bt (T p) q = true) (h2 : ¬ mx (lvF T p) q ≤ LVL T q) : mx (lvF T p) (q + 1) = mx (lvF T p) q := by
  rw [lvF_s]
  have e : lvF T p q = LVL T q + 1 := if_pos h
  rw [e]; omega
theorem lvF_hi {T : Nat → Int32} {p q : Nat} (h : bt (T p) q = true) (h2 : mx (lvF T p) q ≤ LVL T q) : mx (lvF T p) (q + 1) = LVL T q + 1 := by
  rw [lvF_s]
  have e : lvF T p q = LVL T q + 1 := if_pos h
  rw [e]; omega
theorem kn_out {inn known : Int32} {T : Nat → Int32} {K : Nat → Bool} {lev : Nat → Int32} {out : Int32} {nl p e : Nat} {rk : Nat → Nat} (HR : RK T rk) (H : KN inn known T K lev out nl e) (hp : p < 8) (hw : isw8 (T p)) (hs : T p &&& (known ^^^ (-1)) = 0) : (K p = true ∧ ¬ T p &&& (out ^^^ (-1)) = 0) ↔ OUL T K p = true := by
  obtain ⟨h1, h2, h3, h4, h5, h6, h7⟩ := H
  rw [oul_eq HR hp, Bool.and_eq_true]
  refine and_congr Iff.rfl ?_
  rw [sub_iff hw, anyb_t]
  constructor
  · intro h
    refine Classical.byContradiction fun hn => h (fun q hq hb => ?_)
    rw [h6 q hq, (sub_iff hw).mp hs q hq hb, Bool.true_and]
    refine Classical.byContradiction fun hc => hn ⟨q, hq, ?_⟩
    rw [hb, bf hc]; rfl
  · rintro ⟨q, hq, h⟩ hall
    rw [Bool.and_eq_true] at h
    have h8 := hall q hq h.1
    rw [h6 q hq, Bool.and_eq_true] at h8
    rw [h8.2] at h
    exact absurd h.2 (by decide)
theorem kn_put {inn known known' out' : Int32} {T : Nat → Int32} {K : Nat → Bool} {lev : Nat → Int32} {out : Int32} {nl nl' p : Nat} (H : KN inn known T K lev out nl p) (hp : p < 8) (hi : bt inn p = true) (hk : ¬ bt known p = true) (hl : lev p = nI (LVL T p)) (ek : known' = known ||| ((1 : Int32) <<< (nI p &&& 31))) (eo : (OUL T K p = true ∧ out' = out ||| ((1 : Int32) <<< (nI p &&& 31))) ∨ (¬ OUL T K p = true ∧ out' = out)) (en : nl' = max nl (LVL T p + 1)) : KN inn known' T K lev out' nl' 8 := by
  obtain ⟨h1, h2, h3, h4, h5, h6, h7⟩ := H
  have hb : ∀ q, q < 8 → bt known' q = (bt known q || decide (q = p)) := fun q hq => by rw [ek, bt_orw, bt_sh1 hp hq]
  refine ⟨?_, by rw [ek]; exact w8_or h2 hp, fun q hq h => ?_, fun q hq h => ?_, fun q hq _ h => ?_, fun q hq => ?_, ?_⟩
  · rcases eo with ⟨_, e⟩ | ⟨_, e⟩
    · rw [e]; exact w8_or h1 hp
    · rw [e]; exact h1
  · rw [hb q hq] at h
    by_cases c : q = p
    · rw [c]; exact hi
    · exact h3 q hq (by simpa [c] using h)
  · rw [hb q hq] at h
    by_cases c : q = p
    · rw [c]; exact hl
    · exact h4 q hq (by simpa [c] using h)
  · rw [hb q hq] at h
    by_cases c : q = p
    · exact absurd (by simp [c]) h
    · exact h5 q hq c (by simpa [c] using h)
  · rw [hb q hq]
    by_cases c : q = p
    · subst c
      have h8 : bt out q = false := by rw [h6 q hq, bf hk]; rfl
      rcases eo with ⟨e0, e⟩ | ⟨e0, e⟩
      · rw [e, bt_orw, bt_sh1 hp hq, e0]; simp
      · rw [e, h8, bf e0]; simp
    · rcases eo with ⟨e0, e⟩ | ⟨e0, e⟩
      · rw [e, bt_orw, bt_sh1 hp hq, h6 q hq]; simp [c]
      · rw [e, h6 q hq]; simp [c]
  · rw [en, h7]
    have e0 : (fun k => if bt known k = true then LVL T k + 1 else 0) p = 0 := if_neg hk
    rw [← mx_up (F := fun k => if bt known k = true then LVL T k + 1 else 0) hp e0]
    refine mx_cong (fun k hk8 => ?_)
    rw [hb k hk8]
    by_cases c : k = p
    · simp [c]
    · simp [c]
theorem kn_done {inn known : Int32} {T : Nat → Int32} {rk : Nat → Nat} (HR : RK T rk) (hw : ∀ p, p < 8 → isw8 (T p)) (hin : ∀ p q, p < 8 → q < 8 → bt (T p) q = true → bt inn q = true) (h : ∀ p, p < 8 → bt inn p = true → bt known p = true ∨ ¬ T p &&& (known ^^^ (-1)) = 0) : ∀ n p, p < 8 → rk p ≤ n → bt inn p = true → bt known p = true := by
  intro n
  induction n with
  | zero =>
    intro p hp hn hi
    rcases h p hp hi with q | q
    · exact q
    · exact absurd ((sub_iff (hw p hp)).mpr (fun x hx hb => absurd (HR.1 p x hp hx hb) (by omega))) q
  | succ n ih =>
    intro p hp hn hi
    rcases h p hp hi with q | q
    · exact q
    · refine absurd ((sub_iff (hw p hp)).mpr (fun x hx hb => ?_)) q
      have := HR.1 p x hp hx hb
      exact ih x hx (by omega) (hin p x hp hx hb)
/-- what stands when all are known -/
def LD (inn : Int32) (T : Nat → Int32) (K : Nat → Bool) (lev : Nat → Int32) (out : Int32) (nl : Nat) : Prop :=
  (∀ p, p < 8 → lev p = if bt inn p = true then nI (LVL T p) else -1) ∧ out = ORS (fun p => bt inn p && OUL T K p) 8 ∧ nl = NL inn T
theorem kn_end {inn known : Int32} {T : Nat → Int32} {K : Nat → Bool} {lev : Nat → Int32} {out : Int32} {nl : Nat} (H : KN inn known T K lev out nl 8) (h : ∀ p, p < 8 → bt inn p = true → bt known p = true) : LD inn T K lev out nl := by
  obtain ⟨h1, h2, h3, h4, h5, h6, h7⟩ := H
  have e : ∀ p, p < 8 → bt known p = bt inn p := fun p hp => by
    by_cases c : bt inn p = true
    · rw [c, h p hp c]
    · rw [bf c]; exact bf (fun q => c (h3 p hp q))
  refine ⟨fun p hp => ?_, w_ext h1 (ors_w8 (Nat.le_refl _)) (fun q hq => by rw [h6 q hq, ors_bt8 hq, e q hq]), ?_⟩
  · by_cases c : bt inn p = true
    · rw [if_pos c]; exact h4 p hp (h p hp c)
    · rw [if_neg c]; exact h5 p hp (by omega) (fun q => c (h3 p hp q))
  · rw [h7]; exact mx_cong (fun p hp => by rw [e p hp])
/-! how the object finds the levels -/
def FO (inn : Int32) (T : Nat → Int32) (K : Nat → Bool) (placed : Int32) (lev : Nat → Int32) (out : Int32) (ls : Nat → Int32) (k : Nat) : Prop :=
  placed = ORS (fun p => bt inn p && decide (LVL T p < k)) 8 ∧ (∀ p, p < 8 → lev p = if (bt inn p && decide (LVL T p < k)) = true then nI (LVL T p) else -1) ∧ isw8 out ∧ (∀ p, p < 8 → bt out p = (bt inn p && decide (LVL T p < k) && OUL T K p)) ∧ (∀ j, j < k → ls j = ORS (fun p => bt inn p && decide (LVL T p = j)) 8)
def fb (T : Nat → Int32) (k i p : Nat) : Bool := decide (LVL T p < k) || (decide (LVL T p = k) && decide (p < i))
def FN (inn : Int32) (T : Nat → Int32) (K : Nat → Bool) (now : Int32) (lev : Nat → Int32) (out : Int32) (k i : Nat) : Prop :=
  now = ORS (fun p => bt inn p && decide (LVL T p = k)) i ∧ (∀ p, p < 8 → lev p = if (bt inn p && fb T k i p) = true then nI (LVL T p) else -1) ∧ isw8 out ∧ (∀ p, p < 8 → bt out p = (bt inn p && fb T k i p && OUL T K p))
theorem fb_0 {T : Nat → Int32} {k p : Nat} : fb T k 0 p = decide (LVL T p < k) := by unfold fb; simp
theorem fb_8 {T : Nat → Int32} {k p : Nat} (hp : p < 8) : fb T k 8 p = decide (LVL T p < k + 1) := by
  unfold fb
  rw [decide_eq_true hp, Bool.and_true]
  by_cases c : LVL T p < k
  · rw [decide_eq_true c, decide_eq_true (show LVL T p < k + 1 by omega)]; rfl
  · by_cases c2 : LVL T p = k
    · rw [decide_eq_true c2, decide_eq_true (show LVL T p < k + 1 by omega), Bool.or_true]
    · rw [decide_eq_false c, decide_eq_false c2, decide_eq_false (show ¬ LVL T p < k + 1 by omega)]; rfl
theorem fb_s {T : Nat → Int32} {k i p : Nat} (h : p ≠ i) : fb T k (i + 1) p = fb T k i p := by
  unfold fb
  have : decide (p < i + 1) = decide (p < i) := decide_eq_decide.mpr (by omega)
  rw [this]
theorem fb_i {T : Nat → Int32} {k i : Nat} (h : ¬ LVL T i = k) : fb T k (i + 1) i = fb T k i i := by
  unfold fb
  rw [decide_eq_false h, Bool.false_and, Bool.false_and]
theorem fo_0 {inn : Int32} {T : Nat → Int32} {K : Nat → Bool} {lev ls : Nat → Int32} (h : ∀ p, p < 8 → lev p = -1) : FO inn T K 0 lev 0 ls 0 := by
  refine ⟨?_, fun p hp => ?_, w8_0, fun p hp => ?_, fun j hj => absurd hj (Nat.not_lt_zero j)⟩
  · symm
    rw [ors_cong (Q := fun _ => false) (fun p _ => by simp)]
    exact ors_no
  · rw [h p hp, if_neg (by simp)]
  · rw [bt_0 hp]; simp
theorem fn_0 {inn : Int32} {T : Nat → Int32} {K : Nat → Bool} {placed : Int32} {lev : Nat → Int32} {out : Int32} {ls : Nat → Int32} {k : Nat} (H : FO inn T K placed lev out ls k) : FN inn T K 0 lev out k 0 := by
  obtain ⟨h1, h2, h3, h4, h5⟩ := H
  exact ⟨rfl, fun p hp => by rw [fb_0]; exact h2 p hp, h3, fun p hp => by rw [fb_0]; exact h4 p hp⟩
theorem fo_c {inn : Int32} {T : Nat → Int32} {K : Nat → Bool} {placed : Int32} {lev : Nat → Int32} {out : Int32} {ls : Nat → Int32} {k p : Nat} {rk : Nat → Nat} (HR : RK T rk) (H : FO inn T K placed lev out ls k) (hp : p < 8) (hw : isw8 (T p)) (hin : ∀ q, q < 8 → bt (T p) q = true → bt inn q = true) : (bt (inn &&& (placed ^^^ (-1))) p = true ∧ T p &&& (placed ^^^ (-1)) = 0) ↔ (bt inn p = true ∧ LVL T p = k) := by
  obtain ⟨h1, -⟩ := H
  have hb : ∀ q, q < 8 → bt placed q = (bt inn q && decide (LVL T q < k)) := fun q hq => by rw [h1, ors_bt8 hq]
  rw [bt_andw, bt_notw _ hp, hb p hp, sub_iff hw]
  constructor
  · rintro ⟨h2, h3⟩
    rw [Bool.and_eq_true] at h2
    obtain ⟨h4, h5⟩ := h2
    rw [h4, Bool.true_and] at h5
    have h6 : ¬ LVL T p < k := fun c => by rw [decide_eq_true c] at h5; exact absurd h5 (by decide)
    have h7 : LVL T p ≤ k := by
      rw [lvl_eq HR hp]
      refine mx_le (fun q hq => ?_)
      by_cases c : bt (T p) q = true
      · have h8 := h3 q hq c
        rw [hb q hq, Bool.and_eq_true] at h8
        have := of_decide_eq_true h8.2
        rw [if_pos c]; omega
      · rw [if_neg c]; exact Nat.zero_le _
    exact ⟨h4, by omega⟩
  · rintro ⟨h2, h3⟩
    refine ⟨?_, fun q hq hc => ?_⟩
    · rw [h2, decide_eq_false (show ¬ LVL T p < k by omega)]; rfl
    · have h4 := lvl_lt HR hp hq hc
      rw [hb q hq, hin q hq hc, decide_eq_true (show LVL T q < k by omega)]; rfl
theorem fn_no {inn : Int32} {T : Nat → Int32} {K : Nat → Bool} {now : Int32} {lev : Nat → Int32} {out : Int32} {k i : Nat} (H : FN inn T K now lev out k i) (hi : i < 8) (h : ¬ (bt inn i = true ∧ LVL T i = k)) : FN inn T K now lev out k (i + 1) := by
  obtain ⟨h1, h2, h3, h4⟩ := H
  have e : ∀ p, p < 8 → (bt inn p && fb T k (i + 1) p) = (bt inn p && fb T k i p) := fun p hp => by
    by_cases c : p = i
    · subst c
      by_cases c2 : bt inn p = true
      · rw [fb_i (fun q => h ⟨c2, q⟩)]
      · rw [bf c2, Bool.false_and, Bool.false_and]
    · rw [fb_s c]
  refine ⟨?_, fun p hp => by rw [e p hp]; exact h2 p hp, h3, fun p hp => by rw [e p hp]; exact h4 p hp⟩
  rw [ors_f, h1]
  intro q
  rw [Bool.and_eq_true] at q
  exact h ⟨q.1, of_decide_eq_true q.2⟩
theorem fn_yes {inn : Int32} {T : Nat → Int32} {K : Nat → Bool} {now now' : Int32} {lev : Nat → Int32} {out out' : Int32} {k i : Nat} (H : FN inn T K now lev out k i) (hi : i < 8) (h : bt inn i = true ∧ LVL T i = k) (en : now' = now ||| ((1 : Int32) <<< (nI i &&& 31))) (eo : (OUL T K i = true ∧ out' = out ||| ((1 : Int32) <<< (nI i &&& 31))) ∨ (¬ OUL T K i = true ∧ out' = out)) : FN inn T K now' (upd lev (Int32.toNatClampNeg (nI i)) (nI k)) out' k (i + 1) := by
  obtain ⟨h1, h2, h3, h4⟩ := H
  have e1 : fb T k (i + 1) i = true := by unfold fb; simp [h.2]
  have e0 : fb T k i i = false := by unfold fb; simp [h.2]
  refine ⟨?_, fun p hp => ?_, ?_, fun p hp => ?_⟩
  · rw [ors_t (by rw [h.1, decide_eq_true h.2]; rfl), en, h1]
  · rw [nI_clamp (by omega)]
    by_cases c : p = i
    · subst c
      rw [pk_us, e1, h.1, if_pos (by rfl), h.2]
    · rw [pk_un c, fb_s c]; exact h2 p hp
  · rcases eo with ⟨_, e⟩ | ⟨_, e⟩
    · rw [e]; exact w8_or h3 hi
    · rw [e]; exact h3
  · by_cases c : p = i
    · subst c
      have h8 : bt out p = false := by rw [h4 p hp, e0]; simp
      rcases eo with ⟨e9, e⟩ | ⟨e9, e⟩
      · rw [e, bt_orw, bt_sh1 hi hp, e1, h.1, e9]; simp
      · rw [e, h8, bf e9]; simp
    · rw [fb_s c, ← h4 p hp]
      rcases eo with ⟨e9, e⟩ | ⟨e9, e⟩
      · rw [e, bt_orw, bt_sh1 hi hp]; simp [c]
      · rw [e]
theorem fn_out {inn : Int32} {T : Nat → Int32} {K : Nat → Bool} {now : Int32} {lev : Nat → Int32} {out : Int32} {k i : Nat} {rk : Nat → Nat} (HR : RK T rk) (H : FN inn T K now lev out k i) (hi : i < 8) (hw : isw8 (T i)) (hin : ∀ q, q < 8 → bt (T i) q = true → bt inn q = true) (h : bt inn i = true ∧ LVL T i = k) : (K i = true ∧ ¬ T i &&& (out ^^^ (-1)) = 0) ↔ OUL T K i = true := by
  obtain ⟨h1, h2, h3, h4⟩ := H
  have hq8 : ∀ q, q < 8 → bt (T i) q = true → bt out q = OUL T K q := fun q hq hc => by
    have := lvl_lt HR hi hq hc
    rw [h4 q hq, hin q hq hc]
    have e : fb T k i q = true := by unfold fb; rw [decide_eq_true (show LVL T q < k by omega)]; rfl
    rw [e]; rfl
  rw [oul_eq HR hi, Bool.and_eq_true]
  refine and_congr Iff.rfl ?_
  rw [sub_iff hw, anyb_t]
  constructor
  · intro h
    refine Classical.byContradiction fun hn => h (fun q hq hb => ?_)
    rw [hq8 q hq hb]
    refine Classical.byContradiction fun hc => hn ⟨q, hq, ?_⟩
    rw [hb, bf hc]; rfl
  · rintro ⟨q, hq, h⟩ hall
    rw [Bool.and_eq_true] at h
    have h8 := hall q hq h.1
    rw [hq8 q hq h.1] at h8
    rw [h8] at h
    exact absurd h.2 (by decide)
theorem fo_s {inn : Int32} {T : Nat → Int32} {K : Nat → Bool} {placed placed' now : Int32} {lev0 lev : Nat → Int32} {out0 out : Int32} {ls : Nat → Int32} {k : Nat} (hk : k < 8) (H : FO inn T K placed lev0 out0 ls k) (N : FN inn T K now lev out k 8) (ep : placed' = placed ||| now) : FO inn T K placed' lev out (upd ls (Int32.toNatClampNeg (nI k)) now) (k + 1) := by
  obtain ⟨h1, -, -, -, h5⟩ := H
  obtain ⟨n1, n2, n3, n4⟩ := N
  refine ⟨?_, fun p hp => by rw [← fb_8 hp]; exact n2 p hp, n3, fun p hp => by rw [← fb_8 hp]; exact n4 p hp, fun j hj => ?_⟩
  · have hw : isw8 placed' := by
      obtain ⟨a, ha, ea⟩ : isw8 placed := by rw [h1]; exact ors_w8 (Nat.le_refl _)
      obtain ⟨b, hb, eb⟩ : isw8 now := by rw [n1]; exact ors_w8 (Nat.le_refl _)
      refine ⟨a ||| b, Nat.or_lt_two_pow (n := 8) ha hb, ?_⟩
      rw [ep, ea, eb]
      apply Int32.toBitVec_inj.mp
      show BitVec.ofNat 32 a ||| BitVec.ofNat 32 b = BitVec.ofNat 32 (a ||| b)
      exact BitVec.ofNat_or.symm
    refine w_ext hw (ors_w8 (Nat.le_refl _)) (fun q hq => ?_)
    rw [ep, bt_orw, h1, n1, ors_bt8 hq, ors_bt8 hq, ors_bt8 hq, ← fb_8 hq]
    unfold fb
    rw [decide_eq_true hq, Bool.and_true]
    cases bt inn q <;> simp
  · rw [nI_clamp (by omega)]
    by_cases c : j = k
    · subst c; rw [pk_us, n1]
    · rw [pk_un c]; exact h5 j (by omega)
theorem fo_end {inn : Int32} {T : Nat → Int32} {K : Nat → Bool} {placed : Int32} {lev : Nat → Int32} {out : Int32} {ls : Nat → Int32} {k : Nat} {rk : Nat → Nat} (HR : RK T rk) (hw : isw8 inn) (hk : k ≤ 8) (H : FO inn T K placed lev out ls k) (hlow : k = 0 ∨ ∃ p, p < 8 ∧ bt inn p = true ∧ k ≤ LVL T p + 1) (h : placed = inn ∨ 8 ≤ k) : LD inn T K lev out k ∧ ∀ j, j < k → ls j = ORS (fun p => bt inn p && decide (LVL T p = j)) 8 := by
  obtain ⟨h1, h2, h3, h4, h5⟩ := H
  have hall : ∀ p, p < 8 → bt inn p = true → LVL T p < k := fun p hp hb => by
    rcases h with q | q
    · have h6 : bt placed p = true := by rw [q]; exact hb
      rw [h1, ors_bt8 hp, Bool.and_eq_true] at h6
      exact of_decide_eq_true h6.2
    · have := lvl_7 HR hp
      omega
  have e : ∀ p, p < 8 → (bt inn p && decide (LVL T p < k)) = bt inn p := fun p hp => by
    by_cases c : bt inn p = true
    · rw [c, decide_eq_true (hall p hp c)]; rfl
    · rw [bf c]; rfl
  refine ⟨⟨fun p hp => by rw [h2 p hp, e p hp], w_ext h3 (ors_w8 (Nat.le_refl _)) (fun q hq => by rw [h4 q hq, ors_bt8 hq, e q hq]), ?_⟩, h5⟩
  apply Nat.le_antisymm
  · rcases hlow with q | ⟨p, hp, hb, hle⟩
    · omega
    · exact Nat.le_trans hle (nl_lt hp hb)
  · refine mx_le (fun p hp => ?_)
    by_cases c : bt inn p = true
    · rw [if_pos c]; exact hall p hp c
    · rw [if_neg c]; exact Nat.zero_le _
theorem fo_low {inn : Int32} {T : Nat → Int32} {K : Nat → Bool} {placed : Int32} {lev : Nat → Int32} {out : Int32} {ls : Nat → Int32} {k : Nat} (hw : isw8 inn) (H : FO inn T K placed lev out ls k) (h : ¬ placed = inn) : ∃ p, p < 8 ∧ bt inn p = true ∧ k + 1 ≤ LVL T p + 1 := Classical.byContradiction fun hn => h (by
  rw [H.1]
  refine w_ext (ors_w8 (Nat.le_refl _)) hw (fun q hq => ?_)
  rw [ors_bt8 hq]
  by_cases c : bt inn q = true
  · rw [c, decide_eq_true (show LVL T q < k from Nat.lt_of_not_le fun z => hn ⟨q, hq, c, by omega⟩)]; rfl
  · rw [bf c]; rfl)

