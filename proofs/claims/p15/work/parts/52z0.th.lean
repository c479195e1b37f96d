/-! what the loops of the web need -/
theorem cl_at {A : Nat → Int32} {j : Nat} {v : Int32} (hj : j < 8) (ev : v = A (Int32.toNatClampNeg (nI j))) : v = A j := by
  rw [nI_clamp (by omega)] at ev; exact ev
theorem cin_yes {A f : Nat → Int32} {m j : Nat} {x : Int32} (hm : m < 8) (hj : j < 8) (H : ∀ k, k < 8 → A k = cin f m j k) (hb : bt (A j) m = true) (hx : x = A j ||| A m) : ∀ k, k < 8 → upd A (Int32.toNatClampNeg (nI j)) x k = cin f m (j + 1) k := by
  intro k hk
  rw [nI_clamp (by omega)]
  show _ = if k = j then cin f m j j ||| (if bt (cin f m j j) m = true then cin f m j m else 0) else cin f m j k
  by_cases c : k = j
  · rw [c, pk_us, if_pos rfl, ← H j hj, if_pos hb, ← H m hm, hx]
  · rw [pk_un c, if_neg c]; exact H k hk
theorem cin_no {A f : Nat → Int32} {m j : Nat} (hj : j < 8) (H : ∀ k, k < 8 → A k = cin f m j k) (hb : ¬ bt (A j) m = true) : ∀ k, k < 8 → A k = cin f m (j + 1) k := by
  intro k hk
  show _ = if k = j then cin f m j j ||| (if bt (cin f m j j) m = true then cin f m j m else 0) else cin f m j k
  by_cases c : k = j
  · rw [c, if_pos rfl, ← H j hj, if_neg hb, or_0]
  · rw [if_neg c]; exact H k hk
theorem cin_no0 {A f : Nat → Int32} {m j : Nat} {x : Int32} (hj : j < 8) (H : ∀ k, k < 8 → A k = cin f m j k) (hb : ¬ bt (A j) m = true) (hx : x = A j ||| 0) : ∀ k, k < 8 → upd A (Int32.toNatClampNeg (nI j)) x k = cin f m (j + 1) k := by
  intro k hk
  rw [nI_clamp (by omega)]
  have h := cin_no hj H hb k hk
  by_cases c : k = j
  · rw [c, pk_us, hx, or_0]; rw [c] at h; exact h
  · rw [pk_un c]; exact h
theorem clo_z {A f : Nat → Int32} {m j : Nat} (hm : m < 8) (H : ∀ k, k < 8 → A k = cin (clo f m) m j k) (hz : A m = 0) : ∀ k, k < 8 → A k = clo f (m + 1) k := by
  intro k hk
  have h0 : clo f m m = 0 := by rw [← cin_m (f := clo f m) (m := m) j, ← H m hm]; exact hz
  show A k = cin (clo f m) m 8 k
  rw [cin_z h0, H k hk, cin_z h0]
/-- a ring, being laid -/
def RG (A : Nat → Int32) (R : Nat → Int32) (i j : Nat) : Prop := (∀ k, k < i → A k = RIN R k) ∧ A i = ORS (fun q => bt (R i) q && bt (R q) i) j
theorem rg_0 {A R : Nat → Int32} {i : Nat} (hi : i < 8) (H : ∀ k, k < i → A k = RIN R k) : RG (upd A (Int32.toNatClampNeg (nI i)) 0) R i 0 := by
  rw [nI_clamp (by omega)]
  exact ⟨fun k hk => by rw [pk_un (by omega)]; exact H k hk, pk_us⟩
theorem rg_yes {A R : Nat → Int32} {i j : Nat} {v s x : Int32} (hi : i < 8) (H : RG A R i j) (h1 : bt (R i) j = true) (h2 : bt (R j) i = true) (ev : v = A (Int32.toNatClampNeg (nI i))) (es : s = (1 : Int32) <<< (nI j &&& 31)) (ex : x = v ||| s) : RG (upd A (Int32.toNatClampNeg (nI i)) x) R i (j + 1) := by
  rw [nI_clamp (by omega)] at ev ⊢
  refine ⟨fun k hk => by rw [pk_un (by omega)]; exact H.1 k hk, ?_⟩
  rw [pk_us, ors_t (by rw [h1, h2]; rfl), ← H.2, ex, ev, es]
theorem rg_no {A R : Nat → Int32} {i j : Nat} (H : RG A R i j) (h : ¬ (bt (R i) j = true ∧ bt (R j) i = true)) : RG A R i (j + 1) := by
  refine ⟨H.1, ?_⟩
  rw [ors_f (fun q => h (by rw [Bool.and_eq_true] at q; exact q))]
  exact H.2
theorem rg_no0 {A R : Nat → Int32} {i j : Nat} {v x : Int32} (hi : i < 8) (H : RG A R i j) (h : ¬ (bt (R i) j = true ∧ bt (R j) i = true)) (ev : v = A (Int32.toNatClampNeg (nI i))) (ex : x = v ||| 0) : RG (upd A (Int32.toNatClampNeg (nI i)) x) R i (j + 1) := by
  have g := rg_no H h
  rw [nI_clamp (by omega)] at ev ⊢
  refine ⟨fun k hk => by rw [pk_un (by omega)]; exact g.1 k hk, ?_⟩
  rw [pk_us, ex, or_0, ev]; exact g.2
theorem rg_end {A R : Nat → Int32} {i : Nat} (H : RG A R i 8) : ∀ k, k < i + 1 → A k = RIN R k := by
  intro k hk
  by_cases c : k = i
  · rw [c]; exact H.2
  · exact H.1 k (by omega)
theorem rg_off {A R : Nat → Int32} {i j : Nat} (hT : TRn R 8) (hi : i < 8) (hj : j ≤ 8) (H : RG A R i j) (h : ¬ bt (R i) i = true) : ∀ k, k < i + 1 → A k = RIN R k := by
  intro k hk
  by_cases c : k = i
  · rw [c, H.2, rin_0 hT hi h, ors_cong (Q := fun _ => false) (fun q hq => by
      cases e : (bt (R i) q && bt (R q) i) with
      | false => rfl
      | true =>
        rw [Bool.and_eq_true] at e
        exact absurd (hT q (by omega) i i hi hi e.1 e.2) h)]
    exact ors_no
  · exact H.1 k (by omega)
theorem rows2_up {A B : Nat → Int32} {F : Nat → Int32} {i : Nat} {x : Int32} (hi : i < 8) (H : ∀ k, k < i → A k = F k ∧ B k = F k) (hx : x = F i) {y : Int32} (hy : y = upd A (Int32.toNatClampNeg (nI i)) x (Int32.toNatClampNeg (nI i))) : ∀ k, k < i + 1 → upd A (Int32.toNatClampNeg (nI i)) x k = F k ∧ upd B (Int32.toNatClampNeg (nI i)) y k = F k := by
  intro k hk
  rw [pk_us] at hy
  rw [nI_clamp (by omega)]
  by_cases c : k = i
  · rw [c, pk_us, pk_us, hy]; exact ⟨hx, hx⟩
  · rw [pk_un c, pk_un c]; exact H k (by omega)
theorem rowI_up {A : Nat → Int32} {F : Nat → Int32} {i : Nat} {x : Int32} (hi : i < 8) (H : ∀ k, k < i → A k = F k) (hx : x = F i) : ∀ k, k < i + 1 → upd A (Int32.toNatClampNeg (nI i)) x k = F k := by
  intro k hk
  rw [nI_clamp (by omega)]
  by_cases c : k = i
  · rw [c, pk_us]; exact hx
  · rw [pk_un c]; exact H k (by omega)
theorem yi_y {ki to : Nat → Int32} {inn : Int32} {p : Nat} {k t a s n x : Int32} (hp : p < 8) (hb : bt inn p = true) (ek : k = ki p) (hk : ¬ k < 2) (et : t = to (Int32.toNatClampNeg (nI p))) (ea : a = t &&& inn) (es : s = (1 : Int32) <<< (nI p &&& 31)) (en : n = s ^^^ (-1)) (ex : x = a &&& n) : x = YI ki to inn p := by
  rw [nI_clamp (by omega)] at et
  unfold YI
  rw [if_pos ⟨hb, by rw [← ek]; exact Int32.not_lt.mp hk⟩, ex, en, es, ea, et]
theorem yi_n {ki to : Nat → Int32} {inn : Int32} {p : Nat} (h : ¬ bt inn p = true) : (0 : Int32) = YI ki to inn p := by
  unfold YI; rw [if_neg (fun q => h q.1)]
theorem yi_k {ki to : Nat → Int32} {inn : Int32} {p : Nat} {k : Int32} (hp : p < 8) (ek : k = ki p) (hk : k < 2) : (0 : Int32) = YI ki to inn p := by
  unfold YI; rw [if_neg (fun q => Int32.lt_irrefl (Int32.lt_of_lt_of_le (by rw [← ek]; exact hk) q.2))]
theorem ke_t {ki : Nat → Int32} {p : Nat} {k : Int32} (hp : p < 8) (ek : k = ki p) : KE ki p = true ↔ k = 3 := by
  rw [ek]
  exact decide_eq_true_iff
theorem kn_nl {inn known : Int32} {T : Nat → Int32} {K : Nat → Bool} {lev : Nat → Int32} {out : Int32} {nl e : Nat} {rk : Nat → Nat} (HR : RK T rk) (H : KN inn known T K lev out nl e) : nl ≤ 8 := by
  rw [H.2.2.2.2.2.2]
  exact mx_le (fun p hp => by
    by_cases c : bt known p = true
    · rw [if_pos c]; have := lvl_7 HR hp; omega
    · rw [if_neg c]; exact Nat.zero_le _)
theorem lvF_8 {T : Nat → Int32} {rk : Nat → Nat} (HR : RK T rk) {p n : Nat} (hn : n ≤ 8) : mx (lvF T p) n ≤ 8 := mx_le (fun q hq => by
  unfold lvF
  by_cases c : bt (T p) q = true
  · rw [if_pos c]; have := lvl_7 HR (show q < 8 by omega); omega
  · rw [if_neg c]; exact Nat.zero_le _)
theorem hdj_s {n i : Nat} {L a inn : Int32} {T : Nat → Int32} (H : n = 0 → L = a ∧ ∀ p, p < i → bt inn p = true → bt a p = true ∨ ¬ T p &&& (a ^^^ (-1)) = 0) (hn : bt inn i = true → bt L i = true ∨ ¬ T i &&& (L ^^^ (-1)) = 0) : n = 0 → L = a ∧ ∀ p, p < i + 1 → bt inn p = true → bt a p = true ∨ ¬ T p &&& (a ^^^ (-1)) = 0 := by
  intro h
  obtain ⟨e, h2⟩ := H h
  refine ⟨e, fun p hp hb => ?_⟩
  by_cases c : p = i
  · subst c; rw [← e]; exact hn hb
  · exact h2 p (by omega) hb

