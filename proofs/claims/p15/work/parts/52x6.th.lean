/-! what the loops of the division need -/
theorem bt_nz {a : Int32} {q : Nat} (hq : q < 8) : (¬ ((a >>> (nI q &&& 31)) &&& 1 = 0)) ↔ bt a q = true := by
  obtain ⟨n, hn, e⟩ := pk_andE (a >>> (nI q &&& 31)) (m := 1) 1 rfl
  have h := bt_on (a := a) hq
  rw [e] at h ⊢
  have hn2 : n = 0 ∨ n = 1 := by omega
  rcases hn2 with rfl | rfl
  · constructor
    · intro z; exact absurd rfl z
    · intro z; exact absurd (h.mpr z) (by decide)
  · constructor
    · intro _; exact h.mp rfl
    · intro _; decide
theorem fm_1 {rs : Nat → Int64} : fm rs 1 = 0 := by
  show (if rs 0 < rs 0 then 0 else 0) = 0
  by_cases c : rs 0 < rs 0
  · rw [if_pos c]
  · rw [if_neg c]
theorem fm_keep {rs : Nat → Int64} {j b : Nat} {v w : Int64} (hj : j < 8) (hb : b = fm rs j) (hb8 : b < 8) (ev : v = rs (Int32.toNatClampNeg (nI j))) (ew : w = rs (Int32.toNatClampNeg (nI b))) (c : v ≤ w) : b = fm rs (j + 1) := by
  rw [nI_clamp (by omega)] at ev ew
  show b = if rs (fm rs j) < rs j then j else fm rs j
  rw [← hb, if_neg (fun q => ?_)]
  rw [← ev, ← ew] at q
  exact Int64.lt_irrefl (Int64.lt_of_lt_of_le q c)
theorem fm_new {rs : Nat → Int64} {j b : Nat} {v w : Int64} (hj : j < 8) (hb : b = fm rs j) (hb8 : b < 8) (ev : v = rs (Int32.toNatClampNeg (nI j))) (ew : w = rs (Int32.toNatClampNeg (nI b))) (c : ¬ v ≤ w) : j = fm rs (j + 1) := by
  rw [nI_clamp (by omega)] at ev ew
  show j = if rs (fm rs j) < rs j then j else fm rs j
  rw [← hb, if_pos]
  rw [← ev, ← ew]
  exact Int64.not_le.mp c
theorem dcb_step {A1 : Nat → Int32} {A2 rs : Nat → Int64} {fl : Nat → Nat} {i m : Nat} {v w : Int32} (H : ∀ k, k < 8 → A1 k = nI (dcp rs fl i k)) (HL : LR A2 (dcs rs i)) (hp : ∃ k, k < 8 ∧ 0 < dcs rs i k) (hm : m = fm A2 8) (ev : v = A1 (Int32.toNatClampNeg (nI m))) (ew : w = v + 1) : (∀ k, k < 8 → upd A1 (Int32.toNatClampNeg (nI m)) w k = nI (dcp rs fl (i + 1) k)) ∧ LR (vp_updL A2 (Int32.toNatClampNeg (nI m)) 0) (dcs rs (i + 1)) := by
  have e := lr_fm HL hp
  have h8 : m < 8 := by rw [hm]; exact fm_lt (by decide)
  rw [nI_clamp (by omega)] at ev ⊢
  rw [← hm] at e
  refine ⟨fun k hk => ?_, ?_⟩
  · show _ = nI (if k = fm (dcs rs i) 8 then dcp rs fl i k + 1 else dcp rs fl i k)
    rw [← e]
    by_cases c : k = m
    · subst c; rw [pk_us, if_pos rfl, ew, ev, H k hk]; exact nI_1 _
    · rw [pk_un c, if_neg c]; exact H k hk
  · show LR _ (vp_updL (dcs rs i) (fm (dcs rs i) 8) (-1))
    rw [← e]; exact lr_up HL m
theorem dcr_step {A1 : Nat → Int32} {A2 rs : Nat → Int64} {fl : Nat → Nat} {i m : Nat} {v w : Int32} (H : ∀ k, k < 8 → A1 k = nI (dcp rs fl i k)) (HL : ∀ k, k < 8 → A2 k = dcs rs i k) (hm : m = fm A2 8) (ev : v = A1 (Int32.toNatClampNeg (nI m))) (ew : w = v + 1) : (∀ k, k < 8 → upd A1 (Int32.toNatClampNeg (nI m)) w k = nI (dcp rs fl (i + 1) k)) ∧ ∀ k, k < 8 → vp_updL A2 (Int32.toNatClampNeg (nI m)) (-1) k = dcs rs (i + 1) k := by
  have e := fm_cong HL
  have h8 : m < 8 := by rw [hm]; exact fm_lt (by decide)
  rw [nI_clamp (by omega)] at ev ⊢
  rw [← hm] at e
  refine ⟨fun k hk => ?_, fun k hk => ?_⟩
  · show _ = nI (if k = fm (dcs rs i) 8 then dcp rs fl i k + 1 else dcp rs fl i k)
    rw [← e]
    by_cases c : k = m
    · subst c; rw [pk_us, if_pos rfl, ew, ev, H k hk]; exact nI_1 _
    · rw [pk_un c, if_neg c]; exact H k hk
  · show _ = vp_updL (dcs rs i) (fm (dcs rs i) 8) (-1) k
    rw [← e]
    by_cases c : k = m
    · rw [c, pk_uLs, pk_uLs]
    · rw [pk_uLn c, pk_uLn c]; exact HL k hk
theorem dc_ov8 {c : Nat → Nat} {du : Nat} (hS : 0 < sm c 8) (hb : sm c 8 < 2 ^ 31) (hd : du ≤ sm c 8) : du - sm (flz c du) 8 ≤ 8 := by
  obtain ⟨pt, -, -, -, -, h5⟩ := bc_0 (c0 := c) (du := du) (f := fun k => nI (flz c du k)) (rs := rmz c du) (fun k _ => ⟨rfl, rfl⟩) hS hb hd
  have h6 : cp (rmz c du) 8 ≤ 8 * 1 := sm_bound (c := 1) (fun k _ => by
    by_cases q : 0 < rmz c du k
    · rw [if_pos q]; exact Nat.le_refl _
    · rw [if_neg q]; exact Nat.zero_le _)
  exact Nat.le_trans h5 (by omega)
/-- parts in steps, being laid: behind the first i -/
def SI (f : Nat → Int32) (c : Nat → Nat) (h ov i : Nat) : Prop := ∀ k, k < 8 → f k = nI (if k < i then DST c h ov k else min (c k) h)
theorem si_0 {f : Nat → Int32} {c : Nat → Nat} {h ov : Nat} (H : ∀ k, k < 8 → f k = nI (min (c k) h)) : SI f c h ov 0 := fun k hk => by rw [if_neg (by omega)]; exact H k hk
theorem si_no {f : Nat → Int32} {c : Nat → Nat} {h ov i : Nat} (H : SI f c h ov i) (hn : ¬ (h < c i ∧ cnt c h i < ov)) : SI f c h ov (i + 1) := fun k hk => by
  rw [H k hk]
  by_cases q : k < i
  · rw [if_pos q, if_pos (by omega)]
  · by_cases q2 : k = i
    · subst q2
      rw [if_neg q, if_pos (by omega)]
      unfold DST; rw [if_neg hn]; rfl
    · rw [if_neg q, if_neg (by omega)]
theorem si_yes {f : Nat → Int32} {c : Nat → Nat} {h ov i : Nat} {v w : Int32} (hi : i < 8) (H : SI f c h ov i) (hn : h < c i ∧ cnt c h i < ov) (ev : v = f (Int32.toNatClampNeg (nI i))) (ew : w = v + 1) : SI (upd f (Int32.toNatClampNeg (nI i)) w) c h ov (i + 1) := fun k hk => by
  rw [nI_clamp (by omega)] at ev ⊢
  by_cases q2 : k = i
  · subst q2
    rw [pk_us, if_pos (by omega), ew, ev, H k hk, if_neg (by omega)]
    unfold DST; rw [if_pos hn]; exact nI_1 _
  · rw [pk_un q2, H k hk]
    by_cases q : k < i
    · rw [if_pos q, if_pos (by omega)]
    · rw [if_neg q, if_neg (by omega)]
theorem cnt_mono {c : Nat → Nat} {h a b : Nat} (hab : a ≤ b) : cnt c h a ≤ cnt c h b := sm_mono _ hab
theorem si_end {f : Nat → Int32} {c : Nat → Nat} {h ov i : Nat} (H : SI f c h ov i) (he : 8 ≤ i ∨ ov ≤ cnt c h i) : ∀ k, k < 8 → f k = nI (DST c h ov k) := fun k hk => by
  rw [H k hk]
  by_cases q : k < i
  · rw [if_pos q]
  · rw [if_neg q]
    rcases he with z | z
    · omega
    · have := cnt_mono (c := c) (h := h) (a := i) (b := k) (by omega)
      unfold DST
      rw [if_neg (fun y => by omega)]; rfl
theorem mn_up {f : Nat → Int32} {c : Nat → Nat} {h i : Nat} (hi : i < 8) (H : ∀ k, k < i → f k = nI (min (c k) h)) : ∀ k, k < i + 1 → upd f (Int32.toNatClampNeg (nI i)) (nI (min (c i) h)) k = nI (min (c k) h) := by
  intro k hk
  rw [nI_clamp (by omega)]
  by_cases e : k = i
  · subst e; rw [pk_us]
  · rw [pk_un e]; exact H k (by omega)
/-! the height, as the object finds it -/
def cfu (c : Nat → Nat) (fu : Int32) : Nat → Nat := fun k => if bt fu k = true then c k else 0
def nfu (fu : Int32) : Nat → Nat := fun k => if bt fu k = true then 0 else 1
/-- full ones lie at or under e, what is left is shared by those not full -/
def HI (c : Nat → Nat) (du : Nat) (fu : Int32) (gr re op e : Nat) : Prop := re + sm (cfu c fu) 8 = du ∧ op = sm (nfu fu) 8 ∧ gr = mx (cfu c fu) 8 ∧ op * e ≤ re ∧ ∀ k, k < 8 → bt fu k = true → c k ≤ e
theorem hi_0 {c : Nat → Nat} {du : Nat} : HI c du 0 0 du 8 0 := by
  have e1 : ∀ k, k < 8 → cfu c 0 k = 0 := fun k hk => by unfold cfu; rw [bt_0 hk]; rfl
  have e2 : ∀ k, k < 8 → nfu 0 k = 1 := fun k hk => by unfold nfu; rw [bt_0 hk]; rfl
  refine ⟨by rw [sm_0 e1]; rfl, by rw [sm_cong (g := fun _ => 1) e2, sm_const], ?_, by omega, fun k hk hb => absurd hb (by rw [bt_0 hk]; decide)⟩
  symm
  exact Nat.le_zero.mp (mx_le (fun k hk => by rw [e1 k hk]; exact Nat.le_refl _))
theorem hi_up {c : Nat → Nat} {du : Nat} {fu : Int32} {gr re op e : Nat} (H : HI c du fu gr re op e) (ho : 0 < op) : HI c du fu gr re op (re / op) ∧ e ≤ re / op := by
  obtain ⟨h1, h2, h3, h4, h5⟩ := H
  have h6 : e ≤ re / op := (Nat.le_div_iff_mul_le ho).mpr (by rw [Nat.mul_comm]; exact h4)
  exact ⟨⟨h1, h2, h3, Nat.mul_div_le re op, fun k hk hb => Nat.le_trans (h5 k hk hb) h6⟩, h6⟩
theorem op_pos {fu : Int32} {i : Nat} (hi : i < 8) (hb : ¬ bt fu i = true) : 1 ≤ sm (nfu fu) 8 := by
  have h := sm_upd (nfu fu) (b := i) (x := 0) (n := 8) hi
  have e : nfu fu i = 1 := if_neg hb
  omega
theorem hi_full {c : Nat → Nat} {du : Nat} {fu fu' : Int32} {gr re op e i : Nat} (H : HI c du fu gr re op e) (hi : i < 8) (hb : ¬ bt fu i = true) (hc : c i ≤ e) (ef : fu' = fu ||| ((1 : Int32) <<< (nI i &&& 31))) : HI c du fu' (max gr (c i)) (re - c i) (op - 1) e ∧ c i ≤ re ∧ 1 ≤ op := by
  obtain ⟨h1, h2, h3, h4, h5⟩ := H
  have hop := op_pos hi hb
  have hbt : ∀ k, k < 8 → bt fu' k = (bt fu k || decide (k = i)) := fun k hk => by rw [ef, bt_orw, bt_sh1 hi hk]
  have e1 : sm (cfu c fu') 8 = sm (fun k => if k = i then c i else cfu c fu k) 8 := sm_cong (fun k hk => by
    unfold cfu
    rw [hbt k hk]
    by_cases z : k = i
    · simp [z]
    · simp [z])
  have e2 : sm (nfu fu') 8 = sm (fun k => if k = i then 0 else nfu fu k) 8 := sm_cong (fun k hk => by
    unfold nfu
    rw [hbt k hk]
    by_cases z : k = i
    · simp [z]
    · simp [z])
  have u1 := sm_upd (cfu c fu) (b := i) (x := c i) (n := 8) hi
  have u2 := sm_upd (nfu fu) (b := i) (x := 0) (n := 8) hi
  have z1 : cfu c fu i = 0 := if_neg hb
  have z2 : nfu fu i = 1 := if_neg hb
  have hop1 : 1 ≤ op := by omega
  have hm : op * e = (op - 1) * e + e := by
    obtain ⟨o, rfl⟩ : ∃ o, op = o + 1 := ⟨op - 1, by omega⟩
    rw [Nat.add_sub_cancel, Nat.succ_mul]
  have hci : c i ≤ re := by omega
  refine ⟨⟨by omega, by omega, ?_, by omega, fun k hk h => ?_⟩, hci, hop1⟩
  · rw [h3, ← mx_up (F := cfu c fu) (v := c i) hi z1]
    exact mx_cong (fun k hk => by
      unfold cfu
      rw [hbt k hk]
      by_cases z : k = i
      · simp [z]
      · simp [z])
  · rw [hbt k hk] at h
    by_cases z : k = i
    · rw [z]; exact hc
    · exact h5 k hk (by simpa [z] using h)
theorem hi_even {c : Nat → Nat} {du : Nat} {fu : Int32} {gr re op e re0 : Nat} (H : HI c du fu gr re op e) (ho : 0 < op) (hle : re ≤ re0) (he : e = re0 / op) (hall : ∀ k, k < 8 → ¬ bt fu k = true → e < c k) : e = HGT c du := by
  obtain ⟨h1, h2, h3, h4, h5⟩ := H
  have hlt : re < op * (e + 1) := by
    have := Nat.lt_mul_div_succ re0 ho
    rw [← he] at this
    omega
  have es : SHT c e = sm (cfu c fu) 8 + op * e := by
    unfold SHT
    rw [h2, Nat.mul_comm, ← sm_mul, ← sm_add]
    refine sm_cong (fun k hk => ?_)
    unfold cfu nfu
    by_cases b : bt fu k = true
    · rw [if_pos b, if_pos b]; have := h5 k hk b; omega
    · rw [if_neg b, if_neg b]; have := hall k hk b; omega
  have es1 : SHT c (e + 1) = sm (cfu c fu) 8 + op * (e + 1) := by
    unfold SHT
    rw [h2, Nat.mul_comm, ← sm_mul, ← sm_add]
    refine sm_cong (fun k hk => ?_)
    unfold cfu nfu
    by_cases b : bt fu k = true
    · rw [if_pos b, if_pos b]; have := h5 k hk b; omega
    · rw [if_neg b, if_neg b]; have := hall k hk b; omega
  obtain ⟨k, hk, hb⟩ : ∃ k, k < 8 ∧ ¬ bt fu k = true := Classical.byContradiction fun hn => by
    have : sm (nfu fu) 8 = 0 := sm_0 (fun k hk => if_pos (Classical.byContradiction fun q => hn ⟨k, hk, q⟩))
    omega
  refine hgt_u (Nat.le_trans (Nat.le_of_lt (hall k hk hb)) (mx_ge hk)) (by omega) (Or.inr (by omega))
theorem hi_top {c : Nat → Nat} {du : Nat} {fu : Int32} {gr re op e : Nat} (H : HI c du fu gr re op e) (ho : op = 0) (hd : du ≤ sm c 8) : gr = HGT c du := by
  obtain ⟨h1, h2, h3, h4, h5⟩ := H
  have hall : ∀ k, k < 8 → bt fu k = true := fun k hk => Classical.byContradiction fun q => by
    have := op_pos hk q
    omega
  have e1 : sm (cfu c fu) 8 = sm c 8 := sm_cong (fun k hk => if_pos (hall k hk))
  have e2 : gr = mx c 8 := by rw [h3]; exact mx_cong (fun k hk => if_pos (hall k hk))
  refine hgt_u (by omega) ?_ (Or.inl e2)
  have e3 : SHT c (mx c 8) = sm c 8 := sht_top (fun k hk => mx_ge hk)
  rw [e2, e3]
  omega
theorem hal_c {c : Nat → Nat} {fu fu' : Int32} {e j : Nat} (hj : j < 8) (H : ∀ k, k < j → ¬ bt fu k = true → e < c k) (ef : fu' = fu ||| ((1 : Int32) <<< (nI j &&& 31))) : ∀ k, k < j + 1 → ¬ bt fu' k = true → e < c k := by
  intro k hk hb
  rw [ef, bt_orw, bt_sh1 hj (by omega)] at hb
  by_cases z : k = j
  · exact absurd (by simp [z]) hb
  · exact H k (by omega) (by simpa [z] using hb)
theorem hal_a {c : Nat → Nat} {fu : Int32} {e j : Nat} (H : ∀ k, k < j → ¬ bt fu k = true → e < c k) (hf : bt fu j = true ∨ e < c j) : ∀ k, k < j + 1 → ¬ bt fu k = true → e < c k := by
  intro k hk hb
  by_cases z : k = j
  · subst z
    rcases hf with q | q
    · exact absurd q hb
    · exact q
  · exact H k (by omega) hb
theorem min_if {a b : Nat} (ha : a < 2 ^ 31) (hb : b < 2 ^ 31) : (if nI b < nI a then nI b else nI a) = nI (min a b) := by
  by_cases h : b < a
  · rw [if_pos ((nI_ltI hb ha).mpr h), Nat.min_eq_right (by omega)]
  · rw [if_neg (fun q => h ((nI_ltI hb ha).mp q)), Nat.min_eq_left (by omega)]
theorem div_st {ru : Int32} {c : Nat → Nat} {du k : Nat} (hr : ¬ ru = 0) (hk : k < 8) : DS c du k = DIV ru c du k := by
  by_cases q : sm c 8 = 0
  · have h1 := ds_le (c := c) (du := du) (k := k)
    have h2 := sm_0i q k hk
    rw [div_0 q]; omega
  · rw [div_s q hr]
theorem div_ct {ru : Int32} {c : Nat → Nat} {du k : Nat} (hr : ru = 0) : (if sm c 8 = 0 then 0 else DC c du k) = DIV ru c du k := by
  unfold DIV
  by_cases q : sm c 8 = 0
  · rw [if_pos q, if_pos q]
  · rw [if_neg q, if_neg q, if_pos hr]
theorem row_up {f : Nat → Int32} {F : Nat → Nat} {i : Nat} {x : Int32} (hi : i < 8) (H : ∀ k, k < i → f k = nI (F k)) (hx : x = nI (F i)) : ∀ k, k < i + 1 → upd f (Int32.toNatClampNeg (nI i)) x k = nI (F k) := by
  intro k hk
  rw [nI_clamp (by omega)]
  by_cases e : k = i
  · subst e; rw [pk_us]; exact hx
  · rw [pk_un e]; exact H k (by omega)
theorem dst_y {c : Nat → Nat} {h ov i : Nat} (hn : h < c i ∧ cnt c h i < ov) : DST c h ov i = min (c i) h + 1 := by unfold DST; rw [if_pos hn]
theorem dst_n {c : Nat → Nat} {h ov i : Nat} (hn : ¬ (h < c i ∧ cnt c h i < ov)) : DST c h ov i = min (c i) h := by unfold DST; rw [if_neg hn]; rfl

