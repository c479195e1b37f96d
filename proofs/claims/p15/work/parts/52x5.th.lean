theorem sht_s {c : Nat → Nat} {h : Nat} : SHT c (h + 1) = SHT c h + cnt c h 8 := by
  unfold SHT cnt
  rw [← sm_add]
  refine sm_cong (fun k _ => ?_)
  by_cases q : h < c k
  · rw [if_pos q]; omega
  · rw [if_neg q]; omega
theorem dst_sum {c : Nat → Nat} {h ov : Nat} : ∀ n, sm (DST c h ov) n = sm (fun k => min (c k) h) n + min ov (cnt c h n)
  | 0 => by show 0 = 0 + min ov 0; omega
  | n + 1 => by
    have ih := dst_sum (c := c) (h := h) (ov := ov) n
    have e1 : sm (DST c h ov) (n + 1) = sm (DST c h ov) n + DST c h ov n := rfl
    have e2 : sm (fun k => min (c k) h) (n + 1) = sm (fun k => min (c k) h) n + min (c n) h := rfl
    have e3 : DST c h ov n = min (c n) h + (if h < c n ∧ cnt c h n < ov then 1 else 0) := rfl
    rw [e1, e2, ih, e3, cnt_s]
    by_cases q : h < c n
    · by_cases q2 : cnt c h n < ov
      · rw [if_pos ⟨q, q2⟩, if_pos q]; omega
      · rw [if_neg (fun z => q2 z.2), if_pos q]; omega
    · rw [if_neg (fun z => q z.1), if_neg q]; omega
theorem ds_ov {c : Nat → Nat} {du : Nat} (hd : du ≤ sm c 8) : du - SHT c (HGT c du) ≤ cnt c (HGT c du) 8 := by
  rcases hgt_t (c := c) (du := du) with q | q
  · have e : SHT c (HGT c du) = sm c 8 := sht_top (fun k hk => by rw [q]; exact mx_ge hk)
    omega
  · rw [sht_s] at q
    omega
theorem ds_sum {c : Nat → Nat} {du : Nat} (hd : du ≤ sm c 8) : sm (DS c du) 8 = du := by
  have h1 := dst_sum (c := c) (h := HGT c du) (ov := du - SHT c (HGT c du)) 8
  have h2 := ds_ov hd
  have h3 := hgt_s (c := c) (du := du)
  have e : sm (DS c du) 8 = sm (DST c (HGT c du) (du - SHT c (HGT c du))) 8 := rfl
  have e2 : sm (fun k => min (c k) (HGT c du)) 8 = SHT c (HGT c du) := rfl
  rw [e, h1, e2]
  omega
theorem ds_le {c : Nat → Nat} {du k : Nat} : DS c du k ≤ c k := by
  show min (c k) _ + (if _ then 1 else 0) ≤ c k
  by_cases q : HGT c du < c k ∧ cnt c (HGT c du) k < du - SHT c (HGT c du)
  · rw [if_pos q]; have := q.1; omega
  · rw [if_neg q]; omega
theorem div_0 {ru : Int32} {c : Nat → Nat} {du p : Nat} (h : sm c 8 = 0) : DIV ru c du p = 0 := if_pos h
theorem div_c {ru : Int32} {c : Nat → Nat} {du p : Nat} (h : ¬ sm c 8 = 0) (hr : ru = 0) : DIV ru c du p = DC c du p := by
  unfold DIV; rw [if_neg h, if_pos hr]
theorem div_s {ru : Int32} {c : Nat → Nat} {du p : Nat} (h : ¬ sm c 8 = 0) (hr : ¬ ru = 0) : DIV ru c du p = DS c du p := by
  unfold DIV; rw [if_neg h, if_neg hr]
theorem div_sum {ru : Int32} {c : Nat → Nat} {du : Nat} (hd : du ≤ sm c 8) (hc : ∀ k, k < 8 → c k ≤ 1000000) : sm (DIV ru c du) 8 = du := by
  have hb : sm c 8 ≤ 8000000 := sm_bound (c := 1000000) hc
  by_cases q : sm c 8 = 0
  · rw [sm_cong (g := fun _ => 0) (fun k _ => div_0 q), sm_zero]; omega
  · by_cases r : ru = 0
    · rw [sm_cong (fun k _ => div_c q r)]; exact (dc_sum (by omega) (by omega) hd hc).1
    · rw [sm_cong (fun k _ => div_s q r)]; exact ds_sum hd
theorem div_le {ru : Int32} {c : Nat → Nat} {du : Nat} (hd : du ≤ sm c 8) (hc : ∀ k, k < 8 → c k ≤ 1000000) {k : Nat} (hk : k < 8) : DIV ru c du k ≤ c k := by
  have hb : sm c 8 ≤ 8000000 := sm_bound (c := 1000000) hc
  by_cases q : sm c 8 = 0
  · rw [div_0 q]; exact Nat.zero_le _
  · by_cases r : ru = 0
    · rw [div_c q r]; exact (dc_sum (by omega) (by omega) hd hc).2 k hk
    · rw [div_s q r]; exact ds_le
theorem sm_0 {c : Nat → Nat} {n : Nat} (h : ∀ k, k < n → c k = 0) : sm c n = 0 := by
  rw [sm_cong (g := fun _ => 0) h]; exact sm_zero n
theorem sm_0i {c : Nat → Nat} : ∀ {n : Nat}, sm c n = 0 → ∀ k, k < n → c k = 0
  | 0, _, k, hk => absurd hk (Nat.not_lt_zero k)
  | n + 1, h, k, hk => by
    have e : sm c (n + 1) = sm c n + c n := rfl
    rcases Nat.lt_or_ge k n with q | q
    · exact sm_0i (by omega) k q
    · obtain rfl : k = n := by omega
      omega
/-! A LOSS -/
def LONE (li wo de su : Nat → Nat) (it : Nat → Int32) (th : Int32) (lf : Nat → Nat) (im am p : Nat) : Nat := if bt th p = true then OWE li wo de su it lf p im am else 0
def INN (li wo de su : Nat → Nat) (it : Nat → Int32) (th : Int32) (lf : Nat → Nat) (im am : Nat) : Int32 := ORS (fun p => decide (0 < LONE li wo de su it th lf im am p)) 8
/-- whom one yields to, as it is told -/
def YI (ki to : Nat → Int32) (inn : Int32) (p : Nat) : Int32 := if bt inn p = true ∧ 2 ≤ ki p then (to p &&& inn) &&& (((1 : Int32) <<< (nI p &&& 31)) ^^^ (-1)) else 0
def KE (ki : Nat → Int32) (p : Nat) : Bool := decide (ki p = 3)
theorem yi_w8 {ki to : Nat → Int32} {inn : Int32} {p : Nat} (hto : isw8 (to p)) : isw8 (YI ki to inn p) := by
  unfold YI
  by_cases c : bt inn p = true ∧ 2 ≤ ki p
  · rw [if_pos c]; exact w8_and (w8_and hto)
  · rw [if_neg c]; exact w8_0
theorem yi_in {ki to : Nat → Int32} {inn : Int32} {p q : Nat} (hq : q < 8) (h : bt (YI ki to inn p) q = true) : bt inn q = true := by
  unfold YI at h
  by_cases c : bt inn p = true ∧ 2 ≤ ki p
  · rw [if_pos c, bt_andw, bt_andw, Bool.and_eq_true, Bool.and_eq_true] at h
    exact h.1.2
  · rw [if_neg c, bt_0 hq] at h
    exact absurd h (by decide)
/-- those that pay on level k -/
def PAY (ki to : Nat → Int32) (inn : Int32) (k p : Nat) : Bool := bt inn p && !(OUL (TT (YI ki to inn)) (KE ki) p) && decide (LVL (TT (YI ki to inn)) p = k)
def CPL (li wo de su : Nat → Nat) (it ki to : Nat → Int32) (inn : Int32) (lf : Nat → Nat) (im be k p : Nat) : Nat := if PAY ki to inn k p = true then OWE li wo de su it lf p im be else 0
/-- what is paid up to level k -/
def TTS (li wo de su : Nat → Nat) (it ki to : Nat → Int32) (inn : Int32) (lf : Nat → Nat) (im am : Nat) : Nat → Nat
  | 0 => 0
  | k + 1 => TTS li wo de su it ki to inn lf im am k + min (sm (CPL li wo de su it ki to inn lf im (am - TTS li wo de su it ki to inn lf im am k) k) 8) (am - TTS li wo de su it ki to inn lf im am k)
/-- what is due on level k -/
def DUE (li wo de su : Nat → Nat) (it ki to : Nat → Int32) (inn : Int32) (lf : Nat → Nat) (im am k : Nat) : Nat := min (sm (CPL li wo de su it ki to inn lf im (am - TTS li wo de su it ki to inn lf im am k) k) 8) (am - TTS li wo de su it ki to inn lf im am k)
/-- the shares up to level k -/
def SHL (li wo de su : Nat → Nat) (it ki to : Nat → Int32) (ru inn : Int32) (lf : Nat → Nat) (im am k p : Nat) : Nat := sm (fun j => DIV ru (CPL li wo de su it ki to inn lf im (am - TTS li wo de su it ki to inn lf im am j) j) (DUE li wo de su it ki to inn lf im am j) p) k
theorem tts_s {li wo de su : Nat → Nat} {it ki to : Nat → Int32} {inn : Int32} {lf : Nat → Nat} {im am k : Nat} : TTS li wo de su it ki to inn lf im am (k + 1) = TTS li wo de su it ki to inn lf im am k + DUE li wo de su it ki to inn lf im am k := rfl
theorem shl_s {li wo de su : Nat → Nat} {it ki to : Nat → Int32} {ru inn : Int32} {lf : Nat → Nat} {im am k p : Nat} : SHL li wo de su it ki to ru inn lf im am (k + 1) p = SHL li wo de su it ki to ru inn lf im am k p + DIV ru (CPL li wo de su it ki to inn lf im (am - TTS li wo de su it ki to inn lf im am k) k) (DUE li wo de su it ki to inn lf im am k) p := rfl
theorem tts_le {li wo de su : Nat → Nat} {it ki to : Nat → Int32} {inn : Int32} {lf : Nat → Nat} {im am : Nat} : ∀ k, TTS li wo de su it ki to inn lf im am k ≤ am
  | 0 => Nat.zero_le _
  | k + 1 => by
    have ih := tts_le (li := li) (wo := wo) (de := de) (su := su) (it := it) (ki := ki) (to := to) (inn := inn) (lf := lf) (im := im) (am := am) k
    rw [tts_s]; unfold DUE; omega
theorem cpl_b {li wo de su : Nat → Nat} {it ki to : Nat → Int32} {inn : Int32} {lf : Nat → Nat} {im be k p : Nat} (hli : li p ≤ 1000000) : CPL li wo de su it ki to inn lf im be k p ≤ 1000000 := by
  unfold CPL
  by_cases c : PAY ki to inn k p = true
  · rw [if_pos c]; exact Nat.le_trans owe_li hli
  · rw [if_neg c]; exact Nat.zero_le _
theorem pay_k {ki to : Nat → Int32} {inn : Int32} {k p : Nat} (h : PAY ki to inn k p = true) : LVL (TT (YI ki to inn)) p = k := by
  unfold PAY at h
  rw [Bool.and_eq_true] at h
  exact of_decide_eq_true h.2
theorem owe_mono {li wo de su : Nat → Nat} {it : Nat → Int32} {lf : Nat → Nat} {p im a b : Nat} (h : a ≤ b) : OWE li wo de su it lf p im a ≤ OWE li wo de su it lf p im b := by
  unfold OWE
  by_cases c : bt (it p) im = true
  · rw [if_pos c, if_pos c]
    have h1 : (if li p < wo p then a * li p / wo p else a) ≤ (if li p < wo p then b * li p / wo p else b) := by
      by_cases q : li p < wo p
      · rw [if_pos q, if_pos q]; exact Nat.div_le_div_right (Nat.mul_le_mul_right _ h)
      · rw [if_neg q, if_neg q]; exact h
    by_cases q : 0 < su (8 * p + im)
    · rw [if_pos q, if_pos q]; omega
    · rw [if_neg q, if_neg q]; omega
  · rw [if_neg c, if_neg c]; exact Nat.le_refl _
/-- a share comes from one level, and is no more than one owes alone -/
theorem shl_le {li wo de su : Nat → Nat} {it ki to : Nat → Int32} {ru inn : Int32} {lf : Nat → Nat} {im am : Nat} (hli : ∀ p, p < 8 → li p ≤ 1000000) {p : Nat} (hp : p < 8) : ∀ k, SHL li wo de su it ki to ru inn lf im am k p ≤ (if bt inn p = true ∧ LVL (TT (YI ki to inn)) p < k then OWE li wo de su it lf p im am else 0)
  | 0 => by
    show 0 ≤ _
    exact Nat.zero_le _
  | k + 1 => by
    have ih := shl_le (wo := wo) (de := de) (su := su) (it := it) (ki := ki) (to := to) (ru := ru) (inn := inn) (lf := lf) (im := im) (am := am) hli hp k
    have hd : DUE li wo de su it ki to inn lf im am k ≤ sm (CPL li wo de su it ki to inn lf im (am - TTS li wo de su it ki to inn lf im am k) k) 8 := Nat.min_le_left _ _
    have h1 := div_le (ru := ru) hd (fun q hq => cpl_b (hli q hq)) hp
    rw [shl_s]
    by_cases c : PAY ki to inn k p = true
    · have hk := pay_k c
      have hb : bt inn p = true := by
        unfold PAY at c
        rw [Bool.and_eq_true, Bool.and_eq_true] at c
        exact c.1.1
      rw [if_neg (fun q => by omega)] at ih
      rw [if_pos ⟨hb, by omega⟩]
      have e : CPL li wo de su it ki to inn lf im (am - TTS li wo de su it ki to inn lf im am k) k p = OWE li wo de su it lf p im (am - TTS li wo de su it ki to inn lf im am k) := if_pos c
      have h2 := owe_mono (li := li) (wo := wo) (de := de) (su := su) (it := it) (lf := lf) (p := p) (im := im) (a := am - TTS li wo de su it ki to inn lf im am k) (b := am) (Nat.sub_le _ _)
      rw [e] at h1
      omega
    · have e : CPL li wo de su it ki to inn lf im (am - TTS li wo de su it ki to inn lf im am k) k p = 0 := if_neg c
      rw [e] at h1
      have h2 : (if bt inn p = true ∧ LVL (TT (YI ki to inn)) p < k then OWE li wo de su it lf p im am else 0) ≤ (if bt inn p = true ∧ LVL (TT (YI ki to inn)) p < k + 1 then OWE li wo de su it lf p im am else 0) := by
        by_cases q : bt inn p = true ∧ LVL (TT (YI ki to inn)) p < k
        · rw [if_pos q, if_pos ⟨q.1, by omega⟩]; exact Nat.le_refl _
        · rw [if_neg q]; exact Nat.zero_le _
      omega
theorem shl_lf {li wo de su : Nat → Nat} {it ki to : Nat → Int32} {ru inn : Int32} {lf : Nat → Nat} {im am k p : Nat} (hli : ∀ p, p < 8 → li p ≤ 1000000) (hp : p < 8) : SHL li wo de su it ki to ru inn lf im am k p ≤ lf p := by
  refine Nat.le_trans (shl_le hli hp k) ?_
  by_cases q : bt inn p = true ∧ LVL (TT (YI ki to inn)) p < k
  · rw [if_pos q]; exact owe_lf
  · rw [if_neg q]; exact Nat.zero_le _
theorem shl_sum {li wo de su : Nat → Nat} {it ki to : Nat → Int32} {ru inn : Int32} {lf : Nat → Nat} {im am : Nat} (hli : ∀ p, p < 8 → li p ≤ 1000000) : ∀ k, sm (SHL li wo de su it ki to ru inn lf im am k) 8 = TTS li wo de su it ki to inn lf im am k
  | 0 => sm_zero 8
  | k + 1 => by
    have ih := shl_sum (wo := wo) (de := de) (su := su) (it := it) (ki := ki) (to := to) (ru := ru) (inn := inn) (lf := lf) (im := im) (am := am) hli k
    have hd : DUE li wo de su it ki to inn lf im am k ≤ sm (CPL li wo de su it ki to inn lf im (am - TTS li wo de su it ki to inn lf im am k) k) 8 := Nat.min_le_left _ _
    rw [tts_s, ← ih, ← div_sum (ru := ru) hd (fun q hq => cpl_b (hli q hq)), ← sm_add]
    exact sm_cong (fun p _ => shl_s)

