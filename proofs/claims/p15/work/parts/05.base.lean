/-! OUR OWN BASE: one predicate for the tables, one form of contract, one row each for entry, calls, returns, new arrays -/
abbrev vwCl : List vw_C := [(RX0, TX0, 15), (RX1, TX1, 9), (RX2, TX2, 3), (RX3, TX3, 2), (RX4, TX4, 14), (RX5, TX5, 2), (RX6, TX6, 9), (RX7, TX7, 6), (RX8, TX8, 46)]
abbrev tysF (cI cJ : ClassId) : List (ClassId × FieldType) := [(cI, .int), (cJ, .long)]
abbrev nwL : List (String × Nat × MethodName) := [(RX7, 9, yX4_init), (RX4, 20, yX6_init), (RX4, 27, yX2_init), (RX7, 23, yX5_init), (RX7, 30, yX1_init), (RX4, 113, yX7_has), (RX6, 34, yX7_has), (RX5, 35, yX7_has), (RX5, 22, yX7_within), (RX1, 36, yX7_within), (RX1, 40, yX7_has), (RX0, 61, yX7_has), (RX4, 172, yX7_within)]
/-- the links between nest mates -/
def nw (U : State) : Prop := ∀ (k : Nat) (q : String × Nat × MethodName), nwL[k]? = some q → va_Nw (.methodLinkNest q.1 q.2.1 q.2.2 RX7) U
theorem nw.warm {s U : State} (hW : s.WarmedH U.vm) (h : nw s) : nw U := fun k q hq => va_Nw.warmM hW (h k q hq)
theorem nw.same {u U : State} (hv : u.vm = U.vm) (h : nw u) : nw U := fun k q hq => va_Nw.same rfl hv (h k q hq)
def eK (D : va_G) (cI cJ : ClassId) (U : State) : Prop := va_K D vwCl (tysF cI cJ) U ∧ nw U
def cB (D : va_G) (cI cJ : ClassId) (sz : Nat) (WS : va_W) (U : State) : Prop := U.heap.size = sz ∧ va_P D vwCl WS U.heap ∧ eK D cI cJ U ∧ va_D (fun _ => True) WS
def cPc (D : va_G) (cI cJ : ClassId) (av : List Value) (sz : Nat) (WS : va_W) : Array Value → State → Prop := va_Pc av (cB D cI cJ sz WS)
theorem cPc_blind {D : va_G} {cI cJ : ClassId} {av : List Value} {sz : Nat} {WS : va_W} : FrameBlind (cPc D cI cJ av sz WS) := fun a U g mk q => ⟨q.1, q.2.1, q.2.2.1, ⟨va_K.moved (u := U) (U := U.calling g mk a) (Vm.Alike.refl U.vm) q.2.2.2.1.1, nw.same (u := U) rfl q.2.2.2.1.2⟩, q.2.2.2.2⟩
def cAt (D : va_G) (A : Nat → Prop) (u : va_W) (t : State) : Prop := va_P D vwCl u t.heap ∧ va_D A u
def cQi (D : va_G) (post : Int32 → va_W → Prop) (A : Nat → Prop) : Array Value → State → Outcome → State → Prop := va_Qi post (cAt D A) A
def cQl (D : va_G) (post : Int64 → va_W → Prop) (A : Nat → Prop) : Array Value → State → Outcome → State → Prop := va_Ql post (cAt D A) A
def cQv (D : va_G) (post : va_W → Prop) (A : Nat → Prop) : Array Value → State → Outcome → State → Prop := va_Qv post (cAt D A) A
theorem k_at {is : List Nat} {ws w : va_W} (hs : is.map (fun i => ws[i]?) = w.map some) (k : Nat) (q : Nat × va_E) (hq : w[k]? = some q) : ∃ i, is[k]? = some i ∧ ws[i]? = some q := by
  have h1 : (is.map (fun i => ws[i]?))[k]? = some (some q) := by rw [hs, List.getElem?_map, hq]; rfl
  rw [List.getElem?_map] at h1
  cases hi : is[k]? with
  | none => rw [hi] at h1; simp at h1
  | some i => rw [hi] at h1; exact ⟨i, rfl, Option.some.inj h1⟩
theorem k_sub {D : va_G} {cl : List vw_C} {ws w : va_W} {H : Heap} (h : va_P D cl ws H) (is : List Nat) (hs : is.map (fun i => ws[i]?) = w.map some) : va_P D cl w H := by
  intro k q hq
  obtain ⟨i, -, h2⟩ := k_at hs k q hq
  exact h i q h2
theorem k_pre {s : State} {H : Heap} {D : va_G} {cI cJ : ClassId} {A : Nat → Prop} {w wc : va_W} {As : List Value} (hE : eK D cI cJ s) (hP : va_P D vwCl w H) (hD : va_D A w) (isC : List Nat) (hn : va_nd isC = true) (hC : isC.map (fun i => w[i]?) = wc.map some) : PreS s H (cPc D cI cJ As H.size wc) As :=
  ⟨cPc_blind, fun U hU hW => ⟨rfl, by rw [hU], by rw [hU]; exact k_sub hP isC hC, ⟨va_K.moved hW.alike hE.1, nw.warm hW hE.2⟩, (hD.sub isC hn hC).weaken (fun _ _ _ _ => trivial)⟩⟩
theorem k_preV {s : State} {H : Heap} {D : va_G} {cI cJ : ClassId} {A : Nat → Prop} {w wc : va_W} {As : List Value} {b ci : Nat} {fs : List Value} {C : String} {T : u_T} {N : Nat} (hE : eK D cI cJ s) (hP : va_P D vwCl w H) (hD : va_D A w) (isC : List Nat) (hn : va_nd isC = true) (hC : isC.map (fun i => w[i]?) = wc.map some) (q0 : Nat) (he : w[q0]? = some (b, .inr (ci, fs))) (hc : vwCl[ci]? = some (C, T, N)) : PreV s H C b (cPc D cI cJ (.ref b :: As) H.size wc) As :=
  ⟨cPc_blind, va_recv hE.1 hP (ci := ci) (q0 := q0) hc he, (k_pre (As := .ref b :: As) hE hP hD isC hn hC).2⟩
section OURS
variable {p : Program} {l : Launch} {e : Env} {R : Room} {s : State} {m : MethodId} {args : Array Value} {below : List Frame} {meth : Method} {c : Code} {H : Heap} {locs : List Loc} {cells slots : Nat} {Q : State → Prop}
variable {pc : Nat} {ls : Array Slot} {rest st0 : List Value} {a : Array Value} {A : Nat → Prop} {H0 : Heap} {mc ms : Nat} {D : va_G} {cI cJ : ClassId} {w wc wr : va_W} {cc : ByteArray}
theorem k_i {post : Int32 → va_W → Prop} (hr : va_Run p l e R s m args below meth c H locs cells slots mc ms (F0 m pc ls st0) rest (cQi D post (va_A wc H.size) a) (va_A wc H.size)) (hP : va_P D vwCl w H) (hD : va_D A w) (hS : va_S A H0 H locs) (hA : ∀ q, H0.size ≤ q → A q) (isC isR : List Nat) (hC : isC.map (fun i => w[i]?) = wc.map some) (hR : isR.map (fun i => w[i]?) = wr.map some) (hn : va_nd isR = true) (hdis : ∀ i ∈ isR, i ∉ isC)
    (kk : ∀ (r : Int32) (u : va_W) (H1 : Heap) (locs1 : List Loc), post r u → va_P D vwCl (wr ++ u) H1 → va_D A (wr ++ u) → va_S A H0 H1 locs1 → W p l e R s m args below meth c H1 locs1 (cells + mc) (slots + ms) Q (F0 m (pc + 3) ls (.int r :: rest))) : W p l e R s m args below meth c H locs cells slots Q (F0 m pc ls st0) := by
  have hF := va_free (wc := wc) hD hS hA isC hC
  refine va_calli hr hS (fun q _ h => hF q h) hF (fun r u t H1 locs1 ht hvm hw hB hz1 hk1 hS1 => ?_)
  obtain ⟨hP1, hD1⟩ := hB
  rw [ht] at hP1
  obtain ⟨hP2, hD2⟩ := va_join (wr := wr) (w1 := u) hP hD isC isR hC hR hn hdis hk1 hF hP1 hD1
  exact kk r u H1 locs1 hw hP2 hD2 hS1
theorem k_l {post : Int64 → va_W → Prop} (hr : va_Run p l e R s m args below meth c H locs cells slots mc ms (F0 m pc ls st0) rest (cQl D post (va_A wc H.size) a) (va_A wc H.size)) (hP : va_P D vwCl w H) (hD : va_D A w) (hS : va_S A H0 H locs) (hA : ∀ q, H0.size ≤ q → A q) (isC isR : List Nat) (hC : isC.map (fun i => w[i]?) = wc.map some) (hR : isR.map (fun i => w[i]?) = wr.map some) (hn : va_nd isR = true) (hdis : ∀ i ∈ isR, i ∉ isC)
    (kk : ∀ (r : Int64) (u : va_W) (H1 : Heap) (locs1 : List Loc), post r u → va_P D vwCl (wr ++ u) H1 → va_D A (wr ++ u) → va_S A H0 H1 locs1 → W p l e R s m args below meth c H1 locs1 (cells + mc) (slots + ms) Q (F0 m (pc + 3) ls (.long r :: rest))) : W p l e R s m args below meth c H locs cells slots Q (F0 m pc ls st0) := by
  have hF := va_free (wc := wc) hD hS hA isC hC
  refine va_calll hr hS (fun q _ h => hF q h) hF (fun r u t H1 locs1 ht hvm hw hB hz1 hk1 hS1 => ?_)
  obtain ⟨hP1, hD1⟩ := hB
  rw [ht] at hP1
  obtain ⟨hP2, hD2⟩ := va_join (wr := wr) (w1 := u) hP hD isC isR hC hR hn hdis hk1 hF hP1 hD1
  exact kk r u H1 locs1 hw hP2 hD2 hS1
theorem k_v {post : va_W → Prop} (hr : va_Run p l e R s m args below meth c H locs cells slots mc ms (F0 m pc ls st0) rest (cQv D post (va_A wc H.size) a) (va_A wc H.size)) (hP : va_P D vwCl w H) (hD : va_D A w) (hS : va_S A H0 H locs) (hA : ∀ q, H0.size ≤ q → A q) (isC isR : List Nat) (hC : isC.map (fun i => w[i]?) = wc.map some) (hR : isR.map (fun i => w[i]?) = wr.map some) (hn : va_nd isR = true) (hdis : ∀ i ∈ isR, i ∉ isC)
    (kk : ∀ (u : va_W) (H1 : Heap) (locs1 : List Loc), post u → va_P D vwCl (wr ++ u) H1 → va_D A (wr ++ u) → va_S A H0 H1 locs1 → W p l e R s m args below meth c H1 locs1 (cells + mc) (slots + ms) Q (F0 m (pc + 3) ls rest)) : W p l e R s m args below meth c H locs cells slots Q (F0 m pc ls st0) := by
  have hF := va_free (wc := wc) hD hS hA isC hC
  refine va_callv hr hS (fun q _ h => hF q h) hF (fun u t H1 locs1 ht hvm hw hB hz1 hk1 hS1 => ?_)
  obtain ⟨hP1, hD1⟩ := hB
  rw [ht] at hP1
  obtain ⟨hP2, hD2⟩ := va_join (wr := wr) (w1 := u) hP hD isC isR hC hR hn hdis hk1 hF hP1 hD1
  exact kk u H1 locs1 hw hP2 hD2 hS1
theorem k_newI (hx : p.tables.exec = Jvm.exec) (hb : c.code = cc) (harr : (Cond.arrayClass .int).before args s = true) (hE : eK D cI cJ s) (hP : va_P D vwCl w H) (hD : va_D A w) (hS : va_S A H0 H locs) (hA : ∀ q, H0.size ≤ q → A q)
    {n : Int32} {N : Nat} (hn : ¬ n < 0) (hN : n.toNatClampNeg = N) (hbytes : N * componentBytes .int ≤ 536870912) (hcells : cells + 1 ≤ R.cells) (hslots : slots + N ≤ R.slots) (hdg : decode cc pc = .ok (.newarray .int, 2))
    (kk : ∀ (q : Nat) (H1 : Heap), va_P D vwCl (w ++ [(q, .inl (cI, N, .inl (fun _ => 0)))]) H1 → va_D A (w ++ [(q, .inl (cI, N, .inl (fun _ => 0)))]) → va_S A H0 H1 locs →
      W p l e R s m args below meth c H1 locs (cells + 1) (slots + N) Q (F0 m (pc + 2) ls (.ref q :: rest))) : W p l e R s m args below meth c H locs cells slots Q (F0 m pc ls (.int n :: rest)) := by
  refine va_newa (atype := .int) (ty := .int) (a0 := (N, .inl (fun _ => 0))) hx hb harr rfl hE.1 hP hD hS hA (fun cA => rfl) hn hN hbytes hcells hslots hdg (fun q cA H1 hK1 hP1 hD1 hS1 => ?_)
  have h1 := (hK1.2 2 (cA, .int) rfl).2
  have h2 := (hE.1.2 0 (cI, .int) rfl).2
  have h3 : cA = cI := Option.some.inj (h1.symm.trans h2)
  subst h3
  exact kk q H1 hP1 hD1 hS1
theorem k_newJ (hx : p.tables.exec = Jvm.exec) (hb : c.code = cc) (harr : (Cond.arrayClass .long).before args s = true) (hE : eK D cI cJ s) (hP : va_P D vwCl w H) (hD : va_D A w) (hS : va_S A H0 H locs) (hA : ∀ q, H0.size ≤ q → A q)
    {n : Int32} {N : Nat} (hn : ¬ n < 0) (hN : n.toNatClampNeg = N) (hbytes : N * componentBytes .long ≤ 536870912) (hcells : cells + 1 ≤ R.cells) (hslots : slots + N ≤ R.slots) (hdg : decode cc pc = .ok (.newarray .long, 2))
    (kk : ∀ (q : Nat) (H1 : Heap), va_P D vwCl (w ++ [(q, .inl (cJ, N, .inr (.inl (fun _ => 0))))]) H1 → va_D A (w ++ [(q, .inl (cJ, N, .inr (.inl (fun _ => 0))))]) → va_S A H0 H1 locs →
      W p l e R s m args below meth c H1 locs (cells + 1) (slots + N) Q (F0 m (pc + 2) ls (.ref q :: rest))) : W p l e R s m args below meth c H locs cells slots Q (F0 m pc ls (.int n :: rest)) := by
  refine va_newa (atype := .long) (ty := .long) (a0 := (N, .inr (.inl (fun _ => 0)))) hx hb harr rfl hE.1 hP hD hS hA (fun cA => rfl) hn hN hbytes hcells hslots hdg (fun q cA H1 hK1 hP1 hD1 hS1 => ?_)
  have h1 := (hK1.2 2 (cA, .long) rfl).2
  have h2 := (hE.1.2 1 (cJ, .long) rfl).2
  have h3 : cA = cJ := Option.some.inj (h1.symm.trans h2)
  subst h3
  exact kk q H1 hP1 hD1 hS1
/-- ends -/
theorem k_iret {post : Int32 → va_W → Prop} {u : va_W} {v : Int32} (hx : p.tables.exec = Jvm.exec) (hb : c.code = cc) (hr : meth.sig.returnType = some .int) (hlocks : meth.locks = false) (hP : va_P D vwCl u H) (hD : va_D A u) (hS : va_S A s.heap H locs) (hdg : decode cc pc = .ok (.ireturn, 1)) (hq : post v u) : W p l e R s m args below meth c H locs cells slots (MQ below (cQi D post A) args s cells slots A) (F0 m pc ls [.int v]) :=
  W.iret hx hb hr (fun t ht hW => ⟨⟨v, u, rfl, hq, by rw [ht]; exact hP, hD⟩, hS.F ht⟩) hS.2.2 hdg hlocks
theorem k_zret {post : Int32 → va_W → Prop} {u : va_W} {v : Int32} (hx : p.tables.exec = Jvm.exec) (hb : c.code = cc) (hr : meth.sig.returnType = some .boolean) (hn : v = 0 ∨ v = 1) (hlocks : meth.locks = false) (hP : va_P D vwCl u H) (hD : va_D A u) (hS : va_S A s.heap H locs) (hdg : decode cc pc = .ok (.ireturn, 1)) (hq : post v u) : W p l e R s m args below meth c H locs cells slots (MQ below (cQi D post A) args s cells slots A) (F0 m pc ls [.int v]) :=
  W.zret hx hb hr (by rcases hn with rfl | rfl <;> rfl) (fun t ht hW => ⟨⟨v, u, rfl, hq, by rw [ht]; exact hP, hD⟩, hS.F ht⟩) hS.2.2 hdg hlocks
theorem k_lret {post : Int64 → va_W → Prop} {u : va_W} {v : Int64} (hx : p.tables.exec = Jvm.exec) (hb : c.code = cc) (hr : meth.sig.returnType = some .long) (hlocks : meth.locks = false) (hP : va_P D vwCl u H) (hD : va_D A u) (hS : va_S A s.heap H locs) (hdg : decode cc pc = .ok (.lreturn, 1)) (hq : post v u) : W p l e R s m args below meth c H locs cells slots (MQ below (cQl D post A) args s cells slots A) (F0 m pc ls [.long v]) :=
  W.lret hx hb hr (fun t ht hW => ⟨⟨v, u, rfl, hq, by rw [ht]; exact hP, hD⟩, hS.F ht⟩) hS.2.2 hdg hlocks
theorem k_vret {post : va_W → Prop} {u : va_W} (hx : p.tables.exec = Jvm.exec) (hb : c.code = cc) (hr : meth.sig.returnType = none) (hlocks : meth.locks = false) (hP : va_P D vwCl u H) (hD : va_D A u) (hS : va_S A s.heap H locs) (hdg : decode cc pc = .ok (.return_, 1)) (hq : post u) : W p l e R s m args below meth c H locs cells slots (MQ below (cQv D post A) args s cells slots A) (F0 m pc ls []) :=
  W.vret hx hb hr (fun t ht hW => ⟨⟨u, rfl, hq, by rw [ht]; exact hP, hD⟩, hS.F ht⟩) hS.2.2 hdg hlocks
end OURS
/-- what a method's walk begins with -/
def kBody (l : Launch) (y : MethodName) (ws : List Cond) (rm : Room) (cc : ByteArray) (maxL : Nat) (ret : Option FieldType) (D : va_G) (cI cJ : ClassId) (av : List Value) (sz : Nat) (WS : va_W) (Qc : (Nat → Prop) → Array Value → State → Outcome → State → Prop) (mc ms : Nat) : Prop :=
  ∀ (p : Program) (e : Env) (s : State) (m : MethodId) (below : List Frame) (meth : Method) (c : Code) (A : Nat → Prop) (ls : Array Slot), p.tables.exec = Jvm.exec → c.code = cc → meth.sig.returnType = ret → c.maxLocals = maxL → (∀ w ∈ ws, w.before av.toArray s = true) → s.vm.findClass y.cls = some m.cls → meth.locks = false → meth.name = y.name → s.heap.size = sz → eK D cI cJ s → va_P D vwCl WS s.heap → va_D A WS → va_S A s.heap s.heap [] → (∀ q, s.heap.size ≤ q → A q) → lv_has ls maxL (lv_args 0 av) →
    W p l e rm s m av.toArray below meth c s.heap [] 0 0 (MQ below (Qc A) av.toArray s mc ms A) (F0 m 0 ls [])
theorem k_ofW {l : Launch} {y : MethodName} {ws ws' : List Cond} {rm : Room} {cc : ByteArray} {maxL : Nat} {ret : Option FieldType} {D : va_G} {cI cJ : ClassId} {av : List Value} {sz : Nat} {WS : va_W} {Qc : (Nat → Prop) → Array Value → State → Outcome → State → Prop} {mc ms : Nat}
    (hy : plainName y.cls = true) (hw : ws = Cond.code y cc maxL ret :: ws') (hav : (lg_sl av).length ≤ maxL) (body : kBody l y ws rm cc maxL ret D cI cJ av sz WS Qc mc ms) : Met l y ws rm (cPc D cI cJ av sz WS) (Qc (va_A WS sz)) mc ms (va_A WS sz) := by
  refine Met.ofW (cc := cc) (maxL := maxL) (ret := ret) hy hw ?_
  intro p e s m args below meth c s₁ B hml hv
  obtain ⟨rfl, hsz, hP, hE, hD0⟩ := hv
  have hts := atoms_spec (ws := ws) B.pre
  have hD := hD0.self (sz := s.heap.size)
  subst hsz
  have hl := lv_entry av (n := maxL) hav
  rw [lg_entry_eq]
  exact body p e s m below meth c _ _ B.exec B.bytes B.returns hml hts (findClass_of_methodNamed B.named) B.notSynchronized (name_of_methodNamed B.named B.method).1 rfl hE hP hD va_S.rf (fun q h => Or.inr h) hl
def bz (P : Prop) [Decidable P] : Int32 := if P then 1 else 0
theorem bz_0 {P : Prop} [Decidable P] {r : Int32} (h : r = bz P) (c : r = 0) : ¬ P := fun hp => by
  rw [h, bz, if_pos hp] at c
  exact absurd c (by decide)
theorem bz_1 {P : Prop} [Decidable P] {r : Int32} (h : r = bz P) (c : ¬ r = 0) : P := Classical.byContradiction fun hp => c (by rw [h, bz, if_neg hp])
theorem bz_01 {P : Prop} [Decidable P] {r : Int32} (h : r = bz P) : r = 0 ∨ r = 1 := by
  by_cases hp : P
  · exact Or.inr (by rw [h, bz, if_pos hp])
  · exact Or.inl (by rw [h, bz, if_neg hp])
theorem bz_t {P : Prop} [Decidable P] (h : P) : (1 : Int32) = bz P := by rw [bz, if_pos h]
theorem bz_f {P : Prop} [Decidable P] (h : ¬ P) : (0 : Int32) = bz P := by rw [bz, if_neg h]
theorem bz_c {P Q : Prop} [Decidable P] [Decidable Q] (h : P ↔ Q) : bz P = bz Q := by
  unfold bz
  by_cases hp : P
  · rw [if_pos hp, if_pos (h.mp hp)]
  · rw [if_neg hp, if_neg (fun q => hp (h.mpr q))]
section LCMP
variable {p : Program} {l : Launch} {e : Env} {R : Room} {s : State} {m : MethodId} {args : Array Value} {below : List Frame} {meth : Method} {c : Code} {H : Heap} {locs : List Loc} {cells slots : Nat} {Q : State → Prop}
variable {pc : Nat} {ls : Array Slot} {rest : List Value} {cc : ByteArray}
theorem k_lcmp_eq (hx : p.tables.exec = Jvm.exec) (hb : c.code = cc) {x y : Int64} {off : Int} {tgt : Nat} (hd1 : decode cc pc = .ok (.lcmp, 1)) (hd2 : decode cc (pc + 1) = .ok (.ifCond .eq off, 3)) (ht : ((pc + 1 : Nat) : Int) + off = (tgt : Int))
    (kt : x = y → W p l e R s m args below meth c H locs cells slots Q (F0 m tgt ls rest)) (kf : ¬ x = y → W p l e R s m args below meth c H locs cells slots Q (F0 m (pc + 1 + 3) ls rest)) : W p l e R s m args below meth c H locs cells slots Q (F0 m pc ls (.long y :: .long x :: rest)) :=
  W.lcmp hx hb hd1 (lv_if_eq hx hb hd2 ht (fun h => kt ((lg_cmp_eq x y).mp h)) (fun h => kf (fun q => h ((lg_cmp_eq x y).mpr q))))
theorem k_lcmp_ne (hx : p.tables.exec = Jvm.exec) (hb : c.code = cc) {x y : Int64} {off : Int} {tgt : Nat} (hd1 : decode cc pc = .ok (.lcmp, 1)) (hd2 : decode cc (pc + 1) = .ok (.ifCond .ne off, 3)) (ht : ((pc + 1 : Nat) : Int) + off = (tgt : Int))
    (kt : ¬ x = y → W p l e R s m args below meth c H locs cells slots Q (F0 m tgt ls rest)) (kf : x = y → W p l e R s m args below meth c H locs cells slots Q (F0 m (pc + 1 + 3) ls rest)) : W p l e R s m args below meth c H locs cells slots Q (F0 m pc ls (.long y :: .long x :: rest)) :=
  W.lcmp hx hb hd1 (lv_if_ne hx hb hd2 ht (fun h => kt (fun q => h ((lg_cmp_eq x y).mpr q))) (fun h => kf ((lg_cmp_eq x y).mp h)))
theorem k_lcmp_lt (hx : p.tables.exec = Jvm.exec) (hb : c.code = cc) {x y : Int64} {off : Int} {tgt : Nat} (hd1 : decode cc pc = .ok (.lcmp, 1)) (hd2 : decode cc (pc + 1) = .ok (.ifCond .lt off, 3)) (ht : ((pc + 1 : Nat) : Int) + off = (tgt : Int))
    (kt : x < y → W p l e R s m args below meth c H locs cells slots Q (F0 m tgt ls rest)) (kf : ¬ x < y → W p l e R s m args below meth c H locs cells slots Q (F0 m (pc + 1 + 3) ls rest)) : W p l e R s m args below meth c H locs cells slots Q (F0 m pc ls (.long y :: .long x :: rest)) :=
  W.lcmp hx hb hd1 (lv_if_lt hx hb hd2 ht (fun h => kt ((lg_cmp_lt x y).mp h)) (fun h => kf (fun q => h ((lg_cmp_lt x y).mpr q))))
theorem k_lcmp_ge (hx : p.tables.exec = Jvm.exec) (hb : c.code = cc) {x y : Int64} {off : Int} {tgt : Nat} (hd1 : decode cc pc = .ok (.lcmp, 1)) (hd2 : decode cc (pc + 1) = .ok (.ifCond .ge off, 3)) (ht : ((pc + 1 : Nat) : Int) + off = (tgt : Int))
    (kt : y ≤ x → W p l e R s m args below meth c H locs cells slots Q (F0 m tgt ls rest)) (kf : ¬ y ≤ x → W p l e R s m args below meth c H locs cells slots Q (F0 m (pc + 1 + 3) ls rest)) : W p l e R s m args below meth c H locs cells slots Q (F0 m pc ls (.long y :: .long x :: rest)) :=
  W.lcmp hx hb hd1 (lv_if_ge hx hb hd2 ht (fun h => kt ((lg_cmp_ge x y).mp h)) (fun h => kf (fun q => h ((lg_cmp_ge x y).mpr q))))
theorem k_lcmp_gt (hx : p.tables.exec = Jvm.exec) (hb : c.code = cc) {x y : Int64} {off : Int} {tgt : Nat} (hd1 : decode cc pc = .ok (.lcmp, 1)) (hd2 : decode cc (pc + 1) = .ok (.ifCond .gt off, 3)) (ht : ((pc + 1 : Nat) : Int) + off = (tgt : Int))
    (kt : y < x → W p l e R s m args below meth c H locs cells slots Q (F0 m tgt ls rest)) (kf : ¬ y < x → W p l e R s m args below meth c H locs cells slots Q (F0 m (pc + 1 + 3) ls rest)) : W p l e R s m args below meth c H locs cells slots Q (F0 m pc ls (.long y :: .long x :: rest)) :=
  W.lcmp hx hb hd1 (lv_if_gt hx hb hd2 ht (fun h => kt ((lg_cmp_gt x y).mp h)) (fun h => kf (fun q => h ((lg_cmp_gt x y).mpr q))))
theorem k_lcmp_le (hx : p.tables.exec = Jvm.exec) (hb : c.code = cc) {x y : Int64} {off : Int} {tgt : Nat} (hd1 : decode cc pc = .ok (.lcmp, 1)) (hd2 : decode cc (pc + 1) = .ok (.ifCond .le off, 3)) (ht : ((pc + 1 : Nat) : Int) + off = (tgt : Int))
    (kt : x ≤ y → W p l e R s m args below meth c H locs cells slots Q (F0 m tgt ls rest)) (kf : ¬ x ≤ y → W p l e R s m args below meth c H locs cells slots Q (F0 m (pc + 1 + 3) ls rest)) : W p l e R s m args below meth c H locs cells slots Q (F0 m pc ls (.long y :: .long x :: rest)) :=
  W.lcmp hx hb hd1 (lv_if_le hx hb hd2 ht (fun h => kt ((lg_cmp_le x y).mp h)) (fun h => kf (fun q => h ((lg_cmp_le x y).mpr q))))
end LCMP
theorem dfX0 : ∀ j, j < 15 → defaultValue (tyX0 j) = vp_V [.null, .null, .null, .null, .null, .null, .null, .null, .null, .null, .null, .null, .int 0, .int 0, .int 0] j := fun j hj => match j, hj with
  | 0, _ => rfl
  | 1, _ => rfl
  | 2, _ => rfl
  | 3, _ => rfl
  | 4, _ => rfl
  | 5, _ => rfl
  | 6, _ => rfl
  | 7, _ => rfl
  | 8, _ => rfl
  | 9, _ => rfl
  | 10, _ => rfl
  | 11, _ => rfl
  | 12, _ => rfl
  | 13, _ => rfl
  | 14, _ => rfl
  | n + 15, h => absurd h (by omega)
theorem dfX1 : ∀ j, j < 9 → defaultValue (tyX1 j) = vp_V [.null, .null, .null, .null, .int 0, .int 0, .null, .int 0, .null] j := fun j hj => match j, hj with
  | 0, _ => rfl
  | 1, _ => rfl
  | 2, _ => rfl
  | 3, _ => rfl
  | 4, _ => rfl
  | 5, _ => rfl
  | 6, _ => rfl
  | 7, _ => rfl
  | 8, _ => rfl
  | n + 9, h => absurd h (by omega)
theorem dfX2 : ∀ j, j < 3 → defaultValue (tyX2 j) = vp_V [.null, .null, .null] j := fun j hj => match j, hj with
  | 0, _ => rfl
  | 1, _ => rfl
  | 2, _ => rfl
  | n + 3, h => absurd h (by omega)
theorem dfX3 : ∀ j, j < 2 → defaultValue (tyX3 j) = vp_V [.null, .null] j := fun j hj => match j, hj with
  | 0, _ => rfl
  | 1, _ => rfl
  | n + 2, h => absurd h (by omega)
theorem dfX4 : ∀ j, j < 14 → defaultValue (tyX4 j) = vp_V [.null, .null, .null, .int 0, .int 0, .null, .null, .null, .null, .null, .null, .null, .int 0, .int 0] j := fun j hj => match j, hj with
  | 0, _ => rfl
  | 1, _ => rfl
  | 2, _ => rfl
  | 3, _ => rfl
  | 4, _ => rfl
  | 5, _ => rfl
  | 6, _ => rfl
  | 7, _ => rfl
  | 8, _ => rfl
  | 9, _ => rfl
  | 10, _ => rfl
  | 11, _ => rfl
  | 12, _ => rfl
  | 13, _ => rfl
  | n + 14, h => absurd h (by omega)
theorem dfX5 : ∀ j, j < 2 → defaultValue (tyX5 j) = vp_V [.null, .null] j := fun j hj => match j, hj with
  | 0, _ => rfl
  | 1, _ => rfl
  | n + 2, h => absurd h (by omega)
theorem dfX6 : ∀ j, j < 9 → defaultValue (tyX6 j) = vp_V [.null, .null, .null, .null, .null, .int 0, .int 0, .int 0, .null] j := fun j hj => match j, hj with
  | 0, _ => rfl
  | 1, _ => rfl
  | 2, _ => rfl
  | 3, _ => rfl
  | 4, _ => rfl
  | 5, _ => rfl
  | 6, _ => rfl
  | 7, _ => rfl
  | 8, _ => rfl
  | n + 9, h => absurd h (by omega)
theorem dfX7 : ∀ j, j < 6 → defaultValue (tyX7 j) = vp_V [.null, .null, .null, .null, .null, .null] j := fun j hj => match j, hj with
  | 0, _ => rfl
  | 1, _ => rfl
  | 2, _ => rfl
  | 3, _ => rfl
  | 4, _ => rfl
  | 5, _ => rfl
  | n + 6, h => absurd h (by omega)
theorem dfX8 : ∀ j, j < 46 → defaultValue (tyX8 j) = vp_V [.int 0, .int 0, .null, .null, .null, .null, .null, .null, .null, .null, .null, .int 0, .null, .null, .int 0, .null, .null, .null, .int 0, .null, .null, .null, .null, .null, .null, .null, .null, .null, .null, .int 0, .int 0, .int 0, .int 0, .null, .null, .null, .null, .null, .null, .null, .int 0, .null, .null, .int 0, .null, .null] j := fun j hj => match j, hj with
  | 0, _ => rfl
  | 1, _ => rfl
  | 2, _ => rfl
  | 3, _ => rfl
  | 4, _ => rfl
  | 5, _ => rfl
  | 6, _ => rfl
  | 7, _ => rfl
  | 8, _ => rfl
  | 9, _ => rfl
  | 10, _ => rfl
  | 11, _ => rfl
  | 12, _ => rfl
  | 13, _ => rfl
  | 14, _ => rfl
  | 15, _ => rfl
  | 16, _ => rfl
  | 17, _ => rfl
  | 18, _ => rfl
  | 19, _ => rfl
  | 20, _ => rfl
  | 21, _ => rfl
  | 22, _ => rfl
  | 23, _ => rfl
  | 24, _ => rfl
  | 25, _ => rfl
  | 26, _ => rfl
  | 27, _ => rfl
  | 28, _ => rfl
  | 29, _ => rfl
  | 30, _ => rfl
  | 31, _ => rfl
  | 32, _ => rfl
  | 33, _ => rfl
  | 34, _ => rfl
  | 35, _ => rfl
  | 36, _ => rfl
  | 37, _ => rfl
  | 38, _ => rfl
  | 39, _ => rfl
  | 40, _ => rfl
  | 41, _ => rfl
  | 42, _ => rfl
  | 43, _ => rfl
  | 44, _ => rfl
  | 45, _ => rfl
  | n + 46, h => absurd h (by omega)
theorem sw_out6 {x : Int32} (c0 : ¬ x = 0) (c1 : ¬ x = 1) (c2 : ¬ x = 2) (c3 : ¬ x = 3) (c4 : ¬ x = 4) (c5 : ¬ x = 5) : x.toInt < 0 ∨ 5 < x.toInt := by
  have h : ∀ k : Int32, ¬ x = k → x.toInt ≠ k.toInt := fun k hk q => hk (Int32.toInt_inj.mp q)
  have h0 : x.toInt ≠ 0 := h 0 c0
  have h1 : x.toInt ≠ 1 := h 1 c1
  have h2 : x.toInt ≠ 2 := h 2 c2
  have h3 : x.toInt ≠ 3 := h 3 c3
  have h4 : x.toInt ≠ 4 := h 4 c4
  have h5 : x.toInt ≠ 5 := h 5 c5
  omega
theorem sw_out9 {x : Int32} (c0 : ¬ x = 0) (c1 : ¬ x = 1) (c2 : ¬ x = 2) (c3 : ¬ x = 3) (c4 : ¬ x = 4) (c5 : ¬ x = 5) (c6 : ¬ x = 6) (c7 : ¬ x = 7) (c8 : ¬ x = 8) : x.toInt < 0 ∨ 8 < x.toInt := by
  have h : ∀ k : Int32, ¬ x = k → x.toInt ≠ k.toInt := fun k hk q => hk (Int32.toInt_inj.mp q)
  have h0 : x.toInt ≠ 0 := h 0 c0
  have h1 : x.toInt ≠ 1 := h 1 c1
  have h2 : x.toInt ≠ 2 := h 2 c2
  have h3 : x.toInt ≠ 3 := h 3 c3
  have h4 : x.toInt ≠ 4 := h 4 c4
  have h5 : x.toInt ≠ 5 := h 5 c5
  have h6 : x.toInt ≠ 6 := h 6 c6
  have h7 : x.toInt ≠ 7 := h 7 c7
  have h8 : x.toInt ≠ 8 := h 8 c8
  omega
theorem sw_out11 {x : Int32} (c0 : ¬ x = 0) (c1 : ¬ x = 1) (c2 : ¬ x = 2) (c3 : ¬ x = 3) (c4 : ¬ x = 4) (c5 : ¬ x = 5) (c6 : ¬ x = 6) (c7 : ¬ x = 7) (c8 : ¬ x = 8) (c9 : ¬ x = 9) (c10 : ¬ x = 10) : x.toInt < 0 ∨ 10 < x.toInt := by
  have h : ∀ k : Int32, ¬ x = k → x.toInt ≠ k.toInt := fun k hk q => hk (Int32.toInt_inj.mp q)
  have h0 : x.toInt ≠ 0 := h 0 c0
  have h1 : x.toInt ≠ 1 := h 1 c1
  have h2 : x.toInt ≠ 2 := h 2 c2
  have h3 : x.toInt ≠ 3 := h 3 c3
  have h4 : x.toInt ≠ 4 := h 4 c4
  have h5 : x.toInt ≠ 5 := h 5 c5
  have h6 : x.toInt ≠ 6 := h 6 c6
  have h7 : x.toInt ≠ 7 := h 7 c7
  have h8 : x.toInt ≠ 8 := h 8 c8
  have h9 : x.toInt ≠ 9 := h 9 c9
  have h10 : x.toInt ≠ 10 := h 10 c10
  omega
theorem nwk0 {s : State} (h : nw s) : va_Nw (.methodLinkNest RX7 9 yX4_init RX7) s := h 0 (RX7, 9, yX4_init) rfl
theorem nwk1 {s : State} (h : nw s) : va_Nw (.methodLinkNest RX4 20 yX6_init RX7) s := h 1 (RX4, 20, yX6_init) rfl
theorem nwk2 {s : State} (h : nw s) : va_Nw (.methodLinkNest RX4 27 yX2_init RX7) s := h 2 (RX4, 27, yX2_init) rfl
theorem nwk3 {s : State} (h : nw s) : va_Nw (.methodLinkNest RX7 23 yX5_init RX7) s := h 3 (RX7, 23, yX5_init) rfl
theorem nwk4 {s : State} (h : nw s) : va_Nw (.methodLinkNest RX7 30 yX1_init RX7) s := h 4 (RX7, 30, yX1_init) rfl
theorem nwk5 {s : State} (h : nw s) : va_Nw (.methodLinkNest RX4 113 yX7_has RX7) s := h 5 (RX4, 113, yX7_has) rfl
theorem nwk6 {s : State} (h : nw s) : va_Nw (.methodLinkNest RX6 34 yX7_has RX7) s := h 6 (RX6, 34, yX7_has) rfl
theorem nwk7 {s : State} (h : nw s) : va_Nw (.methodLinkNest RX5 35 yX7_has RX7) s := h 7 (RX5, 35, yX7_has) rfl
theorem nwk8 {s : State} (h : nw s) : va_Nw (.methodLinkNest RX5 22 yX7_within RX7) s := h 8 (RX5, 22, yX7_within) rfl
theorem nwk9 {s : State} (h : nw s) : va_Nw (.methodLinkNest RX1 36 yX7_within RX7) s := h 9 (RX1, 36, yX7_within) rfl
theorem nwk10 {s : State} (h : nw s) : va_Nw (.methodLinkNest RX1 40 yX7_has RX7) s := h 10 (RX1, 40, yX7_has) rfl
theorem nwk11 {s : State} (h : nw s) : va_Nw (.methodLinkNest RX0 61 yX7_has RX7) s := h 11 (RX0, 61, yX7_has) rfl
theorem nwk12 {s : State} (h : nw s) : va_Nw (.methodLinkNest RX4 172 yX7_within RX7) s := h 12 (RX4, 172, yX7_within) rfl
/-! a call that leaves its cells as they are: the world stays as it is listed -/
theorem k_keep {A : Nat → Prop} {D : va_G} {w wc : va_W} {H H1 : Heap} (hP : va_P D vwCl w H) (hD : va_D A w) (isC : List Nat) (hC : isC.map (fun i => w[i]?) = wc.map some) (hk : ∀ q : Nat, q < H.size → ¬ va_A wc H.size q → H1[q]? = H[q]?) (hF : ∀ q, va_A wc H.size q → A q) (hP1 : va_P D vwCl wc H1) (hD1 : va_D (va_A wc H.size) wc) : va_P D vwCl w H1 := by
  intro k q hq
  by_cases hc : k ∈ isC
  · obtain ⟨j, hj⟩ := List.getElem?_of_mem hc
    have h1 : (isC.map (fun i => w[i]?))[j]? = some (some q) := by
      rw [List.getElem?_map, hj]
      show some (w[k]?) = some (some q)
      rw [hq]
    rw [hC, List.getElem?_map] at h1
    cases hw : wc[j]? with
    | none => rw [hw] at h1; simp at h1
    | some x =>
      rw [hw] at h1
      have h2 : x = q := Option.some.inj (Option.some.inj h1)
      rw [← h2]
      exact hP1 j x hw
  · have h3 := (va_join (wr := [q]) (w1 := wc) hP hD isC [k] hC (by show [w[k]?] = [some q]; rw [hq]) (by simp [va_nd]) (fun i hi => by rw [List.mem_singleton.mp hi]; exact hc) hk hF hP1 hD1).1
    exact h3 0 q rfl
section OURK
variable {p : Program} {l : Launch} {e : Env} {R : Room} {s : State} {m : MethodId} {args : Array Value} {below : List Frame} {meth : Method} {c : Code} {H : Heap} {locs : List Loc} {cells slots : Nat} {Q : State → Prop}
variable {pc : Nat} {ls : Array Slot} {rest st0 : List Value} {a : Array Value} {A : Nat → Prop} {H0 : Heap} {mc ms : Nat} {D : va_G} {w wc : va_W}
theorem k_iS {post : Int32 → va_W → Prop} (hr : va_Run p l e R s m args below meth c H locs cells slots mc ms (F0 m pc ls st0) rest (cQi D post (va_A wc H.size) a) (va_A wc H.size)) (hP : va_P D vwCl w H) (hD : va_D A w) (hS : va_S A H0 H locs) (hA : ∀ q, H0.size ≤ q → A q) (isC : List Nat) (hC : isC.map (fun i => w[i]?) = wc.map some) (hu : ∀ r u, post r u → u = wc)
    (kk : ∀ (r : Int32) (H1 : Heap) (locs1 : List Loc), post r wc → va_P D vwCl w H1 → va_D A w → va_S A H0 H1 locs1 → W p l e R s m args below meth c H1 locs1 (cells + mc) (slots + ms) Q (F0 m (pc + 3) ls (.int r :: rest))) : W p l e R s m args below meth c H locs cells slots Q (F0 m pc ls st0) := by
  have hF := va_free (wc := wc) hD hS hA isC hC
  refine va_calli hr hS (fun q _ h => hF q h) hF (fun r u t H1 locs1 ht hvm hw hB hz1 hk1 hS1 => ?_)
  obtain ⟨hP1, hD1⟩ := hB
  rw [ht] at hP1
  have e9 := hu r u hw
  rw [e9] at hw hP1 hD1
  exact kk r H1 locs1 hw (k_keep hP hD isC hC hk1 hF hP1 hD1) hD hS1
theorem k_lS {post : Int64 → va_W → Prop} (hr : va_Run p l e R s m args below meth c H locs cells slots mc ms (F0 m pc ls st0) rest (cQl D post (va_A wc H.size) a) (va_A wc H.size)) (hP : va_P D vwCl w H) (hD : va_D A w) (hS : va_S A H0 H locs) (hA : ∀ q, H0.size ≤ q → A q) (isC : List Nat) (hC : isC.map (fun i => w[i]?) = wc.map some) (hu : ∀ r u, post r u → u = wc)
    (kk : ∀ (r : Int64) (H1 : Heap) (locs1 : List Loc), post r wc → va_P D vwCl w H1 → va_D A w → va_S A H0 H1 locs1 → W p l e R s m args below meth c H1 locs1 (cells + mc) (slots + ms) Q (F0 m (pc + 3) ls (.long r :: rest))) : W p l e R s m args below meth c H locs cells slots Q (F0 m pc ls st0) := by
  have hF := va_free (wc := wc) hD hS hA isC hC
  refine va_calll hr hS (fun q _ h => hF q h) hF (fun r u t H1 locs1 ht hvm hw hB hz1 hk1 hS1 => ?_)
  obtain ⟨hP1, hD1⟩ := hB
  rw [ht] at hP1
  have e9 := hu r u hw
  rw [e9] at hw hP1 hD1
  exact kk r H1 locs1 hw (k_keep hP hD isC hC hk1 hF hP1 hD1) hD hS1
end OURK
/-! an object, by its class: address and fields -/
abbrev aIc (c : ClassId) (a n : Nat) (f : Nat → Int32) : Nat × va_E := (a, .inl (c, n, .inl f))
abbrev aJc (c : ClassId) (a n : Nat) (f : Nat → Int64) : Nat × va_E := (a, .inl (c, n, .inr (.inl f)))
theorem k_re {D : va_G} {A : Nat → Prop} {H : Heap} {w : va_W} {G : Prop} (hP : va_P D vwCl w H) (hD : va_D A w) (k : va_P D vwCl w H → va_D A w → G) : G := k hP hD
abbrev oX0 (a : Nat) (f0 f1 f2 f3 f4 f5 f6 f7 f8 f9 f10 f11 : Nat) (f12 f13 f14 : Int32) : Nat × va_E := (a, .inr (0, [.ref f0, .ref f1, .ref f2, .ref f3, .ref f4, .ref f5, .ref f6, .ref f7, .ref f8, .ref f9, .ref f10, .ref f11, .int f12, .int f13, .int f14]))
abbrev oX1 (a : Nat) (f0 f1 f2 f3 : Nat) (f4 f5 : Int32) (f6 : Nat) (f7 : Int32) (f8 : Nat) : Nat × va_E := (a, .inr (1, [.ref f0, .ref f1, .ref f2, .ref f3, .int f4, .int f5, .ref f6, .int f7, .ref f8]))
abbrev oX2 (a : Nat) (f0 f1 f2 : Nat) : Nat × va_E := (a, .inr (2, [.ref f0, .ref f1, .ref f2]))
abbrev oX3 (a : Nat) (f0 f1 : Nat) : Nat × va_E := (a, .inr (3, [.ref f0, .ref f1]))
abbrev oX4 (a : Nat) (f0 f1 f2 : Nat) (f3 f4 : Int32) (f5 f6 f7 f8 f9 f10 f11 : Nat) (f12 f13 : Int32) : Nat × va_E := (a, .inr (4, [.ref f0, .ref f1, .ref f2, .int f3, .int f4, .ref f5, .ref f6, .ref f7, .ref f8, .ref f9, .ref f10, .ref f11, .int f12, .int f13]))
abbrev oX5 (a : Nat) (f0 f1 : Nat) : Nat × va_E := (a, .inr (5, [.ref f0, .ref f1]))
abbrev oX6 (a : Nat) (f0 f1 f2 f3 f4 : Nat) (f5 f6 f7 : Int32) (f8 : Nat) : Nat × va_E := (a, .inr (6, [.ref f0, .ref f1, .ref f2, .ref f3, .ref f4, .int f5, .int f6, .int f7, .ref f8]))
abbrev oX7 (a : Nat) (f0 f1 f2 f3 f4 f5 : Nat) : Nat × va_E := (a, .inr (7, [.ref f0, .ref f1, .ref f2, .ref f3, .ref f4, .ref f5]))
abbrev oX8 (a : Nat) (f0 f1 : Int32) (f2 f3 f4 f5 f6 f7 f8 f9 f10 : Nat) (f11 : Int32) (f12 f13 : Nat) (f14 : Int32) (f15 f16 f17 : Nat) (f18 : Int32) (f19 f20 f21 f22 f23 f24 f25 f26 f27 f28 : Nat) (f29 f30 f31 f32 : Int32) (f33 f34 f35 f36 f37 f38 f39 : Nat) (f40 : Int32) (f41 f42 : Nat) (f43 : Int32) (f44 f45 : Nat) : Nat × va_E := (a, .inr (8, [.int f0, .int f1, .ref f2, .ref f3, .ref f4, .ref f5, .ref f6, .ref f7, .ref f8, .ref f9, .ref f10, .int f11, .ref f12, .ref f13, .int f14, .ref f15, .ref f16, .ref f17, .int f18, .ref f19, .ref f20, .ref f21, .ref f22, .ref f23, .ref f24, .ref f25, .ref f26, .ref f27, .ref f28, .int f29, .int f30, .int f31, .int f32, .ref f33, .ref f34, .ref f35, .ref f36, .ref f37, .ref f38, .ref f39, .int f40, .ref f41, .ref f42, .int f43, .ref f44, .ref f45]))

