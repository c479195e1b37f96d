abbrev NSE : String := "java/util/NoSuchElementException"
abbrev NSN : List String := ["java/lang/RuntimeException", "java/lang/Exception"]
abbrev xB : List Cond := [.declares (Bundle.init0 "java/lang/RuntimeException"), .declares (Bundle.init0 "java/lang/Exception"), .declares (Bundle.init0 Bundle.tN), .castable NSE NSE]
theorem xB_tab : ∀ w ∈ xB, w.onTables = true := by decide +kernel
/-- what a throw needs of the tables, and of the heap -/
def xw (A : Nat → Prop) (U : State) (H : Heap) : Prop := (∀ (k : Nat) (w : Cond), xB[k]? = some w → va_Nw w U) ∧ vx_Zq Bundle.tN "UNASSIGNED_STACK" Bundle.steD A U H ∧ vx_Zq Bundle.tN "SUPPRESSED_SENTINEL" Bundle.listD A U H
theorem xw.warm {A : Nat → Prop} {s U : State} {H : Heap} (hW : s.WarmedH U.vm) (h : xw A s H) : xw A U H := by
  refine ⟨fun k w hw => ?_, vx_Zq.moved hW.alike h.2.1, vx_Zq.moved hW.alike h.2.2⟩
  have h1 := h.1 k w hw
  match k, hw with
  | 0, hw => cases hw; exact va_Nw.warmD hW h1
  | 1, hw => cases hw; exact va_Nw.warmD hW h1
  | 2, hw => cases hw; exact va_Nw.warmD hW h1
  | 3, hw => cases hw; exact va_Nw.warmC hW h1
  | k + 4, hw => simp [xB] at hw
theorem xw.same {A : Nat → Prop} {u U : State} {H : Heap} (hv : u.vm = U.vm) (h : xw A u H) : xw A U H :=
  have ha : u.vm.Alike U.vm := hv ▸ Vm.Alike.refl u.vm
  ⟨fun k w hw => va_Nw.same (xB_tab w (List.mem_of_getElem? hw)) hv (h.1 k w hw), vx_Zq.moved ha h.2.1, vx_Zq.moved ha h.2.2⟩
theorem xw.kept {A : Nat → Prop} {U : State} {H H1 : Heap} (h : xw A U H) (hq : ∀ a : Nat, a < H.size → ¬ A a → H1[a]? = H[a]?) : xw A U H1 := ⟨h.1, h.2.1.kept hq, h.2.2.kept hq⟩
theorem xw.narrow {A B : Nat → Prop} {U : State} {H : Heap} (h : xw A U H) (hAB : ∀ q, B q → A q) : xw B U H := ⟨h.1, h.2.1.narrow hAB, h.2.2.narrow hAB⟩
theorem xw.use {A : Nat → Prop} {U : State} {H : Heap} (h : xw A U H) {args : Array Value} : ∀ w ∈ xB, w.before args U = true := fun w hw => by
  obtain ⟨k, hk⟩ := List.getElem?_of_mem hw
  exact va_Nw.use (xB_tab w hw) (h.1 k w hk)
def cPx (D : va_G) (cI cJ : ClassId) (av : List Value) (sz : Nat) (WS : va_W) : Array Value → State → Prop := va_Pc av (fun U => cB D cI cJ sz WS U ∧ xw (va_A WS sz) U U.heap)
theorem cPx_blind {D : va_G} {cI cJ : ClassId} {av : List Value} {sz : Nat} {WS : va_W} : FrameBlind (cPx D cI cJ av sz WS) := fun a U g mk q => ⟨q.1, (cPc_blind (D := D) (cI := cI) (cJ := cJ) (av := av) (sz := sz) (WS := WS) a U g mk ⟨q.1, q.2.1⟩).2, xw.same (u := U) rfl q.2.2⟩
theorem k_prex {s : State} {H : Heap} {D : va_G} {cI cJ : ClassId} {A : Nat → Prop} {w wc : va_W} {As : List Value} {locs : List Loc} (hE : eK D cI cJ s) (hP : va_P D vwCl w H) (hD : va_D A w) (hS : va_S A s.heap H locs) (hA : ∀ q, s.heap.size ≤ q → A q) (hX : xw A s s.heap) (isC : List Nat) (hn : va_nd isC = true) (hC : isC.map (fun i => w[i]?) = wc.map some) : PreS s H (cPx D cI cJ As H.size wc) As := by
  refine ⟨cPx_blind, fun U hU hW => ?_⟩
  have h1 := (k_pre (As := As) hE hP hD isC hn hC).2 U hU hW
  have h2 : xw A s H := hX.kept (fun a h3 h4 => hS.2.1 a h3 h4)
  refine ⟨h1.1, h1.2, ?_⟩
  rw [hU]
  exact xw.warm hW (h2.narrow (va_free (wc := wc) hD hS hA isC hC))
theorem k_preVx {s : State} {H : Heap} {D : va_G} {cI cJ : ClassId} {A : Nat → Prop} {w wc : va_W} {As : List Value} {locs : List Loc} {b ci : Nat} {fs : List Value} {C : String} {T : u_T} {N : Nat} (hE : eK D cI cJ s) (hP : va_P D vwCl w H) (hD : va_D A w) (hS : va_S A s.heap H locs) (hA : ∀ q, s.heap.size ≤ q → A q) (hX : xw A s s.heap) (isC : List Nat) (hn : va_nd isC = true) (hC : isC.map (fun i => w[i]?) = wc.map some) (q0 : Nat) (he : w[q0]? = some (b, .inr (ci, fs))) (hc : vwCl[ci]? = some (C, T, N)) : PreV s H C b (cPx D cI cJ (.ref b :: As) H.size wc) As :=
  ⟨cPx_blind, va_recv hE.1 hP (ci := ci) (q0 := q0) hc he, (k_prex (As := .ref b :: As) hE hP hD hS hA hX isC hn hC).2⟩
/-- it has thrown a NoSuchElementException, and written nothing that isn't its own -/
abbrev xX (A : Nat → Prop) : String → State → State → Prop := vx_X (S := Unit) (fun _ => True) (fun E _ _ => E = NSE) A
/-- a body with a table of its own that returns always -/
theorem k_ofWH {l : Launch} {y : MethodName} {ws ws' : List Cond} {rm : Room} {Pc : Array Value → State → Prop} {Qc : Array Value → State → Outcome → State → Prop} {mc ms : Nat} {free : Addr → Prop} {cc : ByteArray} {maxL : Nat} {ret : Option FieldType} {hh : List (Nat × Nat × Nat × Nat)}
    (hy : plainName y.cls = true) (hw : ws = Cond.codeWith y cc maxL ret hh :: ws')
    (body : ∀ p e s m args below meth c s₁, BodyLoose p l y (headSpec ws rm) cc maxL ret e s m args below meth c s₁ → c.maxLocals = maxL → c.exceptionTable.toList = tableOf hh → Pc args s →
      W p l e (headSpec ws rm).room s m args below meth c s.heap [] 0 0 (MQ below Qc args s mc ms free) (entryFrame m args maxL)) : Met l y ws rm Pc Qc mc ms free := by
  refine MetFree.of_bodyS (code := cc) (maxLocals := maxL) (ret := ret) hy ?_ ?_
  · intro args s m h hn
    obtain ⟨m9, meth, c, hn9, h1, h2, h3, h4, -, h5, h6, -⟩ := Cond.codeWith_spec (atoms_spec (ws := ws) h _ (by rw [hw]; exact List.mem_cons_self))
    cases hn.symm.trans hn9
    exact ⟨meth, c, h1, h2, h3, h4, h5, h6⟩
  · intro p e s m args below meth c s₁ B hml hP _
    have hh0 : s₁.heap = s.heap := by rw [B.state]; rfl
    have ht : c.exceptionTable.toList = tableOf hh := vx_table (x := y) B (atoms_spec (ws := ws) B.pre _ (by rw [hw]; exact List.mem_cons_self))
    obtain ⟨t, a1, o, b1, b2, b3⟩ := body p e s m args below meth c s₁ B hml ht hP s₁ hh0 (Stand.of_body B)
    exact ⟨t, o, a1, b1, b2, ⟨b3.1, b3.2⟩⟩
theorem dX7_of_0 : decode cX7_of 0 = .ok (.aload_n 0, 1) := by decide +kernel
theorem dX7_of_1 : decode cX7_of 1 = .ok (.iload_n 1, 1) := by decide +kernel
theorem dX7_of_2 : decode cX7_of 2 = .ok (.invokevirtual 74, 3) := by decide +kernel
theorem dX7_of_5 : decode cX7_of 5 = .ok (.ifCond .ne 11, 3) := by decide +kernel
theorem dX7_of_8 : decode cX7_of 8 = .ok (.new 128, 3) := by decide +kernel
theorem dX7_of_11 : decode cX7_of 11 = .ok (.dup, 1) := by decide +kernel
theorem dX7_of_12 : decode cX7_of 12 = .ok (.invokespecial 130, 3) := by decide +kernel
theorem dX7_of_15 : decode cX7_of 15 = .ok (.athrow, 1) := by decide +kernel
set_option maxRecDepth 20000 in
theorem ggX7_of_X7_isPolicy : GoodIn wsX7_of wsX7_isPolicy := goodIn_r _ [20, 3, 21, 22, 23, 19, 24, 171, 172, 173, 174, 175, 176, 177, 178, 179, 180, 181, 182, 183, 184, 185, 186, 187, 188, 189, 190, 191] (by decide +kernel) (by decide +kernel)
set_option maxRecDepth 20000 in
theorem gX7_of_X7_isPolicy : GoodIn wsX7_of (wsV RX7 74 RX7 yX7_isPolicy wsX7_isPolicy) := goodIn_app (goodIn_of _ (by decide +kernel)) ggX7_of_X7_isPolicy
set_option maxHeartbeats 4000000 in
set_option maxRecDepth 100000 in
theorem x_X7_of (l : Launch) (hl9 : l.stackTraces = false) (D : va_G) (cI cJ : ClassId) (sz : Nat) (x x0 x1 x2 x3 x4 x5 b0 b1 b2 b3 b4 b5 b6 b7 b8 b9 b10 b11 : Nat) (p0 p1 : Int32) : vx_Met l yX7_of wsX7_of { frames := 6, cells := 1, slots := 6, locals := 81 } (cPx D cI cJ [.ref x, .int p0, .int p1] sz [(x, .inr (7, [.ref x0, .ref x1, .ref x2, .ref x3, .ref x4, .ref x5])), (x0, .inr (0, [.ref b0, .ref b1, .ref b2, .ref b3, .ref b4, .ref b5, .ref b6, .ref b7, .ref b8, .ref b9, .ref b10, .ref b11, .int 0, .int 0, .int 0]))]) (cQi D (fun _ _ => False) (va_A [(x, .inr (7, [.ref x0, .ref x1, .ref x2, .ref x3, .ref x4, .ref x5])), (x0, .inr (0, [.ref b0, .ref b1, .ref b2, .ref b3, .ref b4, .ref b5, .ref b6, .ref b7, .ref b8, .ref b9, .ref b10, .ref b11, .int 0, .int 0, .int 0]))] sz)) (xX (va_A [(x, .inr (7, [.ref x0, .ref x1, .ref x2, .ref x3, .ref x4, .ref x5])), (x0, .inr (0, [.ref b0, .ref b1, .ref b2, .ref b3, .ref b4, .ref b5, .ref b6, .ref b7, .ref b8, .ref b9, .ref b10, .ref b11, .int 0, .int 0, .int 0]))] sz)) 1 6 (va_A [(x, .inr (7, [.ref x0, .ref x1, .ref x2, .ref x3, .ref x4, .ref x5])), (x0, .inr (0, [.ref b0, .ref b1, .ref b2, .ref b3, .ref b4, .ref b5, .ref b6, .ref b7, .ref b8, .ref b9, .ref b10, .ref b11, .int 0, .int 0, .int 0]))] sz) := by
  refine vx_ofW (cc := cX7_of) (maxL := 3) (ret := some .int) (by decide) rfl ?_
  intro p e s m args below meth c s₁ B hml htab hv
  obtain ⟨rfl, ⟨hsz, hP, hE, hD0⟩, hX⟩ := hv
  have hx := B.exec
  have hb := B.bytes
  have hlk := B.notSynchronized
  have hts := atoms_spec (ws := wsX7_of) B.pre
  have hown : s.vm.findClass RX7 = some m.cls := findClass_of_methodNamed B.named
  subst hsz
  have hD := hD0.self (sz := s.heap.size)
  generalize hAe : va_A [(x, .inr (7, [.ref x0, .ref x1, .ref x2, .ref x3, .ref x4, .ref x5])), (x0, .inr (0, [.ref b0, .ref b1, .ref b2, .ref b3, .ref b4, .ref b5, .ref b6, .ref b7, .ref b8, .ref b9, .ref b10, .ref b11, .int 0, .int 0, .int 0]))] s.heap.size = A at hD hX ⊢
  have hA : ∀ q : Nat, s.heap.size ≤ q → A q := fun q h => by rw [← hAe]; exact Or.inr h
  have hS : va_S A s.heap s.heap [] := va_S.rf
  have hl := lv_entry [.ref x, .int p0, .int p1] (n := 3) (Nat.le_of_ble_eq_true rfl)
  rw [lg_entry_eq]
  generalize (lg_sl [.ref x, .int p0, .int p1] ++ List.replicate (3 - (lg_sl [.ref x, .int p0, .int p1]).length) Slot.unset).toArray = ls at hl ⊢
  have hl : lv_has ls 3 [(0, .ref x), (1, .int p0), (2, .int p1)] := hl
  refine lv_aload_n hx hb dX7_of_0 rfl (lv_at hl 0 rfl) ?_
  refine lv_iload_n hx hb dX7_of_1 rfl (lv_at hl 1 rfl) ?_
  refine k_i (va_runV (As := [.int p0]) (rest := []) ⟨hx, hb, hml, hown, hts⟩ (m_X7_isPolicy l D cI cJ (s.heap).size x x0 x1 x2 x3 x4 x5 b0 b1 b2 b3 b4 b5 b6 b7 b8 b9 b10 b11 0 0 0 p0) (cwV 1 hts gX7_of_X7_isPolicy rfl rfl rfl (by decide +kernel) ⟨Nat.le_of_ble_eq_true rfl, Nat.le_of_ble_eq_true rfl⟩) (k_preV hE hP hD [0, 1] (by decide) rfl 0 rfl rfl) rfl rfl hl.1 rfl (lv_room (Nat.le_of_ble_eq_true rfl)) dX7_of_2 ⟨Nat.le_of_ble_eq_true rfl, Nat.le_of_ble_eq_true rfl⟩) hP hD hS hA [0, 1] [] rfl (wr := []) rfl (by decide) (by decide) (fun r1 u H locs hw2 hP hD hS => ?_)
  obtain ⟨hw2, rfl⟩ := hw2
  obtain rfl : r1 = 0 := by rw [hw2]; exact bz_z (nofit _)
  have hP : va_P D vwCl [(x, .inr (7, [.ref x0, .ref x1, .ref x2, .ref x3, .ref x4, .ref x5])), (x0, .inr (0, [.ref b0, .ref b1, .ref b2, .ref b3, .ref b4, .ref b5, .ref b6, .ref b7, .ref b8, .ref b9, .ref b10, .ref b11, .int 0, .int 0, .int 0]))] H := hP
  have hD : va_D A [(x, .inr (7, [.ref x0, .ref x1, .ref x2, .ref x3, .ref x4, .ref x5])), (x0, .inr (0, [.ref b0, .ref b1, .ref b2, .ref b3, .ref b4, .ref b5, .ref b6, .ref b7, .ref b8, .ref b9, .ref b10, .ref b11, .int 0, .int 0, .int 0]))] := hD
  refine lv_if_ne (tgt := 16) hx hb dX7_of_5 (by decide) (fun c3 => absurd rfl c3) (fun _ => ?_)
  have hat : ∀ w ∈ vx_at0 RX7 130 NSE NSN, w.before [.ref x, .int p0, .int p1].toArray s = true := vx_hat (B := xB) (fun w h => hts w (List.mem_cons_of_mem _ (List.mem_append_right _ h))) (by decide +kernel) hX.use
  exact vx_throw0 (cls := NSE) (names := NSN) (ik := 128) (ic := 130) (mc := 1) (ms := 6) hx hb hl9 hown (by decide +kernel) (by decide +kernel) (hts _ (List.mem_of_getElem? (i := 1) rfl)) (hts _ (List.mem_of_getElem? (i := 2) rfl)) hat (by decide +kernel) hX.2.1 hX.2.2 hS (hl.1.trans hml.symm) dX7_of_8 dX7_of_11 dX7_of_12 dX7_of_15 (fun x hx9 => (htab x hx9).elim) (Nat.le_of_ble_eq_true rfl) (Nat.le_of_ble_eq_true rfl) (Nat.le_of_ble_eq_true rfl) (Nat.le_of_ble_eq_true rfl) hlk (fun t _ hz hk => ⟨(), trivial, rfl, ⟨Nat.le_trans hS.1 hz, fun q h1 h2 => (hk q (Nat.lt_of_lt_of_le h1 hS.1)).trans (hS.2.1 q h1 h2)⟩⟩) hS.2.2 (Nat.le_of_ble_eq_true rfl) (Nat.le_of_ble_eq_true rfl)
theorem dX7_share_0 : decode cX7_share 0 = .ok (.aload_n 0, 1) := by decide +kernel
theorem dX7_share_1 : decode cX7_share 1 = .ok (.iload_n 1, 1) := by decide +kernel
theorem dX7_share_2 : decode cX7_share 2 = .ok (.invokevirtual 137, 3) := by decide +kernel
theorem dX7_share_5 : decode cX7_share 5 = .ok (.ifCond .eq 11, 3) := by decide +kernel
theorem dX7_share_16 : decode cX7_share 16 = .ok (.new 128, 3) := by decide +kernel
theorem dX7_share_19 : decode cX7_share 19 = .ok (.dup, 1) := by decide +kernel
theorem dX7_share_20 : decode cX7_share 20 = .ok (.invokespecial 130, 3) := by decide +kernel
theorem dX7_share_23 : decode cX7_share 23 = .ok (.athrow, 1) := by decide +kernel
set_option maxRecDepth 20000 in
theorem ggX7_share_X7_isLoss : GoodIn wsX7_share wsX7_isLoss := goodIn_r _ [16, 17, 18, 19, 20, 15, 21, 178, 179, 180, 181, 182, 183, 207, 208, 209, 210, 211, 212, 213, 214, 215, 216, 217, 218, 219, 220, 221] (by decide +kernel) (by decide +kernel)
set_option maxRecDepth 20000 in
theorem gX7_share_X7_isLoss : GoodIn wsX7_share (wsV RX7 137 RX7 yX7_isLoss wsX7_isLoss) := goodIn_app (goodIn_of _ (by decide +kernel)) ggX7_share_X7_isLoss
set_option maxHeartbeats 4000000 in
set_option maxRecDepth 100000 in
theorem x_X7_share (l : Launch) (hl9 : l.stackTraces = false) (D : va_G) (cI cJ : ClassId) (sz : Nat) (x x0 x1 x2 x3 x4 x5 b0 b1 b2 b3 b4 b5 b6 b7 b8 b9 b10 b11 : Nat) (p0 p1 p2 : Int32) : vx_Met l yX7_share wsX7_share { frames := 6, cells := 1, slots := 6, locals := 81 } (cPx D cI cJ [.ref x, .int p0, .int p1, .int p2] sz [(x, .inr (7, [.ref x0, .ref x1, .ref x2, .ref x3, .ref x4, .ref x5])), (x0, .inr (0, [.ref b0, .ref b1, .ref b2, .ref b3, .ref b4, .ref b5, .ref b6, .ref b7, .ref b8, .ref b9, .ref b10, .ref b11, .int 0, .int 0, .int 0]))]) (cQi D (fun _ _ => False) (va_A [(x, .inr (7, [.ref x0, .ref x1, .ref x2, .ref x3, .ref x4, .ref x5])), (x0, .inr (0, [.ref b0, .ref b1, .ref b2, .ref b3, .ref b4, .ref b5, .ref b6, .ref b7, .ref b8, .ref b9, .ref b10, .ref b11, .int 0, .int 0, .int 0]))] sz)) (xX (va_A [(x, .inr (7, [.ref x0, .ref x1, .ref x2, .ref x3, .ref x4, .ref x5])), (x0, .inr (0, [.ref b0, .ref b1, .ref b2, .ref b3, .ref b4, .ref b5, .ref b6, .ref b7, .ref b8, .ref b9, .ref b10, .ref b11, .int 0, .int 0, .int 0]))] sz)) 1 6 (va_A [(x, .inr (7, [.ref x0, .ref x1, .ref x2, .ref x3, .ref x4, .ref x5])), (x0, .inr (0, [.ref b0, .ref b1, .ref b2, .ref b3, .ref b4, .ref b5, .ref b6, .ref b7, .ref b8, .ref b9, .ref b10, .ref b11, .int 0, .int 0, .int 0]))] sz) := by
  refine vx_ofW (cc := cX7_share) (maxL := 5) (ret := some .int) (by decide) rfl ?_
  intro p e s m args below meth c s₁ B hml htab hv
  obtain ⟨rfl, ⟨hsz, hP, hE, hD0⟩, hX⟩ := hv
  have hx := B.exec
  have hb := B.bytes
  have hlk := B.notSynchronized
  have hts := atoms_spec (ws := wsX7_share) B.pre
  have hown : s.vm.findClass RX7 = some m.cls := findClass_of_methodNamed B.named
  subst hsz
  have hD := hD0.self (sz := s.heap.size)
  generalize hAe : va_A [(x, .inr (7, [.ref x0, .ref x1, .ref x2, .ref x3, .ref x4, .ref x5])), (x0, .inr (0, [.ref b0, .ref b1, .ref b2, .ref b3, .ref b4, .ref b5, .ref b6, .ref b7, .ref b8, .ref b9, .ref b10, .ref b11, .int 0, .int 0, .int 0]))] s.heap.size = A at hD hX ⊢
  have hA : ∀ q : Nat, s.heap.size ≤ q → A q := fun q h => by rw [← hAe]; exact Or.inr h
  have hS : va_S A s.heap s.heap [] := va_S.rf
  have hl := lv_entry [.ref x, .int p0, .int p1, .int p2] (n := 5) (Nat.le_of_ble_eq_true rfl)
  rw [lg_entry_eq]
  generalize (lg_sl [.ref x, .int p0, .int p1, .int p2] ++ List.replicate (5 - (lg_sl [.ref x, .int p0, .int p1, .int p2]).length) Slot.unset).toArray = ls at hl ⊢
  have hl : lv_has ls 5 [(0, .ref x), (1, .int p0), (2, .int p1), (3, .int p2)] := hl
  refine lv_aload_n hx hb dX7_share_0 rfl (lv_at hl 0 rfl) ?_
  refine lv_iload_n hx hb dX7_share_1 rfl (lv_at hl 1 rfl) ?_
  refine k_i (va_runV (As := [.int p0]) (rest := []) ⟨hx, hb, hml, hown, hts⟩ (m_X7_isLoss l D cI cJ (s.heap).size x x0 x1 x2 x3 x4 x5 b0 b1 b2 b3 b4 b5 b6 b7 b8 b9 b10 b11 0 0 0 p0) (cwV 1 hts gX7_share_X7_isLoss rfl rfl rfl (by decide +kernel) ⟨Nat.le_of_ble_eq_true rfl, Nat.le_of_ble_eq_true rfl⟩) (k_preV hE hP hD [0, 1] (by decide) rfl 0 rfl rfl) rfl rfl hl.1 rfl (lv_room (Nat.le_of_ble_eq_true rfl)) dX7_share_2 ⟨Nat.le_of_ble_eq_true rfl, Nat.le_of_ble_eq_true rfl⟩) hP hD hS hA [0, 1] [] rfl (wr := []) rfl (by decide) (by decide) (fun r1 u H locs hw2 hP hD hS => ?_)
  obtain ⟨hw2, rfl⟩ := hw2
  obtain rfl : r1 = 0 := by rw [hw2]; exact bz_z (nofit _)
  have hP : va_P D vwCl [(x, .inr (7, [.ref x0, .ref x1, .ref x2, .ref x3, .ref x4, .ref x5])), (x0, .inr (0, [.ref b0, .ref b1, .ref b2, .ref b3, .ref b4, .ref b5, .ref b6, .ref b7, .ref b8, .ref b9, .ref b10, .ref b11, .int 0, .int 0, .int 0]))] H := hP
  have hD : va_D A [(x, .inr (7, [.ref x0, .ref x1, .ref x2, .ref x3, .ref x4, .ref x5])), (x0, .inr (0, [.ref b0, .ref b1, .ref b2, .ref b3, .ref b4, .ref b5, .ref b6, .ref b7, .ref b8, .ref b9, .ref b10, .ref b11, .int 0, .int 0, .int 0]))] := hD
  refine lv_if_eq (tgt := 16) hx hb dX7_share_5 (by decide) (fun _ => ?_) (fun c3 => absurd (by decide) c3)
  have hat : ∀ w ∈ vx_at0 RX7 130 NSE NSN, w.before [.ref x, .int p0, .int p1, .int p2].toArray s = true := vx_hat (B := xB) (fun w h => hts w (List.mem_cons_of_mem _ (List.mem_append_right _ h))) (by decide +kernel) hX.use
  exact vx_throw0 (cls := NSE) (names := NSN) (ik := 128) (ic := 130) (mc := 1) (ms := 6) hx hb hl9 hown (by decide +kernel) (by decide +kernel) (hts _ (List.mem_of_getElem? (i := 1) rfl)) (hts _ (List.mem_of_getElem? (i := 2) rfl)) hat (by decide +kernel) hX.2.1 hX.2.2 hS (hl.1.trans hml.symm) dX7_share_16 dX7_share_19 dX7_share_20 dX7_share_23 (fun x hx9 => (htab x hx9).elim) (Nat.le_of_ble_eq_true rfl) (Nat.le_of_ble_eq_true rfl) (Nat.le_of_ble_eq_true rfl) (Nat.le_of_ble_eq_true rfl) hlk (fun t _ hz hk => ⟨(), trivial, rfl, ⟨Nat.le_trans hS.1 hz, fun q h1 h2 => (hk q (Nat.lt_of_lt_of_le h1 hS.1)).trans (hS.2.1 q h1 h2)⟩⟩) hS.2.2 (Nat.le_of_ble_eq_true rfl) (Nat.le_of_ble_eq_true rfl)
theorem dL_of_0 : decode cL_of 0 = .ok (.aload_n 3, 1) := by decide +kernel
theorem dL_of_1 : decode cL_of 1 = .ok (.iconst 0, 1) := by decide +kernel
theorem dL_of_2 : decode cL_of 2 = .ok (.aload_n 0, 1) := by decide +kernel
theorem dL_of_3 : decode cL_of 3 = .ok (.iload_n 1, 1) := by decide +kernel
theorem dL_of_4 : decode cL_of 4 = .ok (.iload_n 2, 1) := by decide +kernel
theorem dL_of_5 : decode cL_of 5 = .ok (.invokevirtual 7, 3) := by decide +kernel
theorem dL_of_13 : decode cL_of 13 = .ok (.astore 4, 2) := by decide +kernel
theorem dL_of_15 : decode cL_of 15 = .ok (.iconst 1, 1) := by decide +kernel
theorem dL_of_16 : decode cL_of 16 = .ok (.ireturn, 1) := by decide +kernel
set_option maxRecDepth 20000 in
theorem ggL_of_X7_of : GoodIn wsL_of wsX7_of := goodIn_ca (goodIn_r _ [6, 7, 8, 9, 10, 11, 12, 13, 14, 15, 16, 17, 18, 19, 20, 21, 22, 23, 24, 5, 25, 26, 27, 28, 29, 30, 31, 32, 33, 34, 35, 36, 37, 38, 39, 40, 41, 42, 43, 44, 45, 46, 47, 48, 49, 50, 51, 52, 53, 54, 55, 56, 57, 58, 59, 60, 61, 62, 63, 64, 65, 66, 67, 68, 69, 70, 71, 72, 73, 74, 75, 76, 77, 78, 79, 80, 81, 82, 83, 84, 85, 86, 87, 88, 89, 90, 91, 92, 93, 94, 95, 96, 97, 98, 99, 100, 101, 102, 103, 104, 105, 106, 107, 108, 109, 110, 111, 112, 113, 114, 115, 116, 117, 118, 119, 120, 121, 122, 123, 124, 125, 126, 127, 128, 129, 130, 131, 132, 133, 134, 135, 136, 137, 138, 139, 140, 141, 142, 143, 144, 145, 146, 147, 148, 149, 150, 151, 152, 153, 154, 155, 156, 157, 158, 159, 160, 161, 162, 163, 164, 165, 166, 167, 168, 169, 170, 171, 172, 173, 174, 175, 176, 177, 178, 179, 180, 181, 182, 183, 184, 185, 186, 187, 188, 189, 190, 191, 192, 193, 194, 195, 196, 197, 198, 199, 200, 201, 202, 203, 204, 205, 206, 207, 208, 209, 210, 211, 212, 213, 214, 215, 216, 217, 218, 219, 220, 221, 222] (by decide +kernel) (by decide +kernel)) (goodIn_sub (fun _ h => List.mem_cons_of_mem _ (List.mem_append_right _ h)) (by decide +kernel))
set_option maxRecDepth 20000 in
theorem gL_of_X7_of : GoodIn wsL_of (wsV RL 7 RX7 yX7_of wsX7_of) := goodIn_app (goodIn_of _ (by decide +kernel)) ggL_of_X7_of
set_option maxHeartbeats 4000000 in
set_option maxRecDepth 100000 in
theorem k_L_of (l : Launch) (hl9 : l.stackTraces = false) (D : va_G) (cI cJ : ClassId) (sz : Nat) (x x0 x1 x2 x3 x4 x5 b0 b1 b2 b3 b4 b5 b6 b7 b8 b9 b10 b11 o : Nat) (p0 p1 : Int32) : Met l yL_of wsL_of { frames := 7, cells := 1, slots := 6, locals := 103 } (cPx D cI cJ [.ref x, .int p0, .int p1, .ref o] sz [(x, .inr (7, [.ref x0, .ref x1, .ref x2, .ref x3, .ref x4, .ref x5])), (x0, .inr (0, [.ref b0, .ref b1, .ref b2, .ref b3, .ref b4, .ref b5, .ref b6, .ref b7, .ref b8, .ref b9, .ref b10, .ref b11, .int 0, .int 0, .int 0]))]) (cQi D (fun r u => r = 1 ∧ u = []) (va_A [(x, .inr (7, [.ref x0, .ref x1, .ref x2, .ref x3, .ref x4, .ref x5])), (x0, .inr (0, [.ref b0, .ref b1, .ref b2, .ref b3, .ref b4, .ref b5, .ref b6, .ref b7, .ref b8, .ref b9, .ref b10, .ref b11, .int 0, .int 0, .int 0]))] sz)) 1 6 (va_A [(x, .inr (7, [.ref x0, .ref x1, .ref x2, .ref x3, .ref x4, .ref x5])), (x0, .inr (0, [.ref b0, .ref b1, .ref b2, .ref b3, .ref b4, .ref b5, .ref b6, .ref b7, .ref b8, .ref b9, .ref b10, .ref b11, .int 0, .int 0, .int 0]))] sz) := by
  refine k_ofWH (cc := cL_of) (maxL := 5) (ret := some .int) (by decide) rfl ?_
  intro p e s m args below meth c s₁ B hml htab hv
  obtain ⟨rfl, ⟨hsz, hP, hE, hD0⟩, hX⟩ := hv
  have hx := B.exec
  have hb := B.bytes
  have hr := B.returns
  have hlk := B.notSynchronized
  have hts := atoms_spec (ws := wsL_of) B.pre
  have hown : s.vm.findClass RL = some m.cls := findClass_of_methodNamed B.named
  subst hsz
  have hD := hD0.self (sz := s.heap.size)
  generalize hAe : va_A [(x, .inr (7, [.ref x0, .ref x1, .ref x2, .ref x3, .ref x4, .ref x5])), (x0, .inr (0, [.ref b0, .ref b1, .ref b2, .ref b3, .ref b4, .ref b5, .ref b6, .ref b7, .ref b8, .ref b9, .ref b10, .ref b11, .int 0, .int 0, .int 0]))] s.heap.size = A at hD hX ⊢
  have hA : ∀ q : Nat, s.heap.size ≤ q → A q := fun q h => by rw [← hAe]; exact Or.inr h
  have hS : va_S A s.heap s.heap [] := va_S.rf
  have hl := lv_entry [.ref x, .int p0, .int p1, .ref o] (n := 5) (Nat.le_of_ble_eq_true rfl)
  rw [lg_entry_eq]
  generalize (lg_sl [.ref x, .int p0, .int p1, .ref o] ++ List.replicate (5 - (lg_sl [.ref x, .int p0, .int p1, .ref o]).length) Slot.unset).toArray = ls at hl ⊢
  have hl : lv_has ls 5 [(0, .ref x), (1, .int p0), (2, .int p1), (3, .ref o)] := hl
  refine lv_aload_n hx hb dL_of_0 rfl (lv_at hl 3 rfl) ?_
  refine lv_iconst (v := 0) hx hb dL_of_1 (by decide) ?_
  refine lv_aload_n hx hb dL_of_2 rfl (lv_at hl 0 rfl) ?_
  refine lv_iload_n hx hb dL_of_3 rfl (lv_at hl 1 rfl) ?_
  refine lv_iload_n hx hb dL_of_4 rfl (lv_at hl 2 rfl) ?_
  have hF := va_free (wc := [(x, .inr (7, [.ref x0, .ref x1, .ref x2, .ref x3, .ref x4, .ref x5])), (x0, .inr (0, [.ref b0, .ref b1, .ref b2, .ref b3, .ref b4, .ref b5, .ref b6, .ref b7, .ref b8, .ref b9, .ref b10, .ref b11, .int 0, .int 0, .int 0]))]) hD hS hA [0, 1] rfl
  refine vx_calli (vx_runV (As := [.int p0, .int p1]) (rest := [.int 0, .ref o]) ⟨hx, hb, hml, hown, hts⟩ (x_X7_of l hl9 D cI cJ s.heap.size x x0 x1 x2 x3 x4 x5 b0 b1 b2 b3 b4 b5 b6 b7 b8 b9 b10 b11 p0 p1) (cwV 2 hts gL_of_X7_of rfl rfl rfl (by decide +kernel) ⟨Nat.le_of_ble_eq_true rfl, Nat.le_of_ble_eq_true rfl⟩) (k_preVx hE hP hD hS hA hX [0, 1] (by decide) rfl 0 rfl rfl) rfl rfl hl.1 rfl (lv_room (Nat.le_of_ble_eq_true rfl)) dL_of_5 ⟨Nat.le_of_ble_eq_true rfl, Nat.le_of_ble_eq_true rfl⟩) hS (fun q _ h => hF q h) hF (fun q _ h => hF q h) (fun E ce q9 u t H1 locs1 ht hvm _ hE9 hz hk hS1 hce hcv hcl => ?_) (fun r u t H1 locs1 ht hvm hw hB hz hk hS1 => hw.elim)
  subst hE9
  refine vx_catch (name := NSE) hown [] ⟨0, 10, 13, 13⟩ [] (by rw [htab]; rfl) (fun z hz => absurd hz List.not_mem_nil) (by decide) (by decide) (hts _ (List.mem_of_getElem? (i := 1) rfl)) (va_Nw.use rfl (hX.1 3 _ rfl)) hce hcv hcl ?_
  refine lv_astore (lv' := [(4, .ref q9), (0, .ref x), (1, .int p0), (2, .int p1), (3, .ref o)]) hx hb dL_of_13 hl (by decide) rfl (fun ls hl => ?_)
  refine lv_iconst (v := 1) hx hb dL_of_15 (by decide) ?_
  exact k_iret (u := []) hx hb hr hlk (fun k q h => by simp at h) ⟨fun i j p q h => by simp at h, fun k q h => by simp at h⟩ hS1 dL_of_16 ⟨rfl, rfl⟩
theorem dL_share_0 : decode cL_share 0 = .ok (.aload 4, 2) := by decide +kernel
theorem dL_share_2 : decode cL_share 2 = .ok (.iconst 0, 1) := by decide +kernel
theorem dL_share_3 : decode cL_share 3 = .ok (.aload_n 0, 1) := by decide +kernel
theorem dL_share_4 : decode cL_share 4 = .ok (.iload_n 1, 1) := by decide +kernel
theorem dL_share_5 : decode cL_share 5 = .ok (.iload_n 2, 1) := by decide +kernel
theorem dL_share_6 : decode cL_share 6 = .ok (.iload_n 3, 1) := by decide +kernel
theorem dL_share_7 : decode cL_share 7 = .ok (.invokevirtual 15, 3) := by decide +kernel
theorem dL_share_15 : decode cL_share 15 = .ok (.astore 5, 2) := by decide +kernel
theorem dL_share_17 : decode cL_share 17 = .ok (.iconst 1, 1) := by decide +kernel
theorem dL_share_18 : decode cL_share 18 = .ok (.ireturn, 1) := by decide +kernel
set_option maxRecDepth 20000 in
theorem ggL_share_X7_share : GoodIn wsL_share wsX7_share := goodIn_ca (goodIn_r _ [6, 7, 8, 9, 10, 11, 12, 13, 14, 15, 16, 17, 18, 19, 20, 5, 21, 22, 23, 24, 25, 26, 27, 28, 29, 30, 31, 32, 33, 34, 35, 36, 37, 38, 39, 40, 41, 42, 43, 44, 45, 46, 47, 48, 49, 50, 51, 52, 53, 54, 55, 56, 57, 58, 59, 60, 61, 62, 63, 64, 65, 66, 67, 68, 69, 70, 71, 72, 73, 74, 75, 76, 77, 78, 79, 80, 81, 82, 83, 84, 85, 86, 87, 88, 89, 90, 91, 92, 93, 94, 95, 96, 97, 98, 99, 100, 101, 102, 103, 104, 105, 106, 107, 108, 109, 110, 111, 112, 113, 114, 115, 116, 117, 118, 119, 120, 121, 122, 123, 124, 125, 126, 127, 128, 129, 130, 131, 132, 133, 134, 135, 136, 137, 138, 139, 140, 141, 142, 143, 144, 145, 146, 147, 148, 149, 150, 151, 152, 153, 154, 155, 156, 157, 158, 159, 160, 161, 162, 163, 164, 165, 166, 167, 168, 169, 170, 171, 172, 173, 174, 175, 176, 177, 178, 179, 180, 181, 182, 183, 184, 185, 186, 187, 188, 189, 190, 191, 192, 193, 194, 195, 196, 197, 198, 199, 200, 201, 202, 203, 204, 205, 206, 207, 208, 209, 210, 211, 212, 213, 214, 215, 216, 217, 218, 219, 220, 221, 222, 223, 224, 225, 226, 227, 228, 229] (by decide +kernel) (by decide +kernel)) (goodIn_sub (fun _ h => List.mem_cons_of_mem _ (List.mem_append_right _ h)) (by decide +kernel))
set_option maxRecDepth 20000 in
theorem gL_share_X7_share : GoodIn wsL_share (wsV RL 15 RX7 yX7_share wsX7_share) := goodIn_app (goodIn_of _ (by decide +kernel)) ggL_share_X7_share
set_option maxHeartbeats 4000000 in
set_option maxRecDepth 100000 in
theorem k_L_share (l : Launch) (hl9 : l.stackTraces = false) (D : va_G) (cI cJ : ClassId) (sz : Nat) (x x0 x1 x2 x3 x4 x5 b0 b1 b2 b3 b4 b5 b6 b7 b8 b9 b10 b11 o : Nat) (p0 p1 p2 : Int32) : Met l yL_share wsL_share { frames := 7, cells := 1, slots := 6, locals := 105 } (cPx D cI cJ [.ref x, .int p0, .int p1, .int p2, .ref o] sz [(x, .inr (7, [.ref x0, .ref x1, .ref x2, .ref x3, .ref x4, .ref x5])), (x0, .inr (0, [.ref b0, .ref b1, .ref b2, .ref b3, .ref b4, .ref b5, .ref b6, .ref b7, .ref b8, .ref b9, .ref b10, .ref b11, .int 0, .int 0, .int 0]))]) (cQi D (fun r u => r = 1 ∧ u = []) (va_A [(x, .inr (7, [.ref x0, .ref x1, .ref x2, .ref x3, .ref x4, .ref x5])), (x0, .inr (0, [.ref b0, .ref b1, .ref b2, .ref b3, .ref b4, .ref b5, .ref b6, .ref b7, .ref b8, .ref b9, .ref b10, .ref b11, .int 0, .int 0, .int 0]))] sz)) 1 6 (va_A [(x, .inr (7, [.ref x0, .ref x1, .ref x2, .ref x3, .ref x4, .ref x5])), (x0, .inr (0, [.ref b0, .ref b1, .ref b2, .ref b3, .ref b4, .ref b5, .ref b6, .ref b7, .ref b8, .ref b9, .ref b10, .ref b11, .int 0, .int 0, .int 0]))] sz) := by
  refine k_ofWH (cc := cL_share) (maxL := 6) (ret := some .int) (by decide) rfl ?_
  intro p e s m args below meth c s₁ B hml htab hv
  obtain ⟨rfl, ⟨hsz, hP, hE, hD0⟩, hX⟩ := hv
  have hx := B.exec
  have hb := B.bytes
  have hr := B.returns
  have hlk := B.notSynchronized
  have hts := atoms_spec (ws := wsL_share) B.pre
  have hown : s.vm.findClass RL = some m.cls := findClass_of_methodNamed B.named
  subst hsz
  have hD := hD0.self (sz := s.heap.size)
  generalize hAe : va_A [(x, .inr (7, [.ref x0, .ref x1, .ref x2, .ref x3, .ref x4, .ref x5])), (x0, .inr (0, [.ref b0, .ref b1, .ref b2, .ref b3, .ref b4, .ref b5, .ref b6, .ref b7, .ref b8, .ref b9, .ref b10, .ref b11, .int 0, .int 0, .int 0]))] s.heap.size = A at hD hX ⊢
  have hA : ∀ q : Nat, s.heap.size ≤ q → A q := fun q h => by rw [← hAe]; exact Or.inr h
  have hS : va_S A s.heap s.heap [] := va_S.rf
  have hl := lv_entry [.ref x, .int p0, .int p1, .int p2, .ref o] (n := 6) (Nat.le_of_ble_eq_true rfl)
  rw [lg_entry_eq]
  generalize (lg_sl [.ref x, .int p0, .int p1, .int p2, .ref o] ++ List.replicate (6 - (lg_sl [.ref x, .int p0, .int p1, .int p2, .ref o]).length) Slot.unset).toArray = ls at hl ⊢
  have hl : lv_has ls 6 [(0, .ref x), (1, .int p0), (2, .int p1), (3, .int p2), (4, .ref o)] := hl
  refine lv_aload hx hb dL_share_0 (lv_at hl 4 rfl) ?_
  refine lv_iconst (v := 0) hx hb dL_share_2 (by decide) ?_
  refine lv_aload_n hx hb dL_share_3 rfl (lv_at hl 0 rfl) ?_
  refine lv_iload_n hx hb dL_share_4 rfl (lv_at hl 1 rfl) ?_
  refine lv_iload_n hx hb dL_share_5 rfl (lv_at hl 2 rfl) ?_
  refine lv_iload_n hx hb dL_share_6 rfl (lv_at hl 3 rfl) ?_
  have hF := va_free (wc := [(x, .inr (7, [.ref x0, .ref x1, .ref x2, .ref x3, .ref x4, .ref x5])), (x0, .inr (0, [.ref b0, .ref b1, .ref b2, .ref b3, .ref b4, .ref b5, .ref b6, .ref b7, .ref b8, .ref b9, .ref b10, .ref b11, .int 0, .int 0, .int 0]))]) hD hS hA [0, 1] rfl
  refine vx_calli (vx_runV (As := [.int p0, .int p1, .int p2]) (rest := [.int 0, .ref o]) ⟨hx, hb, hml, hown, hts⟩ (x_X7_share l hl9 D cI cJ s.heap.size x x0 x1 x2 x3 x4 x5 b0 b1 b2 b3 b4 b5 b6 b7 b8 b9 b10 b11 p0 p1 p2) (cwV 3 hts gL_share_X7_share rfl rfl rfl (by decide +kernel) ⟨Nat.le_of_ble_eq_true rfl, Nat.le_of_ble_eq_true rfl⟩) (k_preVx hE hP hD hS hA hX [0, 1] (by decide) rfl 0 rfl rfl) rfl rfl hl.1 rfl (lv_room (Nat.le_of_ble_eq_true rfl)) dL_share_7 ⟨Nat.le_of_ble_eq_true rfl, Nat.le_of_ble_eq_true rfl⟩) hS (fun q _ h => hF q h) hF (fun q _ h => hF q h) (fun E ce q9 u t H1 locs1 ht hvm _ hE9 hz hk hS1 hce hcv hcl => ?_) (fun r u t H1 locs1 ht hvm hw hB hz hk hS1 => hw.elim)
  subst hE9
  refine vx_catch (name := NSE) hown [] ⟨0, 12, 15, 13⟩ [] (by rw [htab]; rfl) (fun z hz => absurd hz List.not_mem_nil) (by decide) (by decide) (hts _ (List.mem_of_getElem? (i := 1) rfl)) (va_Nw.use rfl (hX.1 3 _ rfl)) hce hcv hcl ?_
  refine lv_astore (lv' := [(5, .ref q9), (0, .ref x), (1, .int p0), (2, .int p1), (3, .int p2), (4, .ref o)]) hx hb dL_share_15 hl (by decide) rfl (fun ls hl => ?_)
  refine lv_iconst (v := 1) hx hb dL_share_17 (by decide) ?_
  exact k_iret (u := []) hx hb hr hlk (fun k q h => by simp at h) ⟨fun i j p q h => by simp at h, fun k q h => by simp at h⟩ hS1 dL_share_18 ⟨rfl, rfl⟩
